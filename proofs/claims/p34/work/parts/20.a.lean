set_option maxHeartbeats 4000000 in
set_option maxRecDepth 100000 in
theorem k_X8_within (l : Launch) (g : zG) (pe : Int32) (ct : Nat → va_E) (n : Int32) (lo : Int32) (hi : Int32) (hI : Inv8 g idn pe ct) : DM l g pNo false yX8_within cX8_within 3 (some .boolean) ({ frames := 0, cells := 0, slots := 0, locals := 0 }) (fun (ct2 : Nat → va_E) (rr : Option Value) => ∃ (r : Int32), rr = some (.int r) ∧ ((r = 1 ∧ (lo.toInt ≤ n.toInt) ∧ (n.toInt ≤ hi.toInt)) ∨ (r = 0 ∧ (¬ (lo.toInt ≤ n.toInt ∧ n.toInt ≤ hi.toInt)))) ∧ ct = ct2) ct [.int n, .int lo, .int hi] := by
  refine DM.K (fun K hK => ?_)
  refine GW.met (own := RX8) (loc := [(0, .int n), (1, .int lo), (2, .int hi)]) (by decide) rfl rfl (Nat.le_of_ble_eq_true rfl) ?_
  have hpe0 := hI.1
  have rg_n := z_rng n
  have rg_lo := z_rng lo
  have rg_hi := z_rng hi
  refine dv_iload_n dX8_within_0 rfl 0 rfl ?_
  refine dv_iload_n dX8_within_1 rfl 1 rfl ?_
  refine dv_icmp_lt (tgt := 14) dX8_within_2 (by decide) (fun c1 => ?_) (fun c1 => ?_)
  · skip
    have c1 : n.toInt < lo.toInt := (z_lt rfl rfl).mp c1
    refine dv_iconst (v := 0) dX8_within_14 (by decide) ?_
    have q2 : (0 : Int32).toInt = 0 := by decide
    exact dv_zret dX8_within_15 rfl rfl (by first | exact Nat.zero_le _ | decide) (by first | exact Nat.zero_le _ | decide) (by subst hK; exact ⟨0, rfl, (by first | exact Or.inl ⟨rfl, by omega⟩ | exact Or.inr ⟨rfl, by omega⟩ | exact Or.inl rfl | exact Or.inr rfl | exact Or.inl ⟨rfl, by omega, by omega⟩ | exact (z_01 (by omega) (by omega)).symm), rfl⟩)
  · skip
    have c1 : ¬ (n.toInt < lo.toInt) := fun q => c1 ((z_lt rfl rfl).mpr q)
    refine dv_iload_n dX8_within_5 rfl 0 rfl ?_
    refine dv_iload_n dX8_within_6 rfl 2 rfl ?_
    refine dv_icmp_gt (tgt := 14) dX8_within_7 (by decide) (fun c3 => ?_) (fun c3 => ?_)
    · skip
      have c3 : hi.toInt < n.toInt := (z_lt rfl rfl).mp c3
      refine dv_iconst (v := 0) dX8_within_14 (by decide) ?_
      have q4 : (0 : Int32).toInt = 0 := by decide
      exact dv_zret dX8_within_15 rfl rfl (by first | exact Nat.zero_le _ | decide) (by first | exact Nat.zero_le _ | decide) (by subst hK; exact ⟨0, rfl, (by first | exact Or.inl ⟨rfl, by omega⟩ | exact Or.inr ⟨rfl, by omega⟩ | exact Or.inl rfl | exact Or.inr rfl | exact Or.inl ⟨rfl, by omega, by omega⟩ | exact (z_01 (by omega) (by omega)).symm), rfl⟩)
    · skip
      have c3 : ¬ (hi.toInt < n.toInt) := fun q => c3 ((z_lt rfl rfl).mpr q)
      refine dv_iconst (v := 1) dX8_within_10 (by decide) ?_
      refine dv_goto (tgt := 15) dX8_within_11 (by decide) ?_
      have q5 : (1 : Int32).toInt = 1 := by decide
      exact dv_zret dX8_within_15 rfl rfl (by first | exact Nat.zero_le _ | decide) (by first | exact Nat.zero_le _ | decide) (by subst hK; exact ⟨1, rfl, (by first | exact Or.inl ⟨rfl, by omega⟩ | exact Or.inr ⟨rfl, by omega⟩ | exact Or.inl rfl | exact Or.inr rfl | exact Or.inl ⟨rfl, by omega, by omega⟩ | exact (z_01 (by omega) (by omega)).symm), rfl⟩)

set_option maxHeartbeats 4000000 in
set_option maxRecDepth 100000 in
theorem k_X8_isColumn (l : Launch) (g : zG) (pe : Int32) (ct : Nat → va_E) (n : Int32) (hI : Inv8 g idn pe ct) : DM l g pNo false yX8_isColumn cX8_isColumn 1 (some .boolean) ({ frames := 0, cells := 0, slots := 0, locals := 0 }) (fun (ct2 : Nat → va_E) (rr : Option Value) => ∃ (r : Int32), rr = some (.int r) ∧ ((r = 1 ∧ (0 ≤ n.toInt) ∧ (n.toInt ≤ 3)) ∨ (r = 0 ∧ (¬ (0 ≤ n.toInt ∧ n.toInt ≤ 3)))) ∧ ct = ct2) ct [.int n] := by
  refine DM.K (fun K hK => ?_)
  refine GW.met (own := RX8) (loc := [(0, .int n)]) (by decide) rfl rfl (Nat.le_of_ble_eq_true rfl) ?_
  have hpe0 := hI.1
  have rg_n := z_rng n
  refine dv_iload_n dX8_isColumn_0 rfl 0 rfl ?_
  refine dv_if_lt (tgt := 13) dX8_isColumn_1 (by decide) (fun c1 => ?_) (fun c1 => ?_)
  · skip
    have c1 : n.toInt < 0 := (z_lt rfl (by decide : (0 : Int32).toInt = 0)).mp c1
    refine dv_iconst (v := 0) dX8_isColumn_13 (by decide) ?_
    have q2 : (0 : Int32).toInt = 0 := by decide
    exact dv_zret dX8_isColumn_14 rfl rfl (by first | exact Nat.zero_le _ | decide) (by first | exact Nat.zero_le _ | decide) (by subst hK; exact ⟨0, rfl, (by first | exact Or.inl ⟨rfl, by omega⟩ | exact Or.inr ⟨rfl, by omega⟩ | exact Or.inl rfl | exact Or.inr rfl | exact Or.inl ⟨rfl, by omega, by omega⟩ | exact (z_01 (by omega) (by omega)).symm), rfl⟩)
  · skip
    have c1 : ¬ (n.toInt < 0) := fun q => c1 ((z_lt rfl (by decide : (0 : Int32).toInt = 0)).mpr q)
    refine dv_iload_n dX8_isColumn_4 rfl 0 rfl ?_
    refine dv_iconst (v := 4) dX8_isColumn_5 (by decide) ?_
    refine dv_icmp_ge (tgt := 13) dX8_isColumn_6 (by decide) (fun c3 => ?_) (fun c3 => ?_)
    · skip
      have c3 : 4 ≤ n.toInt := (z_le (by decide : (4 : Int32).toInt = 4) rfl).mp c3
      refine dv_iconst (v := 0) dX8_isColumn_13 (by decide) ?_
      have q4 : (0 : Int32).toInt = 0 := by decide
      exact dv_zret dX8_isColumn_14 rfl rfl (by first | exact Nat.zero_le _ | decide) (by first | exact Nat.zero_le _ | decide) (by subst hK; exact ⟨0, rfl, (by first | exact Or.inl ⟨rfl, by omega⟩ | exact Or.inr ⟨rfl, by omega⟩ | exact Or.inl rfl | exact Or.inr rfl | exact Or.inl ⟨rfl, by omega, by omega⟩ | exact (z_01 (by omega) (by omega)).symm), rfl⟩)
    · skip
      have c3 : ¬ (4 ≤ n.toInt) := fun q => c3 ((z_le (by decide : (4 : Int32).toInt = 4) rfl).mpr q)
      refine dv_iconst (v := 1) dX8_isColumn_9 (by decide) ?_
      refine dv_goto (tgt := 14) dX8_isColumn_10 (by decide) ?_
      have q5 : (1 : Int32).toInt = 1 := by decide
      exact dv_zret dX8_isColumn_14 rfl rfl (by first | exact Nat.zero_le _ | decide) (by first | exact Nat.zero_le _ | decide) (by subst hK; exact ⟨1, rfl, (by first | exact Or.inl ⟨rfl, by omega⟩ | exact Or.inr ⟨rfl, by omega⟩ | exact Or.inl rfl | exact Or.inr rfl | exact Or.inl ⟨rfl, by omega, by omega⟩ | exact (z_01 (by omega) (by omega)).symm), rfl⟩)

set_option maxHeartbeats 4000000 in
set_option maxRecDepth 100000 in
theorem k_X8_isValue (l : Launch) (g : zG) (pe : Int32) (ct : Nat → va_E) (n : Int32) (hI : Inv8 g idn pe ct) : DM l g pNo false yX8_isValue cX8_isValue 1 (some .boolean) ({ frames := 1, cells := 0, slots := 0, locals := 22 }) (fun (ct2 : Nat → va_E) (rr : Option Value) => ∃ (r : Int32), rr = some (.int r) ∧ ((r = 1 ∧ (0 ≤ n.toInt) ∧ (n.toInt ≤ 15)) ∨ (r = 0 ∧ (¬ (0 ≤ n.toInt ∧ n.toInt ≤ 15)))) ∧ ct = ct2) ct [.int n] := by
  refine DM.K (fun K hK => ?_)
  refine GW.met (own := RX8) (loc := [(0, .int n)]) (by decide) rfl rfl (Nat.le_of_ble_eq_true rfl) ?_
  have hpe0 := hI.1
  have rg_n := z_rng n
  refine dv_iload_n dX8_isValue_0 rfl 0 rfl ?_
  refine dv_iconst (v := 0) dX8_isValue_1 (by decide) ?_
  refine dv_bipush (v := 15) dX8_isValue_2 (by decide) ?_
  refine GW.callS (n := 3) (As := [.int n, .int 0, .int 15]) (rest := []) (k_X8_within l g pe ct n (0 : Int32) (15 : Int32) hI) (fun _ h => h) rfl rfl mm_355 mm_356 mm_52 mm_357 (by decide +kernel) ⟨Nat.le_of_ble_eq_true rfl, Nat.le_of_ble_eq_true rfl⟩ rfl (Nat.le_of_ble_eq_true rfl) dX8_isValue_4 (Nat.zero_le _) (Nat.zero_le _) rfl (fun ct1 rrr2 hBr2 hoff3 => ?_)
  obtain ⟨r2, rfl, hr2, rfl⟩ := hBr2
  refine GW.eq (S2 := [.int r2]) rfl rfl rfl ?_
  rcases hr2 with hr2 | hr2
  · skip
    obtain ⟨rfl, h4, h5⟩ := hr2
    have h4 : (0 : Int) ≤ n.toInt := h4
    have h5 : n.toInt ≤ (15 : Int) := h5
    have q6 : (1 : Int32).toInt = 1 := by decide
    exact dv_zret dX8_isValue_7 rfl rfl (by first | exact Nat.zero_le _ | decide) (by first | exact Nat.zero_le _ | decide) (by subst hK; exact ⟨1, rfl, (by first | exact Or.inl ⟨rfl, by omega⟩ | exact Or.inr ⟨rfl, by omega⟩ | exact Or.inl rfl | exact Or.inr rfl | exact Or.inl ⟨rfl, by omega, by omega⟩ | exact (z_01 (by omega) (by omega)).symm), rfl⟩)
  · skip
    obtain ⟨rfl, h7⟩ := hr2
    have h7 : ¬ ((0 : Int) ≤ n.toInt ∧ n.toInt ≤ (15 : Int)) := h7
    have q8 : (0 : Int32).toInt = 0 := by decide
    exact dv_zret dX8_isValue_7 rfl rfl (by first | exact Nat.zero_le _ | decide) (by first | exact Nat.zero_le _ | decide) (by subst hK; exact ⟨0, rfl, (by first | exact Or.inl ⟨rfl, by omega⟩ | exact Or.inr ⟨rfl, by omega⟩ | exact Or.inl rfl | exact Or.inr rfl | exact Or.inl ⟨rfl, by omega, by omega⟩ | exact (z_01 (by omega) (by omega)).symm), rfl⟩)

set_option maxHeartbeats 4000000 in
set_option maxRecDepth 100000 in
theorem k_X8_isLevel (l : Launch) (g : zG) (pe : Int32) (ct : Nat → va_E) (n : Int32) (hI : Inv8 g idn pe ct) : DM l g pNo false yX8_isLevel cX8_isLevel 1 (some .boolean) ({ frames := 1, cells := 0, slots := 0, locals := 22 }) (fun (ct2 : Nat → va_E) (rr : Option Value) => ∃ (r : Int32), rr = some (.int r) ∧ ((r = 1 ∧ (0 ≤ n.toInt) ∧ (n.toInt ≤ 4)) ∨ (r = 0 ∧ (¬ (0 ≤ n.toInt ∧ n.toInt ≤ 4)))) ∧ ct = ct2) ct [.int n] := by
  refine DM.K (fun K hK => ?_)
  refine GW.met (own := RX8) (loc := [(0, .int n)]) (by decide) rfl rfl (Nat.le_of_ble_eq_true rfl) ?_
  have hpe0 := hI.1
  have rg_n := z_rng n
  refine dv_iload_n dX8_isLevel_0 rfl 0 rfl ?_
  refine dv_iconst (v := 0) dX8_isLevel_1 (by decide) ?_
  refine dv_iconst (v := 4) dX8_isLevel_2 (by decide) ?_
  refine GW.callS (n := 3) (As := [.int n, .int 0, .int 4]) (rest := []) (k_X8_within l g pe ct n (0 : Int32) (4 : Int32) hI) (fun _ h => h) rfl rfl mm_355 mm_356 mm_52 mm_357 (by decide +kernel) ⟨Nat.le_of_ble_eq_true rfl, Nat.le_of_ble_eq_true rfl⟩ rfl (Nat.le_of_ble_eq_true rfl) dX8_isLevel_3 (Nat.zero_le _) (Nat.zero_le _) rfl (fun ct1 rrr2 hBr2 hoff3 => ?_)
  obtain ⟨r2, rfl, hr2, rfl⟩ := hBr2
  refine GW.eq (S2 := [.int r2]) rfl rfl rfl ?_
  rcases hr2 with hr2 | hr2
  · skip
    obtain ⟨rfl, h4, h5⟩ := hr2
    have h4 : (0 : Int) ≤ n.toInt := h4
    have h5 : n.toInt ≤ (4 : Int) := h5
    have q6 : (1 : Int32).toInt = 1 := by decide
    exact dv_zret dX8_isLevel_6 rfl rfl (by first | exact Nat.zero_le _ | decide) (by first | exact Nat.zero_le _ | decide) (by subst hK; exact ⟨1, rfl, (by first | exact Or.inl ⟨rfl, by omega⟩ | exact Or.inr ⟨rfl, by omega⟩ | exact Or.inl rfl | exact Or.inr rfl | exact Or.inl ⟨rfl, by omega, by omega⟩ | exact (z_01 (by omega) (by omega)).symm), rfl⟩)
  · skip
    obtain ⟨rfl, h7⟩ := hr2
    have h7 : ¬ ((0 : Int) ≤ n.toInt ∧ n.toInt ≤ (4 : Int)) := h7
    have q8 : (0 : Int32).toInt = 0 := by decide
    exact dv_zret dX8_isLevel_6 rfl rfl (by first | exact Nat.zero_le _ | decide) (by first | exact Nat.zero_le _ | decide) (by subst hK; exact ⟨0, rfl, (by first | exact Or.inl ⟨rfl, by omega⟩ | exact Or.inr ⟨rfl, by omega⟩ | exact Or.inl rfl | exact Or.inr rfl | exact Or.inl ⟨rfl, by omega, by omega⟩ | exact (z_01 (by omega) (by omega)).symm), rfl⟩)

set_option maxHeartbeats 4000000 in
set_option maxRecDepth 100000 in
theorem k_X8_isBar (l : Launch) (g : zG) (pe : Int32) (ct : Nat → va_E) (n : Int32) (hI : Inv8 g idn pe ct) : DM l g pNo false yX8_isBar cX8_isBar 1 (some .boolean) ({ frames := 1, cells := 0, slots := 0, locals := 22 }) (fun (ct2 : Nat → va_E) (rr : Option Value) => ∃ (r : Int32), rr = some (.int r) ∧ ((r = 1 ∧ (1 ≤ n.toInt) ∧ (n.toInt ≤ 16)) ∨ (r = 0 ∧ (¬ (1 ≤ n.toInt ∧ n.toInt ≤ 16)))) ∧ ct = ct2) ct [.int n] := by
  refine DM.K (fun K hK => ?_)
  refine GW.met (own := RX8) (loc := [(0, .int n)]) (by decide) rfl rfl (Nat.le_of_ble_eq_true rfl) ?_
  have hpe0 := hI.1
  have rg_n := z_rng n
  refine dv_iload_n dX8_isBar_0 rfl 0 rfl ?_
  refine dv_iconst (v := 1) dX8_isBar_1 (by decide) ?_
  refine dv_bipush (v := 16) dX8_isBar_2 (by decide) ?_
  refine GW.callS (n := 3) (As := [.int n, .int 1, .int 16]) (rest := []) (k_X8_within l g pe ct n (1 : Int32) (16 : Int32) hI) (fun _ h => h) rfl rfl mm_355 mm_356 mm_52 mm_357 (by decide +kernel) ⟨Nat.le_of_ble_eq_true rfl, Nat.le_of_ble_eq_true rfl⟩ rfl (Nat.le_of_ble_eq_true rfl) dX8_isBar_4 (Nat.zero_le _) (Nat.zero_le _) rfl (fun ct1 rrr2 hBr2 hoff3 => ?_)
  obtain ⟨r2, rfl, hr2, rfl⟩ := hBr2
  refine GW.eq (S2 := [.int r2]) rfl rfl rfl ?_
  rcases hr2 with hr2 | hr2
  · skip
    obtain ⟨rfl, h4, h5⟩ := hr2
    have h4 : (1 : Int) ≤ n.toInt := h4
    have h5 : n.toInt ≤ (16 : Int) := h5
    have q6 : (1 : Int32).toInt = 1 := by decide
    exact dv_zret dX8_isBar_7 rfl rfl (by first | exact Nat.zero_le _ | decide) (by first | exact Nat.zero_le _ | decide) (by subst hK; exact ⟨1, rfl, (by first | exact Or.inl ⟨rfl, by omega⟩ | exact Or.inr ⟨rfl, by omega⟩ | exact Or.inl rfl | exact Or.inr rfl | exact Or.inl ⟨rfl, by omega, by omega⟩ | exact (z_01 (by omega) (by omega)).symm), rfl⟩)
  · skip
    obtain ⟨rfl, h7⟩ := hr2
    have h7 : ¬ ((1 : Int) ≤ n.toInt ∧ n.toInt ≤ (16 : Int)) := h7
    have q8 : (0 : Int32).toInt = 0 := by decide
    exact dv_zret dX8_isBar_7 rfl rfl (by first | exact Nat.zero_le _ | decide) (by first | exact Nat.zero_le _ | decide) (by subst hK; exact ⟨0, rfl, (by first | exact Or.inl ⟨rfl, by omega⟩ | exact Or.inr ⟨rfl, by omega⟩ | exact Or.inl rfl | exact Or.inr rfl | exact Or.inl ⟨rfl, by omega, by omega⟩ | exact (z_01 (by omega) (by omega)).symm), rfl⟩)

set_option maxHeartbeats 4000000 in
set_option maxRecDepth 100000 in
theorem k_X8_areGossips (l : Launch) (g : zG) (pe : Int32) (ct : Nat → va_E) (n : Int32) (hI : Inv8 g idn pe ct) : DM l g pNo false yX8_areGossips cX8_areGossips 1 (some .boolean) ({ frames := 1, cells := 0, slots := 0, locals := 22 }) (fun (ct2 : Nat → va_E) (rr : Option Value) => ∃ (r : Int32), rr = some (.int r) ∧ ((r = 1 ∧ (0 ≤ n.toInt) ∧ (n.toInt ≤ 255)) ∨ (r = 0 ∧ (¬ (0 ≤ n.toInt ∧ n.toInt ≤ 255)))) ∧ ct = ct2) ct [.int n] := by
  refine DM.K (fun K hK => ?_)
  refine GW.met (own := RX8) (loc := [(0, .int n)]) (by decide) rfl rfl (Nat.le_of_ble_eq_true rfl) ?_
  have hpe0 := hI.1
  have rg_n := z_rng n
  refine dv_iload_n dX8_areGossips_0 rfl 0 rfl ?_
  refine dv_iconst (v := 0) dX8_areGossips_1 (by decide) ?_
  refine dv_sipush (v := 255) dX8_areGossips_2 (by decide) ?_
  refine GW.callS (n := 3) (As := [.int n, .int 0, .int 255]) (rest := []) (k_X8_within l g pe ct n (0 : Int32) (255 : Int32) hI) (fun _ h => h) rfl rfl mm_355 mm_356 mm_52 mm_357 (by decide +kernel) ⟨Nat.le_of_ble_eq_true rfl, Nat.le_of_ble_eq_true rfl⟩ rfl (Nat.le_of_ble_eq_true rfl) dX8_areGossips_5 (Nat.zero_le _) (Nat.zero_le _) rfl (fun ct1 rrr2 hBr2 hoff3 => ?_)
  obtain ⟨r2, rfl, hr2, rfl⟩ := hBr2
  refine GW.eq (S2 := [.int r2]) rfl rfl rfl ?_
  rcases hr2 with hr2 | hr2
  · skip
    obtain ⟨rfl, h4, h5⟩ := hr2
    have h4 : (0 : Int) ≤ n.toInt := h4
    have h5 : n.toInt ≤ (255 : Int) := h5
    have q6 : (1 : Int32).toInt = 1 := by decide
    exact dv_zret dX8_areGossips_8 rfl rfl (by first | exact Nat.zero_le _ | decide) (by first | exact Nat.zero_le _ | decide) (by subst hK; exact ⟨1, rfl, (by first | exact Or.inl ⟨rfl, by omega⟩ | exact Or.inr ⟨rfl, by omega⟩ | exact Or.inl rfl | exact Or.inr rfl | exact Or.inl ⟨rfl, by omega, by omega⟩ | exact (z_01 (by omega) (by omega)).symm), rfl⟩)
  · skip
    obtain ⟨rfl, h7⟩ := hr2
    have h7 : ¬ ((0 : Int) ≤ n.toInt ∧ n.toInt ≤ (255 : Int)) := h7
    have q8 : (0 : Int32).toInt = 0 := by decide
    exact dv_zret dX8_areGossips_8 rfl rfl (by first | exact Nat.zero_le _ | decide) (by first | exact Nat.zero_le _ | decide) (by subst hK; exact ⟨0, rfl, (by first | exact Or.inl ⟨rfl, by omega⟩ | exact Or.inr ⟨rfl, by omega⟩ | exact Or.inl rfl | exact Or.inr rfl | exact Or.inl ⟨rfl, by omega, by omega⟩ | exact (z_01 (by omega) (by omega)).symm), rfl⟩)

set_option maxHeartbeats 4000000 in
set_option maxRecDepth 100000 in
theorem k_X8_lowest (l : Launch) (g : zG) (pe : Int32) (ct : Nat → va_E) (set : Int32) (hI : Inv8 g idn pe ct) : DM l g pNo false yX8_lowest cX8_lowest 2 (some .int) ({ frames := 0, cells := 0, slots := 0, locals := 0 }) (fun (ct2 : Nat → va_E) (rr : Option Value) => ∃ (r : Int32), rr = some (.int r) ∧ (((-1 ≤ r.toInt) ∧ (r.toInt ≤ 31))) ∧ ct = ct2) ct [.int set] := by
  refine DM.K (fun K hK => ?_)
  refine GW.met (own := RX8) (loc := [(0, .int set)]) (by decide) rfl rfl (Nat.le_of_ble_eq_true rfl) ?_
  have hpe0 := hI.1
  have rg_set := z_rng set
  refine dv_iconst (v := 0) dX8_lowest_0 (by decide) ?_
  refine dv_istore_n (lv' := [(1, .int 0), (0, .int set)]) dX8_lowest_1 rfl (by decide) rfl ?_
  have loop2 : ∀ (n2 : Nat) (v1_2 : Int32), ((32 - v1_2.toInt : Int).toNat < n2) → (0 ≤ v1_2.toInt ∧ v1_2.toInt ≤ 32) → GW l g pNo pNo false yX8_lowest cX8_lowest 2 (some .int) RX8 ({ frames := 0, cells := 0, slots := 0, locals := 0 }) K 0 0 ct 2 [(1, .int v1_2), (0, .int set)] [] := by
    intro n2
    induction n2 with
    | zero =>
      intro v1_2 hn2 b1_2
      exact absurd hn2 (Nat.not_lt_zero _)
    | succ n2 ih2 =>
      intro v1_2 hn2 b1_2
      refine dv_iload_n dX8_lowest_2 rfl 0 rfl ?_
      refine dv_bipush (v := 32) dX8_lowest_3 (by decide) ?_
      refine dv_icmp_ge (tgt := 25) dX8_lowest_5 (by decide) (fun c1 => ?_) (fun c1 => ?_)
      · skip
        have c1 : 32 ≤ v1_2.toInt := (z_le (by decide : (32 : Int32).toInt = 32) rfl).mp c1
        refine dv_iconst (v := (-1)) dX8_lowest_25 (by decide) ?_
        have q2 : ((-1) : Int32).toInt = -1 := by decide
        exact dv_iret dX8_lowest_26 rfl (by first | exact Nat.zero_le _ | decide) (by first | exact Nat.zero_le _ | decide) (by subst hK; exact ⟨(-1), rfl, (⟨by first | omega | decide, by first | omega | decide⟩), rfl⟩)
      · skip
        have c1 : ¬ (32 ≤ v1_2.toInt) := fun q => c1 ((z_le (by decide : (32 : Int32).toInt = 32) rfl).mpr q)
        refine dv_iload_n dX8_lowest_8 rfl 1 rfl ?_
        refine dv_iload_n dX8_lowest_9 rfl 0 rfl ?_
        refine dv_iushr dX8_lowest_10 rfl ?_
        refine dv_topi (fun x3 ex3 => ?_)
        refine dv_iconst (v := 1) dX8_lowest_11 (by decide) ?_
        refine dv_iand dX8_lowest_12 ?_
        refine dv_topi (fun x4 ex4 => ?_)
        have tx4 := z_andr (x := x3) (y := 1) (by decide : (1 : Int32).toInt = 1) (by omega)
        rw [← ex4] at tx4
        refine dv_iconst (v := 1) dX8_lowest_13 (by decide) ?_
        refine dv_icmp_ne (tgt := 19) dX8_lowest_14 (by decide) (fun c5 => ?_) (fun c5 => ?_)
        · skip
          have c5 : ¬ (x4.toInt = 1) := fun q => c5 ((z_eq rfl (by decide : (1 : Int32).toInt = 1)).mpr q)
          obtain ⟨x6, ex6⟩ : ∃ y : Int32, y = v1_2 + 1 := ⟨_, rfl⟩
          have tx6 : x6.toInt = v1_2.toInt + 1 := by rw [ex6]; exact z_add rfl (by decide : (1 : Int32).toInt = 1) (by omega) (by omega)
          refine dv_iinc (v := x6) (lv' := [(1, .int x6), (0, .int set)]) dX8_lowest_19 (k := 0) rfl (by rw [ex6]; rfl) (by decide) rfl ?_
          refine dv_goto (tgt := 2) dX8_lowest_22 (by decide) ?_
          exact ih2 x6 (by omega) (by first | omega | decide | assumption)
        · skip
          have c5 : x4.toInt = 1 := (z_eq rfl (by decide : (1 : Int32).toInt = 1)).mp c5
          refine dv_iload_n dX8_lowest_17 rfl 0 rfl ?_
          exact dv_iret dX8_lowest_18 rfl (by first | exact Nat.zero_le _ | decide) (by first | exact Nat.zero_le _ | decide) (by subst hK; exact ⟨v1_2, rfl, (⟨by first | omega | decide, by first | omega | decide⟩), rfl⟩)
  exact loop2 ((32 - (0 : Int32).toInt : Int).toNat + 1) (0 : Int32) (by omega) (by first | omega | decide | assumption)

set_option maxHeartbeats 4000000 in
set_option maxRecDepth 100000 in
theorem k_low16 (l : Launch) (g : zG) (pe : Int32) (ct : Nat → va_E) (set : Int32) (hl_set : 0 ≤ set.toInt ∧ set.toInt ≤ 65535) (hI : Inv8 g idn pe ct) : DM l g pNo false yX8_lowest cX8_lowest 2 (some .int) ({ frames := 0, cells := 0, slots := 0, locals := 0 }) (fun (ct2 : Nat → va_E) (rr : Option Value) => ∃ (r : Int32), rr = some (.int r) ∧ (((-1 ≤ r.toInt) ∧ (r.toInt ≤ 15))) ∧ ct = ct2) ct [.int set] := by
  refine DM.K (fun K hK => ?_)
  refine GW.met (own := RX8) (loc := [(0, .int set)]) (by decide) rfl rfl (Nat.le_of_ble_eq_true rfl) ?_
  have hpe0 := hI.1
  refine dv_iconst (v := 0) dX8_lowest_0 (by decide) ?_
  refine dv_istore_n (lv' := [(1, .int 0), (0, .int set)]) dX8_lowest_1 rfl (by decide) rfl ?_
  have loop2 : ∀ (n2 : Nat) (v1_2 : Int32), ((32 - v1_2.toInt : Int).toNat < n2) → (0 ≤ v1_2.toInt ∧ v1_2.toInt ≤ 32) → GW l g pNo pNo false yX8_lowest cX8_lowest 2 (some .int) RX8 ({ frames := 0, cells := 0, slots := 0, locals := 0 }) K 0 0 ct 2 [(1, .int v1_2), (0, .int set)] [] := by
    intro n2
    induction n2 with
    | zero =>
      intro v1_2 hn2 b1_2
      exact absurd hn2 (Nat.not_lt_zero _)
    | succ n2 ih2 =>
      intro v1_2 hn2 b1_2
      refine dv_iload_n dX8_lowest_2 rfl 0 rfl ?_
      refine dv_bipush (v := 32) dX8_lowest_3 (by decide) ?_
      refine dv_icmp_ge (tgt := 25) dX8_lowest_5 (by decide) (fun c1 => ?_) (fun c1 => ?_)
      · skip
        have c1 : 32 ≤ v1_2.toInt := (z_le (by decide : (32 : Int32).toInt = 32) rfl).mp c1
        refine dv_iconst (v := (-1)) dX8_lowest_25 (by decide) ?_
        have q2 : ((-1) : Int32).toInt = -1 := by decide
        exact dv_iret dX8_lowest_26 rfl (by first | exact Nat.zero_le _ | decide) (by first | exact Nat.zero_le _ | decide) (by subst hK; exact ⟨(-1), rfl, (⟨by first | omega | decide, by first | omega | decide⟩), rfl⟩)
      · skip
        have c1 : ¬ (32 ≤ v1_2.toInt) := fun q => c1 ((z_le (by decide : (32 : Int32).toInt = 32) rfl).mpr q)
        refine dv_iload_n dX8_lowest_8 rfl 1 rfl ?_
        refine dv_iload_n dX8_lowest_9 rfl 0 rfl ?_
        refine dv_iushr dX8_lowest_10 rfl ?_
        refine dv_topi (fun x3 ex3 => ?_)
        have kx3 : v1_2.toInt ≤ 15 ∨ x3 = 0 := by
          by_cases q : v1_2.toInt ≤ 15
          · exact Or.inl q
          · exact Or.inr (by rw [ex3]; exact z_ushk (k := 16) hl_set.1 (by omega) (by omega) (by omega))
        refine dv_iconst (v := 1) dX8_lowest_11 (by decide) ?_
        refine dv_iand dX8_lowest_12 ?_
        refine dv_topi (fun x4 ex4 => ?_)
        have kx4 : v1_2.toInt ≤ 15 ∨ x4.toInt = 0 := by
          rcases kx3 with q | q
          · exact Or.inl q
          · exact Or.inr (by rw [ex4, q]; rfl)
        refine dv_iconst (v := 1) dX8_lowest_13 (by decide) ?_
        refine dv_icmp_ne (tgt := 19) dX8_lowest_14 (by decide) (fun c5 => ?_) (fun c5 => ?_)
        · skip
          have c5 : ¬ (x4.toInt = 1) := fun q => c5 ((z_eq rfl (by decide : (1 : Int32).toInt = 1)).mpr q)
          obtain ⟨x6, ex6⟩ : ∃ y : Int32, y = v1_2 + 1 := ⟨_, rfl⟩
          have tx6 : x6.toInt = v1_2.toInt + 1 := by rw [ex6]; exact z_add rfl (by decide : (1 : Int32).toInt = 1) (by omega) (by omega)
          refine dv_iinc (v := x6) (lv' := [(1, .int x6), (0, .int set)]) dX8_lowest_19 (k := 0) rfl (by rw [ex6]; rfl) (by decide) rfl ?_
          refine dv_goto (tgt := 2) dX8_lowest_22 (by decide) ?_
          exact ih2 x6 (by omega) (by first | omega | decide | assumption)
        · skip
          have c5 : x4.toInt = 1 := (z_eq rfl (by decide : (1 : Int32).toInt = 1)).mp c5
          refine dv_iload_n dX8_lowest_17 rfl 0 rfl ?_
          exact dv_iret dX8_lowest_18 rfl (by first | exact Nat.zero_le _ | decide) (by first | exact Nat.zero_le _ | decide) (by subst hK; exact ⟨v1_2, rfl, (⟨by first | omega | decide, by first | omega | decide⟩), rfl⟩)
  exact loop2 ((32 - (0 : Int32).toInt : Int).toNat + 1) (0 : Int32) (by omega) (by first | omega | decide | assumption)

set_option maxHeartbeats 4000000 in
set_option maxRecDepth 100000 in
theorem k_low8 (l : Launch) (g : zG) (pe : Int32) (ct : Nat → va_E) (set : Int32) (hl_set : 0 ≤ set.toInt ∧ set.toInt ≤ 255) (hI : Inv8 g idn pe ct) : DM l g pNo false yX8_lowest cX8_lowest 2 (some .int) ({ frames := 0, cells := 0, slots := 0, locals := 0 }) (fun (ct2 : Nat → va_E) (rr : Option Value) => ∃ (r : Int32), rr = some (.int r) ∧ (((-1 ≤ r.toInt) ∧ (r.toInt ≤ 7))) ∧ ct = ct2) ct [.int set] := by
  refine DM.K (fun K hK => ?_)
  refine GW.met (own := RX8) (loc := [(0, .int set)]) (by decide) rfl rfl (Nat.le_of_ble_eq_true rfl) ?_
  have hpe0 := hI.1
  refine dv_iconst (v := 0) dX8_lowest_0 (by decide) ?_
  refine dv_istore_n (lv' := [(1, .int 0), (0, .int set)]) dX8_lowest_1 rfl (by decide) rfl ?_
  have loop2 : ∀ (n2 : Nat) (v1_2 : Int32), ((32 - v1_2.toInt : Int).toNat < n2) → (0 ≤ v1_2.toInt ∧ v1_2.toInt ≤ 32) → GW l g pNo pNo false yX8_lowest cX8_lowest 2 (some .int) RX8 ({ frames := 0, cells := 0, slots := 0, locals := 0 }) K 0 0 ct 2 [(1, .int v1_2), (0, .int set)] [] := by
    intro n2
    induction n2 with
    | zero =>
      intro v1_2 hn2 b1_2
      exact absurd hn2 (Nat.not_lt_zero _)
    | succ n2 ih2 =>
      intro v1_2 hn2 b1_2
      refine dv_iload_n dX8_lowest_2 rfl 0 rfl ?_
      refine dv_bipush (v := 32) dX8_lowest_3 (by decide) ?_
      refine dv_icmp_ge (tgt := 25) dX8_lowest_5 (by decide) (fun c1 => ?_) (fun c1 => ?_)
      · skip
        have c1 : 32 ≤ v1_2.toInt := (z_le (by decide : (32 : Int32).toInt = 32) rfl).mp c1
        refine dv_iconst (v := (-1)) dX8_lowest_25 (by decide) ?_
        have q2 : ((-1) : Int32).toInt = -1 := by decide
        exact dv_iret dX8_lowest_26 rfl (by first | exact Nat.zero_le _ | decide) (by first | exact Nat.zero_le _ | decide) (by subst hK; exact ⟨(-1), rfl, (⟨by first | omega | decide, by first | omega | decide⟩), rfl⟩)
      · skip
        have c1 : ¬ (32 ≤ v1_2.toInt) := fun q => c1 ((z_le (by decide : (32 : Int32).toInt = 32) rfl).mpr q)
        refine dv_iload_n dX8_lowest_8 rfl 1 rfl ?_
        refine dv_iload_n dX8_lowest_9 rfl 0 rfl ?_
        refine dv_iushr dX8_lowest_10 rfl ?_
        refine dv_topi (fun x3 ex3 => ?_)
        have kx3 : v1_2.toInt ≤ 7 ∨ x3 = 0 := by
          by_cases q : v1_2.toInt ≤ 7
          · exact Or.inl q
          · exact Or.inr (by rw [ex3]; exact z_ushk (k := 8) hl_set.1 (by omega) (by omega) (by omega))
        refine dv_iconst (v := 1) dX8_lowest_11 (by decide) ?_
        refine dv_iand dX8_lowest_12 ?_
        refine dv_topi (fun x4 ex4 => ?_)
        have kx4 : v1_2.toInt ≤ 7 ∨ x4.toInt = 0 := by
          rcases kx3 with q | q
          · exact Or.inl q
          · exact Or.inr (by rw [ex4, q]; rfl)
        refine dv_iconst (v := 1) dX8_lowest_13 (by decide) ?_
        refine dv_icmp_ne (tgt := 19) dX8_lowest_14 (by decide) (fun c5 => ?_) (fun c5 => ?_)
        · skip
          have c5 : ¬ (x4.toInt = 1) := fun q => c5 ((z_eq rfl (by decide : (1 : Int32).toInt = 1)).mpr q)
          obtain ⟨x6, ex6⟩ : ∃ y : Int32, y = v1_2 + 1 := ⟨_, rfl⟩
          have tx6 : x6.toInt = v1_2.toInt + 1 := by rw [ex6]; exact z_add rfl (by decide : (1 : Int32).toInt = 1) (by omega) (by omega)
          refine dv_iinc (v := x6) (lv' := [(1, .int x6), (0, .int set)]) dX8_lowest_19 (k := 0) rfl (by rw [ex6]; rfl) (by decide) rfl ?_
          refine dv_goto (tgt := 2) dX8_lowest_22 (by decide) ?_
          exact ih2 x6 (by omega) (by first | omega | decide | assumption)
        · skip
          have c5 : x4.toInt = 1 := (z_eq rfl (by decide : (1 : Int32).toInt = 1)).mp c5
          refine dv_iload_n dX8_lowest_17 rfl 0 rfl ?_
          exact dv_iret dX8_lowest_18 rfl (by first | exact Nat.zero_le _ | decide) (by first | exact Nat.zero_le _ | decide) (by subst hK; exact ⟨v1_2, rfl, (⟨by first | omega | decide, by first | omega | decide⟩), rfl⟩)
  exact loop2 ((32 - (0 : Int32).toInt : Int).toNat + 1) (0 : Int32) (by omega) (by first | omega | decide | assumption)

set_option maxHeartbeats 4000000 in
set_option maxRecDepth 100000 in
theorem k_X8_place (l : Launch) (g : zG) (pe : Int32) (ct : Nat → va_E) (b : Int32) (i : Int32) (hI : Inv8 g idn pe ct) : DM l g pNo false yX8_place cX8_place 2 (some .int) ({ frames := 0, cells := 0, slots := 0, locals := 0 }) (fun (ct2 : Nat → va_E) (rr : Option Value) => ∃ (r : Int32), rr = some (.int r) ∧ ((True)) ∧ ct = ct2) ct [.int b, .int i] := by
  refine DM.K (fun K hK => ?_)
  refine GW.met (own := RX8) (loc := [(0, .int b), (1, .int i)]) (by decide) rfl rfl (Nat.le_of_ble_eq_true rfl) ?_
  have hpe0 := hI.1
  have rg_b := z_rng b
  have rg_i := z_rng i
  refine dv_bipush (v := 8) dX8_place_0 (by decide) ?_
  refine dv_iload_n dX8_place_2 rfl 0 rfl ?_
  refine dv_imul dX8_place_3 ?_
  refine dv_topi (fun x1 ex1 => ?_)
  refine dv_iload_n dX8_place_4 rfl 1 rfl ?_
  refine dv_iadd dX8_place_5 ?_
  refine dv_topi (fun x2 ex2 => ?_)
  exact dv_iret dX8_place_6 rfl (by first | exact Nat.zero_le _ | decide) (by first | exact Nat.zero_le _ | decide) (by subst hK; exact ⟨x2, rfl, (trivial), rfl⟩)

set_option maxHeartbeats 4000000 in
set_option maxRecDepth 100000 in
theorem k_X8_commonDivisor (l : Launch) (g : zG) (pe : Int32) (ct : Nat → va_E) (la : Int64) (lb : Int64) (hI : Inv8 g idn pe ct) : DM l g pNo false yX8_commonDivisor cX8_commonDivisor 11 (some .long) ({ frames := 0, cells := 0, slots := 0, locals := 0 }) (fun (ct2 : Nat → va_E) (rr : Option Value) => ∃ (r : Int64), rr = some (.long r) ∧ ((True)) ∧ ct = ct2) ct [.long la, .long lb] := by
  refine DM.K (fun K hK => ?_)
  refine GW.met (own := RX8) (loc := [(0, .long la), (2, .long lb)]) (by decide) rfl rfl (Nat.le_of_ble_eq_true rfl) ?_
  have hpe0 := hI.1
  refine dv_lload_n dX8_commonDivisor_0 rfl 0 rfl ?_
  refine dv_lstore (lv' := [(4, .long la), (0, .long la), (2, .long lb)]) dX8_commonDivisor_1 (by decide) rfl ?_
  refine dv_lload_n dX8_commonDivisor_3 rfl 2 rfl ?_
  refine dv_lstore (lv' := [(6, .long lb), (4, .long la), (0, .long la), (2, .long lb)]) dX8_commonDivisor_4 (by decide) rfl ?_
  refine dv_iconst (v := 0) dX8_commonDivisor_6 (by decide) ?_
  refine dv_istore (lv' := [(8, .int 0), (6, .long lb), (4, .long la), (0, .long la), (2, .long lb)]) dX8_commonDivisor_7 (by decide) rfl ?_
  have loop9 : ∀ (n9 : Nat) (v8_9 : Int32) (v6_9 : Int64) (v4_9 : Int64), ((1000 - v8_9.toInt : Int).toNat < n9) → (0 ≤ v8_9.toInt ∧ v8_9.toInt ≤ 1000) → GW l g pNo pNo false yX8_commonDivisor cX8_commonDivisor 11 (some .long) RX8 ({ frames := 0, cells := 0, slots := 0, locals := 0 }) K 0 0 ct 9 [(8, .int v8_9), (6, .long v6_9), (4, .long v4_9), (0, .long la), (2, .long lb)] [] := by
    intro n9
    induction n9 with
    | zero =>
      intro v8_9 v6_9 v4_9 hn9 b8_9
      exact absurd hn9 (Nat.not_lt_zero _)
    | succ n9 ih9 =>
      intro v8_9 v6_9 v4_9 hn9 b8_9
      refine dv_iload dX8_commonDivisor_9 0 rfl ?_
      refine dv_sipush (v := 1000) dX8_commonDivisor_11 (by decide) ?_
      refine dv_icmp_ge (tgt := 45) dX8_commonDivisor_14 (by decide) (fun c1 => ?_) (fun c1 => ?_)
      · skip
        have c1 : 1000 ≤ v8_9.toInt := (z_le (by decide : (1000 : Int32).toInt = 1000) rfl).mp c1
        refine dv_lload dX8_commonDivisor_45 2 rfl ?_
        exact dv_lret dX8_commonDivisor_47 rfl (by first | exact Nat.zero_le _ | decide) (by first | exact Nat.zero_le _ | decide) (by subst hK; exact ⟨v4_9, rfl, (trivial), rfl⟩)
      · skip
        have c1 : ¬ (1000 ≤ v8_9.toInt) := fun q => c1 ((z_le (by decide : (1000 : Int32).toInt = 1000) rfl).mpr q)
        refine dv_lload dX8_commonDivisor_17 1 rfl ?_
        refine dv_lconst (v := 0) dX8_commonDivisor_19 (by decide) ?_
        refine dv_lcmp dX8_commonDivisor_20 ?_
        refine dv_if_eq (tgt := 45) dX8_commonDivisor_21 (by decide) (fun c2 => ?_) (fun c2 => ?_)
        · skip
          have c2 := (lg_cmp_eq _ _).mp c2
          refine dv_lload dX8_commonDivisor_45 2 rfl ?_
          exact dv_lret dX8_commonDivisor_47 rfl (by first | exact Nat.zero_le _ | decide) (by first | exact Nat.zero_le _ | decide) (by subst hK; exact ⟨v4_9, rfl, (trivial), rfl⟩)
        · skip
          have c2 := fun q => c2 ((lg_cmp_eq _ _).mpr q)
          have c2 : ¬ (v6_9 = (0 : Int64)) := c2
          refine dv_lload dX8_commonDivisor_24 2 rfl ?_
          refine dv_lload dX8_commonDivisor_26 1 rfl ?_
          refine dv_lrem dX8_commonDivisor_28 (by assumption) ?_
          refine dv_topl (fun x3 ex3 => ?_)
          refine dv_lstore (lv' := [(9, .long x3), (8, .int v8_9), (6, .long v6_9), (4, .long v4_9), (0, .long la), (2, .long lb)]) dX8_commonDivisor_29 (by decide) rfl ?_
          refine dv_lload dX8_commonDivisor_31 2 rfl ?_
          refine dv_lstore (lv' := [(4, .long v6_9), (9, .long x3), (8, .int v8_9), (6, .long v6_9), (0, .long la), (2, .long lb)]) dX8_commonDivisor_33 (by decide) rfl ?_
          refine dv_lload dX8_commonDivisor_35 1 rfl ?_
          refine dv_lstore (lv' := [(6, .long x3), (4, .long v6_9), (9, .long x3), (8, .int v8_9), (0, .long la), (2, .long lb)]) dX8_commonDivisor_37 (by decide) rfl ?_
          obtain ⟨x4, ex4⟩ : ∃ y : Int32, y = v8_9 + 1 := ⟨_, rfl⟩
          have tx4 : x4.toInt = v8_9.toInt + 1 := by rw [ex4]; exact z_add rfl (by decide : (1 : Int32).toInt = 1) (by omega) (by omega)
          refine dv_iinc (v := x4) (lv' := [(8, .int x4), (6, .long x3), (4, .long v6_9), (9, .long x3), (0, .long la), (2, .long lb)]) dX8_commonDivisor_39 (k := 3) rfl (by rw [ex4]; rfl) (by decide) rfl ?_
          refine dv_goto (tgt := 9) dX8_commonDivisor_42 (by decide) ?_
          refine dv_sub (loc2 := [(8, .int x4), (6, .long x3), (4, .long v6_9), (0, .long la), (2, .long lb)]) [0, 1, 2, 4, 5] rfl ?_
          exact ih9 x4 x3 v6_9 (by omega) (by first | omega | decide | assumption)
  exact loop9 ((1000 - (0 : Int32).toInt : Int).toNat + 1) (0 : Int32) lb la (by omega) (by first | omega | decide | assumption)

set_option maxHeartbeats 4000000 in
set_option maxRecDepth 100000 in
theorem k_J6_bitCount_0f7a4 (l : Launch) (g : zG) (pe : Int32) (ct : Nat → va_E) (x0 : Int32) (hI : Inv8 g idn pe ct) : DM l g pNo false yJ6_bitCount_0f7a4 cJ6_bitCount_0f7a4 1 (some .int) ({ frames := 0, cells := 0, slots := 0, locals := 0 }) (fun (ct2 : Nat → va_E) (rr : Option Value) => ∃ (r : Int32), rr = some (.int r) ∧ (((0 ≤ r.toInt) ∧ (r.toInt ≤ 63))) ∧ ct = ct2) ct [.int x0] := by
  refine DM.K (fun K hK => ?_)
  refine GW.met (own := RJ6) (loc := [(0, .int x0)]) (by decide) rfl rfl (Nat.le_of_ble_eq_true rfl) ?_
  have hpe0 := hI.1
  have rg_x0 := z_rng x0
  refine dv_iload_n dJ6_bitCount_0f7a4_0 rfl 0 rfl ?_
  refine dv_iload_n dJ6_bitCount_0f7a4_1 rfl 0 rfl ?_
  refine dv_iconst (v := 1) dJ6_bitCount_0f7a4_2 (by decide) ?_
  refine dv_iushr dJ6_bitCount_0f7a4_3 rfl ?_
  refine dv_topi (fun x1 ex1 => ?_)
  refine dv_ldcw mm_501 dJ6_bitCount_0f7a4_4 ?_
  refine dv_iand dJ6_bitCount_0f7a4_7 ?_
  refine dv_topi (fun x2 ex2 => ?_)
  have tx2 := z_andr (x := x1) (y := 1431655765) (by decide : (1431655765 : Int32).toInt = 1431655765) (by omega)
  rw [← ex2] at tx2
  refine dv_isub dJ6_bitCount_0f7a4_8 ?_
  refine dv_topi (fun x3 ex3 => ?_)
  refine dv_istore_n (lv' := [(0, .int x3)]) dJ6_bitCount_0f7a4_9 rfl (by decide) rfl ?_
  refine dv_iload_n dJ6_bitCount_0f7a4_10 rfl 0 rfl ?_
  refine dv_ldcw mm_502 dJ6_bitCount_0f7a4_11 ?_
  refine dv_iand dJ6_bitCount_0f7a4_14 ?_
  refine dv_topi (fun x4 ex4 => ?_)
  have tx4 := z_andr (x := x3) (y := 858993459) (by decide : (858993459 : Int32).toInt = 858993459) (by omega)
  rw [← ex4] at tx4
  refine dv_iload_n dJ6_bitCount_0f7a4_15 rfl 0 rfl ?_
  refine dv_iconst (v := 2) dJ6_bitCount_0f7a4_16 (by decide) ?_
  refine dv_iushr dJ6_bitCount_0f7a4_17 rfl ?_
  refine dv_topi (fun x5 ex5 => ?_)
  refine dv_ldcw mm_502 dJ6_bitCount_0f7a4_18 ?_
  refine dv_iand dJ6_bitCount_0f7a4_21 ?_
  refine dv_topi (fun x6 ex6 => ?_)
  have tx6 := z_andr (x := x5) (y := 858993459) (by decide : (858993459 : Int32).toInt = 858993459) (by omega)
  rw [← ex6] at tx6
  refine dv_iadd dJ6_bitCount_0f7a4_22 ?_
  refine dv_topi (fun x7 ex7 => ?_)
  have tx7 : x7.toInt = x4.toInt + x6.toInt := by rw [ex7]; exact z_add rfl rfl (by omega) (by omega)
  refine dv_istore_n (lv' := [(0, .int x7)]) dJ6_bitCount_0f7a4_23 rfl (by decide) rfl ?_
  refine dv_iload_n dJ6_bitCount_0f7a4_24 rfl 0 rfl ?_
  refine dv_iload_n dJ6_bitCount_0f7a4_25 rfl 0 rfl ?_
  refine dv_iconst (v := 4) dJ6_bitCount_0f7a4_26 (by decide) ?_
  refine dv_iushr dJ6_bitCount_0f7a4_27 rfl ?_
  refine dv_topi (fun x8 ex8 => ?_)
  refine dv_iadd dJ6_bitCount_0f7a4_28 ?_
  refine dv_topi (fun x9 ex9 => ?_)
  refine dv_ldcw mm_503 dJ6_bitCount_0f7a4_29 ?_
  refine dv_iand dJ6_bitCount_0f7a4_32 ?_
  refine dv_topi (fun x10 ex10 => ?_)
  have tx10 := z_andr (x := x9) (y := 252645135) (by decide : (252645135 : Int32).toInt = 252645135) (by omega)
  rw [← ex10] at tx10
  refine dv_istore_n (lv' := [(0, .int x10)]) dJ6_bitCount_0f7a4_33 rfl (by decide) rfl ?_
  refine dv_iload_n dJ6_bitCount_0f7a4_34 rfl 0 rfl ?_
  refine dv_iload_n dJ6_bitCount_0f7a4_35 rfl 0 rfl ?_
  refine dv_bipush (v := 8) dJ6_bitCount_0f7a4_36 (by decide) ?_
  refine dv_iushr dJ6_bitCount_0f7a4_38 rfl ?_
  refine dv_topi (fun x11 ex11 => ?_)
  refine dv_iadd dJ6_bitCount_0f7a4_39 ?_
  refine dv_topi (fun x12 ex12 => ?_)
  refine dv_istore_n (lv' := [(0, .int x12)]) dJ6_bitCount_0f7a4_40 rfl (by decide) rfl ?_
  refine dv_iload_n dJ6_bitCount_0f7a4_41 rfl 0 rfl ?_
  refine dv_iload_n dJ6_bitCount_0f7a4_42 rfl 0 rfl ?_
  refine dv_bipush (v := 16) dJ6_bitCount_0f7a4_43 (by decide) ?_
  refine dv_iushr dJ6_bitCount_0f7a4_45 rfl ?_
  refine dv_topi (fun x13 ex13 => ?_)
  refine dv_iadd dJ6_bitCount_0f7a4_46 ?_
  refine dv_topi (fun x14 ex14 => ?_)
  refine dv_istore_n (lv' := [(0, .int x14)]) dJ6_bitCount_0f7a4_47 rfl (by decide) rfl ?_
  refine dv_iload_n dJ6_bitCount_0f7a4_48 rfl 0 rfl ?_
  refine dv_bipush (v := 63) dJ6_bitCount_0f7a4_49 (by decide) ?_
  refine dv_iand dJ6_bitCount_0f7a4_51 ?_
  refine dv_topi (fun x15 ex15 => ?_)
  have tx15 := z_andr (x := x14) (y := 63) (by decide : (63 : Int32).toInt = 63) (by omega)
  rw [← ex15] at tx15
  exact dv_iret dJ6_bitCount_0f7a4_52 rfl (by first | exact Nat.zero_le _ | decide) (by first | exact Nat.zero_le _ | decide) (by subst hK; exact ⟨x15, rfl, (⟨by first | omega | decide, by first | omega | decide⟩), rfl⟩)

set_option maxHeartbeats 4000000 in
set_option maxRecDepth 100000 in
theorem k_bce (l : Launch) (g : zG) (pe : Int32) (ct : Nat → va_E) (x0 : Int32) (hI : Inv8 g idn pe ct) : DM l g pNo false yJ6_bitCount_0f7a4 cJ6_bitCount_0f7a4 1 (some .int) ({ frames := 0, cells := 0, slots := 0, locals := 0 }) (fun (ct2 : Nat → va_E) (rr : Option Value) => ∃ (r : Int32), rr = some (.int r) ∧ ((r = (bcf x0))) ∧ ct = ct2) ct [.int x0] := by
  refine DM.K (fun K hK => ?_)
  refine GW.met (own := RJ6) (loc := [(0, .int x0)]) (by decide) rfl rfl (Nat.le_of_ble_eq_true rfl) ?_
  have hpe0 := hI.1
  have rg_x0 := z_rng x0
  refine dv_iload_n dJ6_bitCount_0f7a4_0 rfl 0 rfl ?_
  refine dv_iload_n dJ6_bitCount_0f7a4_1 rfl 0 rfl ?_
  refine dv_iconst (v := 1) dJ6_bitCount_0f7a4_2 (by decide) ?_
  refine dv_iushr dJ6_bitCount_0f7a4_3 rfl ?_
  refine dv_topi (fun x1 ex1 => ?_)
  refine dv_ldcw mm_501 dJ6_bitCount_0f7a4_4 ?_
  refine dv_iand dJ6_bitCount_0f7a4_7 ?_
  refine dv_topi (fun x2 ex2 => ?_)
  have tx2 := z_andr (x := x1) (y := 1431655765) (by decide : (1431655765 : Int32).toInt = 1431655765) (by omega)
  rw [← ex2] at tx2
  refine dv_isub dJ6_bitCount_0f7a4_8 ?_
  refine dv_topi (fun x3 ex3 => ?_)
  refine dv_istore_n (lv' := [(0, .int x3)]) dJ6_bitCount_0f7a4_9 rfl (by decide) rfl ?_
  refine dv_iload_n dJ6_bitCount_0f7a4_10 rfl 0 rfl ?_
  refine dv_ldcw mm_502 dJ6_bitCount_0f7a4_11 ?_
  refine dv_iand dJ6_bitCount_0f7a4_14 ?_
  refine dv_topi (fun x4 ex4 => ?_)
  have tx4 := z_andr (x := x3) (y := 858993459) (by decide : (858993459 : Int32).toInt = 858993459) (by omega)
  rw [← ex4] at tx4
  refine dv_iload_n dJ6_bitCount_0f7a4_15 rfl 0 rfl ?_
  refine dv_iconst (v := 2) dJ6_bitCount_0f7a4_16 (by decide) ?_
  refine dv_iushr dJ6_bitCount_0f7a4_17 rfl ?_
  refine dv_topi (fun x5 ex5 => ?_)
  refine dv_ldcw mm_502 dJ6_bitCount_0f7a4_18 ?_
  refine dv_iand dJ6_bitCount_0f7a4_21 ?_
  refine dv_topi (fun x6 ex6 => ?_)
  have tx6 := z_andr (x := x5) (y := 858993459) (by decide : (858993459 : Int32).toInt = 858993459) (by omega)
  rw [← ex6] at tx6
  refine dv_iadd dJ6_bitCount_0f7a4_22 ?_
  refine dv_topi (fun x7 ex7 => ?_)
  have tx7 : x7.toInt = x4.toInt + x6.toInt := by rw [ex7]; exact z_add rfl rfl (by omega) (by omega)
  refine dv_istore_n (lv' := [(0, .int x7)]) dJ6_bitCount_0f7a4_23 rfl (by decide) rfl ?_
  refine dv_iload_n dJ6_bitCount_0f7a4_24 rfl 0 rfl ?_
  refine dv_iload_n dJ6_bitCount_0f7a4_25 rfl 0 rfl ?_
  refine dv_iconst (v := 4) dJ6_bitCount_0f7a4_26 (by decide) ?_
  refine dv_iushr dJ6_bitCount_0f7a4_27 rfl ?_
  refine dv_topi (fun x8 ex8 => ?_)
  refine dv_iadd dJ6_bitCount_0f7a4_28 ?_
  refine dv_topi (fun x9 ex9 => ?_)
  refine dv_ldcw mm_503 dJ6_bitCount_0f7a4_29 ?_
  refine dv_iand dJ6_bitCount_0f7a4_32 ?_
  refine dv_topi (fun x10 ex10 => ?_)
  have tx10 := z_andr (x := x9) (y := 252645135) (by decide : (252645135 : Int32).toInt = 252645135) (by omega)
  rw [← ex10] at tx10
  refine dv_istore_n (lv' := [(0, .int x10)]) dJ6_bitCount_0f7a4_33 rfl (by decide) rfl ?_
  refine dv_iload_n dJ6_bitCount_0f7a4_34 rfl 0 rfl ?_
  refine dv_iload_n dJ6_bitCount_0f7a4_35 rfl 0 rfl ?_
  refine dv_bipush (v := 8) dJ6_bitCount_0f7a4_36 (by decide) ?_
  refine dv_iushr dJ6_bitCount_0f7a4_38 rfl ?_
  refine dv_topi (fun x11 ex11 => ?_)
  refine dv_iadd dJ6_bitCount_0f7a4_39 ?_
  refine dv_topi (fun x12 ex12 => ?_)
  refine dv_istore_n (lv' := [(0, .int x12)]) dJ6_bitCount_0f7a4_40 rfl (by decide) rfl ?_
  refine dv_iload_n dJ6_bitCount_0f7a4_41 rfl 0 rfl ?_
  refine dv_iload_n dJ6_bitCount_0f7a4_42 rfl 0 rfl ?_
  refine dv_bipush (v := 16) dJ6_bitCount_0f7a4_43 (by decide) ?_
  refine dv_iushr dJ6_bitCount_0f7a4_45 rfl ?_
  refine dv_topi (fun x13 ex13 => ?_)
  refine dv_iadd dJ6_bitCount_0f7a4_46 ?_
  refine dv_topi (fun x14 ex14 => ?_)
  refine dv_istore_n (lv' := [(0, .int x14)]) dJ6_bitCount_0f7a4_47 rfl (by decide) rfl ?_
  refine dv_iload_n dJ6_bitCount_0f7a4_48 rfl 0 rfl ?_
  refine dv_bipush (v := 63) dJ6_bitCount_0f7a4_49 (by decide) ?_
  refine dv_iand dJ6_bitCount_0f7a4_51 ?_
  refine dv_topi (fun x15 ex15 => ?_)
  have tx15 := z_andr (x := x14) (y := 63) (by decide : (63 : Int32).toInt = 63) (by omega)
  rw [← ex15] at tx15
  exact dv_iret dJ6_bitCount_0f7a4_52 rfl (by first | exact Nat.zero_le _ | decide) (by first | exact Nat.zero_le _ | decide) (by subst hK; exact ⟨x15, rfl, (by subst_vars; rfl), rfl⟩)

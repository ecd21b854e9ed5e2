set_option maxHeartbeats 4000000 in
set_option maxRecDepth 100000 in
theorem k_X0_areEnoughBy_0 (l : Launch) (g : zG) (pe : Int32) (ct : Nat → va_E) (who : Int32) (told : Int32) (n : Int32) (hl_who : 0 ≤ who.toInt ∧ who.toInt ≤ 65535) (hl_n : -2147483648 ≤ n.toInt ∧ n.toInt ≤ 0) (hI : Inv8 g idn pe ct) : DM l g pQ false yX0_areEnoughBy cX0_areEnoughBy 6 (some .boolean) ({ frames := 0, cells := 0, slots := 0, locals := 0 }) (fun (ct2 : Nat → va_E) (rr : Option Value) => ∃ (r : Int32), rr = some (.int r) ∧ ((r = 1) ∨ (r = 0)) ∧ Inv8 g idn pe ct2 ∧ zlen (ct2 20) = zlen (ct 20)) ct [.ref 17, .int who, .int told, .int n] := by
  refine DM.K (fun K hK => ?_)
  refine GW.met (own := RX0) (loc := [(0, .ref 17), (1, .int who), (2, .int told), (3, .int n)]) (by decide) rfl rfl (Nat.le_of_ble_eq_true rfl) ?_
  have hpe0 := hI.1
  have hz : zlen (ct 20) = zlen (ct 20) := rfl
  have rg_told := z_rng told
  refine dv_iload_n dX0_areEnoughBy_0 rfl 1 rfl ?_
  refine dv_iload_n dX0_areEnoughBy_1 rfl 2 rfl ?_
  refine dv_iand dX0_areEnoughBy_2 ?_
  refine dv_topi (fun x1 ex1 => ?_)
  have tx1 := z_andl (x := who) (y := told) rfl (by omega)
  rw [← ex1] at tx1
  refine dv_istore (lv' := [(4, .int x1), (0, .ref 17), (1, .int who), (2, .int told), (3, .int n)]) dX0_areEnoughBy_3 (by decide) rfl ?_
  refine dv_iload_n dX0_areEnoughBy_5 rfl 2 rfl ?_
  refine dv_iload_n dX0_areEnoughBy_6 rfl 3 rfl ?_
  refine dv_iconst (v := (-1)) dX0_areEnoughBy_7 (by decide) ?_
  refine dv_ixor dX0_areEnoughBy_8 ?_
  refine dv_topi (fun x2 ex2 => ?_)
  refine dv_iand dX0_areEnoughBy_9 ?_
  refine dv_topi (fun x3 ex3 => ?_)
  have tx3 := z_andl (x := who) (y := x2) rfl (by omega)
  rw [← ex3] at tx3
  refine dv_istore (lv' := [(5, .int x3), (4, .int x1), (0, .ref 17), (1, .int who), (2, .int told), (3, .int n)]) dX0_areEnoughBy_10 (by decide) rfl ?_
  refine dv_iload dX0_areEnoughBy_12 1 rfl ?_
  refine dv_if_eq (tgt := 54) dX0_areEnoughBy_14 (by decide) (fun c4 => ?_) (fun c4 => ?_)
  · skip
    have c4 : x1.toInt = 0 := (z_eq rfl (by decide : (0 : Int32).toInt = 0)).mp c4
    refine dv_iconst (v := 0) dX0_areEnoughBy_54 (by decide) ?_
    have q5 : (0 : Int32).toInt = 0 := by decide
    exact dv_zret dX0_areEnoughBy_55 rfl rfl (by first | exact Nat.zero_le _ | decide) (by first | exact Nat.zero_le _ | decide) (by subst hK; exact ⟨0, rfl, (by first | exact Or.inl ⟨rfl, by omega⟩ | exact Or.inr ⟨rfl, by omega⟩ | exact Or.inl rfl | exact Or.inr rfl | exact Or.inl ⟨rfl, by omega, by omega⟩ | exact (z_01 (by omega) (by omega)).symm), hI, hz⟩)
  · skip
    have c4 : ¬ (x1.toInt = 0) := fun q => c4 ((z_eq rfl (by decide : (0 : Int32).toInt = 0)).mpr q)
    refine dv_iload dX0_areEnoughBy_17 0 rfl ?_
    refine dv_if_eq (tgt := 54) dX0_areEnoughBy_19 (by decide) (fun c6 => ?_) (fun c6 => ?_)
    · skip
      have c6 : x3.toInt = 0 := (z_eq rfl (by decide : (0 : Int32).toInt = 0)).mp c6
      refine dv_iconst (v := 0) dX0_areEnoughBy_54 (by decide) ?_
      have q7 : (0 : Int32).toInt = 0 := by decide
      exact dv_zret dX0_areEnoughBy_55 rfl rfl (by first | exact Nat.zero_le _ | decide) (by first | exact Nat.zero_le _ | decide) (by subst hK; exact ⟨0, rfl, (by first | exact Or.inl ⟨rfl, by omega⟩ | exact Or.inr ⟨rfl, by omega⟩ | exact Or.inl rfl | exact Or.inr rfl | exact Or.inl ⟨rfl, by omega, by omega⟩ | exact (z_01 (by omega) (by omega)).symm), hI, hz⟩)
    · skip
      have c6 : ¬ (x3.toInt = 0) := fun q => c6 ((z_eq rfl (by decide : (0 : Int32).toInt = 0)).mpr q)
      refine dv_iload_n dX0_areEnoughBy_22 rfl 5 rfl ?_
      refine dv_if_le (tgt := 54) dX0_areEnoughBy_23 (by decide) (fun c8 => ?_) (fun c8 => ?_)
      · skip
        have c8 : n.toInt ≤ 0 := (z_le rfl (by decide : (0 : Int32).toInt = 0)).mp c8
        refine dv_iconst (v := 0) dX0_areEnoughBy_54 (by decide) ?_
        have q9 : (0 : Int32).toInt = 0 := by decide
        exact dv_zret dX0_areEnoughBy_55 rfl rfl (by first | exact Nat.zero_le _ | decide) (by first | exact Nat.zero_le _ | decide) (by subst hK; exact ⟨0, rfl, (by first | exact Or.inl ⟨rfl, by omega⟩ | exact Or.inr ⟨rfl, by omega⟩ | exact Or.inl rfl | exact Or.inr rfl | exact Or.inl ⟨rfl, by omega, by omega⟩ | exact (z_01 (by omega) (by omega)).symm), hI, hz⟩)
      · skip
        have c8 : ¬ (n.toInt ≤ 0) := fun q => c8 ((z_le rfl (by decide : (0 : Int32).toInt = 0)).mpr q)
        exfalso
        omega

set_option maxHeartbeats 4000000 in
set_option maxRecDepth 100000 in
theorem k_X0_areEnough_0 (l : Launch) (g : zG) (pe : Int32) (ct : Nat → va_E) (who : Int32) (n : Int32) (hl_who : 0 ≤ who.toInt ∧ who.toInt ≤ 65535) (hl_n : -2147483648 ≤ n.toInt ∧ n.toInt ≤ 0) (hI : Inv8 g idn pe ct) : DM l g pQ false yX0_areEnough cX0_areEnough 7 (some .boolean) ({ frames := 1, cells := 0, slots := 0, locals := 20 }) (fun (ct2 : Nat → va_E) (rr : Option Value) => ∃ (r : Int32), rr = some (.int r) ∧ ((r = 1) ∨ (r = 0)) ∧ Inv8 g idn pe ct2 ∧ zlen (ct2 20) = zlen (ct 20)) ct [.ref 17, .int who, .int n] := by
  refine DM.K (fun K hK => ?_)
  refine GW.met (own := RX0) (loc := [(0, .ref 17), (1, .int who), (2, .int n)]) (by decide) rfl rfl (Nat.le_of_ble_eq_true rfl) ?_
  have hpe0 := hI.1
  have hz : zlen (ct 20) = zlen (ct 20) := rfl
  refine dv_iload_n dX0_areEnough_0 rfl 1 rfl ?_
  refine GW.callS (n := 1) (As := [.int who]) (rest := []) (k_bce l g pe ct who hI) (fun _ h => Bool.noConfusion h) rfl rfl mm_749 mm_499 mm_62 mm_500 (by decide +kernel) ⟨Nat.le_of_ble_eq_true rfl, Nat.le_of_ble_eq_true rfl⟩ rfl (Nat.le_of_ble_eq_true rfl) dX0_areEnough_1 (Nat.zero_le _) (Nat.zero_le _) rfl (fun ct1 rrr2 hBr2 hoff3 => ?_)
  obtain ⟨r2, rfl, hr2, rfl⟩ := hBr2
  refine GW.eq (S2 := [.int r2]) rfl rfl rfl ?_
  have hqr2 := hr2
  subst r2
  have hbr2 := z_bc (x := who) (by omega) (by omega)
  refine dv_iconst (v := 1) dX0_areEnough_4 (by decide) ?_
  refine dv_icmp_gt (tgt := 10) dX0_areEnough_5 (by decide) (fun c4 => ?_) (fun c4 => ?_)
  · skip
    have c4 : 1 < (bcf who).toInt := (z_lt (by decide : (1 : Int32).toInt = 1) rfl).mp c4
    refine dv_iload_n dX0_areEnough_10 rfl 2 rfl ?_
    refine dv_if_le (tgt := 29) dX0_areEnough_11 (by decide) (fun c5 => ?_) (fun c5 => ?_)
    · skip
      have c5 : n.toInt ≤ 0 := (z_le rfl (by decide : (0 : Int32).toInt = 0)).mp c5
      refine dv_iconst (v := 0) dX0_areEnough_29 (by decide) ?_
      have q6 : (0 : Int32).toInt = 0 := by decide
      exact dv_zret dX0_areEnough_30 rfl rfl (by first | exact Nat.zero_le _ | decide) (by first | exact Nat.zero_le _ | decide) (by subst hK; exact ⟨0, rfl, (by first | exact Or.inl ⟨rfl, by omega⟩ | exact Or.inr ⟨rfl, by omega⟩ | exact Or.inl rfl | exact Or.inr rfl | exact Or.inl ⟨rfl, by omega, by omega⟩ | exact (z_01 (by omega) (by omega)).symm), hI, hz⟩)
    · skip
      have c5 : ¬ (n.toInt ≤ 0) := fun q => c5 ((z_le rfl (by decide : (0 : Int32).toInt = 0)).mpr q)
      exfalso
      omega
  · skip
    have c4 : ¬ (1 < (bcf who).toInt) := fun q => c4 ((z_lt (by decide : (1 : Int32).toInt = 1) rfl).mpr q)
    refine dv_iconst (v := 1) dX0_areEnough_8 (by decide) ?_
    have q7 : (1 : Int32).toInt = 1 := by decide
    exact dv_zret dX0_areEnough_9 rfl rfl (by first | exact Nat.zero_le _ | decide) (by first | exact Nat.zero_le _ | decide) (by subst hK; exact ⟨1, rfl, (by first | exact Or.inl ⟨rfl, by omega⟩ | exact Or.inr ⟨rfl, by omega⟩ | exact Or.inl rfl | exact Or.inr rfl | exact Or.inl ⟨rfl, by omega, by omega⟩ | exact (z_01 (by omega) (by omega)).symm), hI, hz⟩)

set_option maxHeartbeats 40000000 in
set_option maxRecDepth 100000 in
theorem f_act (l : Launch) (g : zG) (pe : Int32) (ct : Nat → va_E) (x : Int32) (v : Int32) (hI : Inv8 g idn pe ct) : DM l g pAll true yL_act cL_act 7 (some .int) ({ frames := 36, cells := 1, slots := 131072, locals := 911 }) (fun (ct2 : Nat → va_E) (rr : Option Value) => ∃ (r : Int32), rr = some (.int r) ∧ (((r = actR l g pe ct x v) ∧ (True))) ∧ Inv8 g idn pe ct2 ∧ (∀ q, ¬ dIn pM q → ct2 q = actW l g pe ct x v q)) ct [.ref 0, .int x, .int v] := by
  refine DM.K (fun K hK => ?_)
  refine GW.met (own := RL) (loc := [(0, .ref 0), (1, .int x), (2, .int v)]) (by decide) rfl rfl (Nat.le_of_ble_eq_true rfl) ?_
  have hpe0 := hI.1
  have rg_x := z_rng x
  have rg_v := z_rng v
  refine dv_iload_n dL_act_0 rfl 2 rfl ?_
  refine dv_iconst (v := 1) dL_act_1 (by decide) ?_
  refine dv_iand dL_act_2 ?_
  refine dv_topi (fun x1 ex1 => ?_)
  have tx1 := z_andr (x := v) (y := 1) (by decide : (1 : Int32).toInt = 1) (by omega)
  rw [← ex1] at tx1
  refine dv_istore_n (lv' := [(3, .int x1), (0, .ref 0), (1, .int x), (2, .int v)]) dL_act_3 rfl (by decide) rfl ?_
  refine dv_iload_n dL_act_4 rfl 3 rfl ?_
  refine dv_iconst (v := 1) dL_act_5 (by decide) ?_
  refine dv_ishr dL_act_6 ?_
  refine dv_topi (fun x2 ex2 => ?_)
  refine dv_bipush (v := 7) dL_act_7 (by decide) ?_
  refine dv_iand dL_act_9 ?_
  refine dv_topi (fun x3 ex3 => ?_)
  have tx3 := z_andr (x := x2) (y := 7) (by decide : (7 : Int32).toInt = 7) (by omega)
  rw [← ex3] at tx3
  refine dv_bipush (v := 6) dL_act_10 (by decide) ?_
  refine dv_irem dL_act_12 (by decide) ?_
  refine dv_topi (fun x4 ex4 => ?_)
  have tx4 := z_rem (x := x3) (y := 6) rfl (by decide : (6 : Int32).toInt = 6) (by omega) (by omega)
  rw [← ex4] at tx4
  refine dv_istore (lv' := [(4, .int x4), (3, .int x1), (0, .ref 0), (1, .int x), (2, .int v)]) dL_act_13 (by decide) rfl ?_
  refine dv_iload_n dL_act_15 rfl 4 rfl ?_
  refine dv_iconst (v := 4) dL_act_16 (by decide) ?_
  refine dv_ishr dL_act_17 ?_
  refine dv_topi (fun x5 ex5 => ?_)
  refine dv_bipush (v := 7) dL_act_18 (by decide) ?_
  refine dv_iand dL_act_20 ?_
  refine dv_topi (fun x6 ex6 => ?_)
  have tx6 := z_andr (x := x5) (y := 7) (by decide : (7 : Int32).toInt = 7) (by omega)
  rw [← ex6] at tx6
  refine dv_bipush (v := 6) dL_act_21 (by decide) ?_
  refine dv_irem dL_act_23 (by decide) ?_
  refine dv_topi (fun x7 ex7 => ?_)
  have tx7 := z_rem (x := x6) (y := 6) rfl (by decide : (6 : Int32).toInt = 6) (by omega) (by omega)
  rw [← ex7] at tx7
  refine dv_istore (lv' := [(5, .int x7), (4, .int x4), (3, .int x1), (0, .ref 0), (1, .int x), (2, .int v)]) dL_act_24 (by decide) rfl ?_
  refine dv_iload_n dL_act_26 rfl 5 rfl ?_
  refine dv_bipush (v := 7) dL_act_27 (by decide) ?_
  refine dv_ishr dL_act_29 ?_
  refine dv_topi (fun x8 ex8 => ?_)
  refine dv_bipush (v := 7) dL_act_30 (by decide) ?_
  refine dv_iand dL_act_32 ?_
  refine dv_topi (fun x9 ex9 => ?_)
  have tx9 := z_andr (x := x8) (y := 7) (by decide : (7 : Int32).toInt = 7) (by omega)
  rw [← ex9] at tx9
  refine dv_istore (lv' := [(6, .int x9), (5, .int x7), (4, .int x4), (3, .int x1), (0, .ref 0), (1, .int x), (2, .int v)]) dL_act_33 (by decide) rfl ?_
  refine dv_iload_n dL_act_35 rfl 5 rfl ?_
  refine dv_bipush (v := 15) dL_act_36 (by decide) ?_
  refine dv_iand dL_act_38 ?_
  refine dv_topi (fun x10 ex10 => ?_)
  have tx10 := z_andr (x := x) (y := 15) (by decide : (15 : Int32).toInt = 15) (by omega)
  rw [← ex10] at tx10
  rcases (show x10.toInt = 0 ∨ x10.toInt = 1 ∨ x10.toInt = 2 ∨ x10.toInt = 3 ∨ x10.toInt = 4 ∨ x10.toInt = 5 ∨ x10.toInt = 6 ∨ x10.toInt = 7 ∨ x10.toInt = 8 ∨ x10.toInt = 9 ∨ x10.toInt = 10 ∨ x10.toInt = 11 ∨ x10.toInt = 12 ∨ x10.toInt = 13 ∨ x10.toInt = 14 ∨ x10.toInt < 0 ∨ 14 < x10.toInt by omega) with hw11 | hw11 | hw11 | hw11 | hw11 | hw11 | hw11 | hw11 | hw11 | hw11 | hw11 | hw11 | hw11 | hw11 | hw11 | hw11
  · skip
    refine dv_tableIn (tgt := 112) (off := 73) dL_act_39 (by omega) (by omega) (by rw [hw11]; rfl) (by decide) ?_
    refine dv_aload_n dL_act_112 rfl 4 rfl ?_
    refine dv_iload_n dL_act_113 rfl 3 rfl ?_
    refine dv_iload dL_act_114 2 rfl ?_
    obtain ⟨bk15, dr14, h16, h17, h18, hs13⟩ := a8_0 hI
    refine GW.callV (n := 2) (As := [.int x1, .int x4]) (rest := []) (b := 0) (fw_cut l g pe ct x1 x4 hI) sub_pCl_pAll rfl rfl ⟨by decide, rfl⟩ hs13 (q := (RX8, TX8, 13)) rfl mm_644 mm_645 mm_646 mm_52 mm_647 (by decide +kernel) ⟨Nat.le_of_ble_eq_true rfl, Nat.le_of_ble_eq_true rfl⟩ rfl (Nat.le_of_ble_eq_true rfl) dL_act_116 (Nat.zero_le _) (Nat.zero_le _) rfl (fun ct12 rrr19 hBr19 hoff20 => ?_)
    obtain ⟨r19, rfl, hr19, hI, hk21, hk22⟩ := hBr19
    refine GW.eq (S2 := [.int r19]) rfl rfl rfl ?_
    refine dv_if_eq (tgt := 126) dL_act_119 (by decide) (fun c23 => ?_) (fun c23 => ?_)
    · skip
      have c23 : r19.toInt = 0 := (z_eq rfl (by decide : (0 : Int32).toInt = 0)).mp c23
      refine dv_iconst (v := 0) dL_act_126 (by decide) ?_
      have q24 : (0 : Int32).toInt = 0 := by decide
      exact dv_iret dL_act_127 rfl (by first | exact Nat.zero_le _ | decide) (by first | exact Nat.zero_le _ | decide) (by subst hK; exact ⟨0, rfl, (⟨by subst_vars; unfold actR; rw [if_pos (by omega)]; unfold aZ; first | (rw [if_pos (by omega)]; done) | (rw [if_neg (by omega)]; done) | (rw [hk21]; rfl), trivial⟩), hI, (fun q hq => by subst_vars; unfold actW; rw [if_pos (by omega)]; exact hk22 q hq)⟩)
    · skip
      have c23 : ¬ (r19.toInt = 0) := fun q => c23 ((z_eq rfl (by decide : (0 : Int32).toInt = 0)).mpr q)
      refine dv_iconst (v := 1) dL_act_122 (by decide) ?_
      refine dv_goto (tgt := 127) dL_act_123 (by decide) ?_
      have q25 : (1 : Int32).toInt = 1 := by decide
      exact dv_iret dL_act_127 rfl (by first | exact Nat.zero_le _ | decide) (by first | exact Nat.zero_le _ | decide) (by subst hK; exact ⟨1, rfl, (⟨by subst_vars; unfold actR; rw [if_pos (by omega)]; unfold aZ; first | (rw [if_pos (by omega)]; done) | (rw [if_neg (by omega)]; done) | (rw [hk21]; rfl), trivial⟩), hI, (fun q hq => by subst_vars; unfold actW; rw [if_pos (by omega)]; exact hk22 q hq)⟩)
  · skip
    refine dv_tableIn (tgt := 128) (off := 89) dL_act_39 (by omega) (by omega) (by rw [hw11]; rfl) (by decide) ?_
    refine dv_aload_n dL_act_128 rfl 4 rfl ?_
    refine dv_iload_n dL_act_129 rfl 3 rfl ?_
    refine dv_iload dL_act_130 2 rfl ?_
    refine dv_iload dL_act_132 1 rfl ?_
    refine dv_iload_n dL_act_134 rfl 6 rfl ?_
    refine dv_bipush (v := 7) dL_act_135 (by decide) ?_
    refine dv_ishr dL_act_137 ?_
    refine dv_topi (fun x26 ex26 => ?_)
    refine dv_iconst (v := 3) dL_act_138 (by decide) ?_
    refine dv_iand dL_act_139 ?_
    refine dv_topi (fun x27 ex27 => ?_)
    have tx27 := z_andr (x := x26) (y := 3) (by decide : (3 : Int32).toInt = 3) (by omega)
    rw [← ex27] at tx27
    obtain ⟨bk31, dr30, h32, h33, h34, hs29⟩ := a8_0 hI
    refine GW.callV (n := 4) (As := [.int x1, .int x4, .int x7, .int x27]) (rest := []) (b := 0) (f_swap l g pe ct x1 x4 x7 x27 hI) sub_pCl_pAll rfl rfl ⟨by decide, rfl⟩ hs29 (q := (RX8, TX8, 13)) rfl mm_648 mm_649 mm_650 mm_52 mm_651 (by decide +kernel) ⟨Nat.le_of_ble_eq_true rfl, Nat.le_of_ble_eq_true rfl⟩ rfl (Nat.le_of_ble_eq_true rfl) dL_act_140 (Nat.zero_le _) (Nat.zero_le _) rfl (fun ct28 rrr35 hBr35 hoff36 => ?_)
    obtain ⟨r35, rfl, hr35, hI, hk37⟩ := hBr35
    refine GW.eq (S2 := [.int r35]) rfl rfl rfl ?_
    rcases hr35 with hr35 | hr35
    · skip
      obtain ⟨rfl, h38⟩ := hr35
      have h38 : rI (wSwap l g pe ct x1 x4 x7 x27).2 = 1 := h38
      refine dv_if_eq (tgt := 150) dL_act_143 (by decide) (fun c39 => ?_) (fun c39 => ?_)
      · skip
        exact absurd c39 (by decide)
      · skip
        refine dv_iconst (v := 1) dL_act_146 (by decide) ?_
        refine dv_goto (tgt := 151) dL_act_147 (by decide) ?_
        have q40 : (1 : Int32).toInt = 1 := by decide
        exact dv_iret dL_act_151 rfl (by first | exact Nat.zero_le _ | decide) (by first | exact Nat.zero_le _ | decide) (by subst hK; exact ⟨1, rfl, (⟨by subst_vars; unfold actR; rw [if_neg (by omega)]; rw [if_pos (by omega)]; unfold aZ; first | (rw [if_pos (by omega)]; done) | (rw [if_neg (by omega)]; done) | (rw [h38]; rfl), trivial⟩), hI, (fun q hq => by subst_vars; unfold actW; rw [if_neg (by omega)]; rw [if_pos (by omega)]; exact hk37 q hq)⟩)
    · skip
      obtain ⟨rfl, h41⟩ := hr35
      have h41 : rI (wSwap l g pe ct x1 x4 x7 x27).2 = 0 := h41
      refine dv_if_eq (tgt := 150) dL_act_143 (by decide) (fun c42 => ?_) (fun c42 => ?_)
      · skip
        refine dv_iconst (v := 0) dL_act_150 (by decide) ?_
        have q43 : (0 : Int32).toInt = 0 := by decide
        exact dv_iret dL_act_151 rfl (by first | exact Nat.zero_le _ | decide) (by first | exact Nat.zero_le _ | decide) (by subst hK; exact ⟨0, rfl, (⟨by subst_vars; unfold actR; rw [if_neg (by omega)]; rw [if_pos (by omega)]; unfold aZ; first | (rw [if_pos (by omega)]; done) | (rw [if_neg (by omega)]; done) | (rw [h41]; rfl), trivial⟩), hI, (fun q hq => by subst_vars; unfold actW; rw [if_neg (by omega)]; rw [if_pos (by omega)]; exact hk37 q hq)⟩)
      · skip
        exact absurd c42 (by decide)
  · skip
    refine dv_tableIn (tgt := 152) (off := 113) dL_act_39 (by omega) (by omega) (by rw [hw11]; rfl) (by decide) ?_
    refine dv_aload_n dL_act_152 rfl 4 rfl ?_
    refine dv_iload_n dL_act_153 rfl 3 rfl ?_
    refine dv_iload_n dL_act_154 rfl 6 rfl ?_
    refine dv_bipush (v := 7) dL_act_155 (by decide) ?_
    refine dv_ishr dL_act_157 ?_
    refine dv_topi (fun x44 ex44 => ?_)
    refine dv_iconst (v := 1) dL_act_158 (by decide) ?_
    refine dv_iand dL_act_159 ?_
    refine dv_topi (fun x45 ex45 => ?_)
    have tx45 := z_andr (x := x44) (y := 1) (by decide : (1 : Int32).toInt = 1) (by omega)
    rw [← ex45] at tx45
    refine dv_iconst (v := 1) dL_act_160 (by decide) ?_
    refine dv_icmp_ne (tgt := 168) dL_act_161 (by decide) (fun c46 => ?_) (fun c46 => ?_)
    · skip
      have c46 : ¬ (x45.toInt = 1) := fun q => c46 ((z_eq rfl (by decide : (1 : Int32).toInt = 1)).mpr q)
      refine dv_iconst (v := 0) dL_act_168 (by decide) ?_
      obtain ⟨bk50, dr49, h51, h52, h53, hs48⟩ := a8_0 hI
      refine GW.callV (n := 2) (As := [.int x1, .int 0]) (rest := []) (b := 0) (fw_show l g pe ct x1 (0 : Int32) (by first | omega | decide) hI) sub_pCl_pAll rfl rfl ⟨by decide, rfl⟩ hs48 (q := (RX8, TX8, 13)) rfl mm_658 mm_659 mm_660 mm_52 mm_661 (by decide +kernel) ⟨Nat.le_of_ble_eq_true rfl, Nat.le_of_ble_eq_true rfl⟩ rfl (Nat.le_of_ble_eq_true rfl) dL_act_169 (Nat.zero_le _) (Nat.zero_le _) rfl (fun ct47 rrr54 hBr54 hoff55 => ?_)
      obtain ⟨r54, rfl, hr54, hI, hk56, hk57⟩ := hBr54
      refine GW.eq (S2 := [.int r54]) rfl rfl rfl ?_
      refine dv_if_eq (tgt := 179) dL_act_172 (by decide) (fun c58 => ?_) (fun c58 => ?_)
      · skip
        have c58 : r54.toInt = 0 := (z_eq rfl (by decide : (0 : Int32).toInt = 0)).mp c58
        refine dv_iconst (v := 0) dL_act_179 (by decide) ?_
        have q59 : (0 : Int32).toInt = 0 := by decide
        exact dv_iret dL_act_180 rfl (by first | exact Nat.zero_le _ | decide) (by first | exact Nat.zero_le _ | decide) (by subst hK; exact ⟨0, rfl, (⟨by subst_vars; unfold actR; rw [if_neg (by omega)]; rw [if_neg (by omega)]; rw [if_pos (by omega)]; unfold aZ; rw [show aT ((v >>> ((7 : Int32) &&& (31 : Int32))) &&& (1 : Int32)) = 0 from if_neg (by omega)]; first | (rw [if_pos (by omega)]; done) | (rw [if_neg (by omega)]; done) | (rw [hk56]; rfl), trivial⟩), hI, (fun q hq => by subst_vars; unfold actW; rw [if_neg (by omega)]; rw [if_neg (by omega)]; rw [if_pos (by omega)]; rw [show aT ((v >>> ((7 : Int32) &&& (31 : Int32))) &&& (1 : Int32)) = 0 from if_neg (by omega)]; exact hk57 q hq)⟩)
      · skip
        have c58 : ¬ (r54.toInt = 0) := fun q => c58 ((z_eq rfl (by decide : (0 : Int32).toInt = 0)).mpr q)
        refine dv_iconst (v := 1) dL_act_175 (by decide) ?_
        refine dv_goto (tgt := 180) dL_act_176 (by decide) ?_
        have q60 : (1 : Int32).toInt = 1 := by decide
        exact dv_iret dL_act_180 rfl (by first | exact Nat.zero_le _ | decide) (by first | exact Nat.zero_le _ | decide) (by subst hK; exact ⟨1, rfl, (⟨by subst_vars; unfold actR; rw [if_neg (by omega)]; rw [if_neg (by omega)]; rw [if_pos (by omega)]; unfold aZ; rw [show aT ((v >>> ((7 : Int32) &&& (31 : Int32))) &&& (1 : Int32)) = 0 from if_neg (by omega)]; first | (rw [if_pos (by omega)]; done) | (rw [if_neg (by omega)]; done) | (rw [hk56]; rfl), trivial⟩), hI, (fun q hq => by subst_vars; unfold actW; rw [if_neg (by omega)]; rw [if_neg (by omega)]; rw [if_pos (by omega)]; rw [show aT ((v >>> ((7 : Int32) &&& (31 : Int32))) &&& (1 : Int32)) = 0 from if_neg (by omega)]; exact hk57 q hq)⟩)
    · skip
      have c46 : x45.toInt = 1 := (z_eq rfl (by decide : (1 : Int32).toInt = 1)).mp c46
      refine dv_iconst (v := 1) dL_act_164 (by decide) ?_
      refine dv_goto (tgt := 169) dL_act_165 (by decide) ?_
      obtain ⟨bk64, dr63, h65, h66, h67, hs62⟩ := a8_0 hI
      refine GW.callV (n := 2) (As := [.int x1, .int 1]) (rest := []) (b := 0) (fw_show l g pe ct x1 (1 : Int32) (by first | omega | decide) hI) sub_pCl_pAll rfl rfl ⟨by decide, rfl⟩ hs62 (q := (RX8, TX8, 13)) rfl mm_658 mm_659 mm_660 mm_52 mm_661 (by decide +kernel) ⟨Nat.le_of_ble_eq_true rfl, Nat.le_of_ble_eq_true rfl⟩ rfl (Nat.le_of_ble_eq_true rfl) dL_act_169 (Nat.zero_le _) (Nat.zero_le _) rfl (fun ct61 rrr68 hBr68 hoff69 => ?_)
      obtain ⟨r68, rfl, hr68, hI, hk70, hk71⟩ := hBr68
      refine GW.eq (S2 := [.int r68]) rfl rfl rfl ?_
      refine dv_if_eq (tgt := 179) dL_act_172 (by decide) (fun c72 => ?_) (fun c72 => ?_)
      · skip
        have c72 : r68.toInt = 0 := (z_eq rfl (by decide : (0 : Int32).toInt = 0)).mp c72
        refine dv_iconst (v := 0) dL_act_179 (by decide) ?_
        have q73 : (0 : Int32).toInt = 0 := by decide
        exact dv_iret dL_act_180 rfl (by first | exact Nat.zero_le _ | decide) (by first | exact Nat.zero_le _ | decide) (by subst hK; exact ⟨0, rfl, (⟨by subst_vars; unfold actR; rw [if_neg (by omega)]; rw [if_neg (by omega)]; rw [if_pos (by omega)]; unfold aZ; rw [show aT ((v >>> ((7 : Int32) &&& (31 : Int32))) &&& (1 : Int32)) = 1 from if_pos (by rw [← ex45]; decide)]; first | (rw [if_pos (by omega)]; done) | (rw [if_neg (by omega)]; done) | (rw [hk70]; rfl), trivial⟩), hI, (fun q hq => by subst_vars; unfold actW; rw [if_neg (by omega)]; rw [if_neg (by omega)]; rw [if_pos (by omega)]; rw [show aT ((v >>> ((7 : Int32) &&& (31 : Int32))) &&& (1 : Int32)) = 1 from if_pos (by rw [← ex45]; decide)]; exact hk71 q hq)⟩)
      · skip
        have c72 : ¬ (r68.toInt = 0) := fun q => c72 ((z_eq rfl (by decide : (0 : Int32).toInt = 0)).mpr q)
        refine dv_iconst (v := 1) dL_act_175 (by decide) ?_
        refine dv_goto (tgt := 180) dL_act_176 (by decide) ?_
        have q74 : (1 : Int32).toInt = 1 := by decide
        exact dv_iret dL_act_180 rfl (by first | exact Nat.zero_le _ | decide) (by first | exact Nat.zero_le _ | decide) (by subst hK; exact ⟨1, rfl, (⟨by subst_vars; unfold actR; rw [if_neg (by omega)]; rw [if_neg (by omega)]; rw [if_pos (by omega)]; unfold aZ; rw [show aT ((v >>> ((7 : Int32) &&& (31 : Int32))) &&& (1 : Int32)) = 1 from if_pos (by rw [← ex45]; decide)]; first | (rw [if_pos (by omega)]; done) | (rw [if_neg (by omega)]; done) | (rw [hk70]; rfl), trivial⟩), hI, (fun q hq => by subst_vars; unfold actW; rw [if_neg (by omega)]; rw [if_neg (by omega)]; rw [if_pos (by omega)]; rw [show aT ((v >>> ((7 : Int32) &&& (31 : Int32))) &&& (1 : Int32)) = 1 from if_pos (by rw [← ex45]; decide)]; exact hk71 q hq)⟩)
  · skip
    refine dv_tableIn (tgt := 181) (off := 142) dL_act_39 (by omega) (by omega) (by rw [hw11]; rfl) (by decide) ?_
    refine dv_aload_n dL_act_181 rfl 4 rfl ?_
    refine dv_iconst (v := 0) dL_act_182 (by decide) ?_
    refine dv_iload dL_act_183 2 rfl ?_
    refine dv_iconst (v := 1) dL_act_185 (by decide) ?_
    refine dv_iload dL_act_186 1 rfl ?_
    obtain ⟨bk78, dr77, h79, h80, h81, hs76⟩ := a8_0 hI
    refine GW.callV (n := 4) (As := [.int 0, .int x4, .int 1, .int x7]) (rest := []) (b := 0) (fw_link l g pe ct (0 : Int32) x4 (1 : Int32) x7 hI) sub_pCl_pAll rfl rfl ⟨by decide, rfl⟩ hs76 (q := (RX8, TX8, 13)) rfl mm_662 mm_663 mm_664 mm_52 mm_665 (by decide +kernel) ⟨Nat.le_of_ble_eq_true rfl, Nat.le_of_ble_eq_true rfl⟩ rfl (Nat.le_of_ble_eq_true rfl) dL_act_188 (Nat.zero_le _) (Nat.zero_le _) rfl (fun ct75 rrr82 hBr82 hoff83 => ?_)
    obtain ⟨r82, rfl, hr82, hI, hk84, hk85⟩ := hBr82
    refine GW.eq (S2 := [.int r82]) rfl rfl rfl ?_
    exact dv_iret dL_act_191 rfl (by first | exact Nat.zero_le _ | decide) (by first | exact Nat.zero_le _ | decide) (by subst hK; exact ⟨r82, rfl, (⟨by subst_vars; unfold actR; rw [if_neg (by omega)]; rw [if_neg (by omega)]; rw [if_neg (by omega)]; rw [if_pos (by omega)]; first | done | exact hk84.symm | rfl, trivial⟩), hI, (fun q hq => by subst_vars; unfold actW; rw [if_neg (by omega)]; rw [if_neg (by omega)]; rw [if_neg (by omega)]; rw [if_pos (by omega)]; exact hk85 q hq)⟩)
  · skip
    refine dv_tableIn (tgt := 192) (off := 153) dL_act_39 (by omega) (by omega) (by rw [hw11]; rfl) (by decide) ?_
    refine dv_aload_n dL_act_192 rfl 4 rfl ?_
    refine dv_ldc mm_670 dL_act_193 ?_
    refine dv_bipush (v := 48) dL_act_195 (by decide) ?_
    refine dv_iload_n dL_act_197 rfl 6 rfl ?_
    refine dv_bipush (v := 7) dL_act_198 (by decide) ?_
    refine dv_ishr dL_act_200 ?_
    refine dv_topi (fun x86 ex86 => ?_)
    refine dv_iconst (v := 3) dL_act_201 (by decide) ?_
    refine dv_iand dL_act_202 ?_
    refine dv_topi (fun x87 ex87 => ?_)
    have tx87 := z_andr (x := x86) (y := 3) (by decide : (3 : Int32).toInt = 3) (by omega)
    rw [← ex87] at tx87
    refine dv_iadd dL_act_203 ?_
    refine dv_topi (fun x88 ex88 => ?_)
    have tx88 : x88.toInt = 48 + x87.toInt := by rw [ex88]; exact z_add (by decide : (48 : Int32).toInt = 48) rfl (by omega) (by omega)
    refine dv_bipush (v := 8) dL_act_204 (by decide) ?_
    refine dv_ishl dL_act_206 ?_
    refine dv_topi (fun x89 ex89 => ?_)
    refine dv_ior dL_act_207 ?_
    refine dv_topi (fun x90 ex90 => ?_)
    refine dv_iconst (v := 0) dL_act_208 (by decide) ?_
    refine dv_iconst (v := 0) dL_act_209 (by decide) ?_
    refine dv_iconst (v := 0) dL_act_210 (by decide) ?_
    refine dv_iconst (v := 0) dL_act_211 (by decide) ?_
    obtain ⟨bk94, dr93, h95, h96, h97, hs92⟩ := a8_0 hI
    refine GW.callV (n := 5) (As := [.int x90, .int 0, .int 0, .int 0, .int 0]) (rest := []) (b := 0) (fw_feed l g pe ct x90 (0 : Int32) (0 : Int32) (0 : Int32) (0 : Int32) hI) sub_pCl_pAll rfl rfl ⟨by decide, rfl⟩ hs92 (q := (RX8, TX8, 13)) rfl mm_343 mm_344 mm_345 mm_52 mm_346 (by decide +kernel) ⟨Nat.le_of_ble_eq_true rfl, Nat.le_of_ble_eq_true rfl⟩ rfl (Nat.le_of_ble_eq_true rfl) dL_act_212 (Nat.zero_le _) (Nat.zero_le _) rfl (fun ct91 rrr98 hBr98 hoff99 => ?_)
    obtain ⟨r98, rfl, hr98, hI, hk100, hk101⟩ := hBr98
    refine GW.eq (S2 := [.int r98]) rfl rfl rfl ?_
    refine dv_pop dL_act_215 rfl ?_
    refine dv_aload_n dL_act_216 rfl 4 rfl ?_
    refine dv_iload_n dL_act_217 rfl 6 rfl ?_
    refine dv_bipush (v := 9) dL_act_218 (by decide) ?_
    refine dv_ishr dL_act_220 ?_
    refine dv_topi (fun x102 ex102 => ?_)
    refine dv_iconst (v := 3) dL_act_221 (by decide) ?_
    refine dv_iand dL_act_222 ?_
    refine dv_topi (fun x103 ex103 => ?_)
    have tx103 := z_andr (x := x102) (y := 3) (by decide : (3 : Int32).toInt = 3) (by omega)
    rw [← ex103] at tx103
    refine dv_iload_n dL_act_223 rfl 3 rfl ?_
    refine dv_iload dL_act_224 2 rfl ?_
    refine dv_iconst (v := 3) dL_act_226 (by decide) ?_
    obtain ⟨bk107, dr106, h108, h109, h110, hs105⟩ := a8_0 hI
    refine GW.callV (n := 4) (As := [.int x103, .int x1, .int x4, .int 3]) (rest := []) (b := 0) (fw_gossip l g pe ct91 x103 x1 x4 (3 : Int32) hI) sub_pCl_pAll rfl rfl ⟨by decide, rfl⟩ hs105 (q := (RX8, TX8, 13)) rfl mm_671 mm_672 mm_673 mm_52 mm_674 (by decide +kernel) ⟨Nat.le_of_ble_eq_true rfl, Nat.le_of_ble_eq_true rfl⟩ rfl (Nat.le_of_ble_eq_true rfl) dL_act_227 (Nat.zero_le _) (Nat.zero_le _) rfl (fun ct104 rrr111 hBr111 hoff112 => ?_)
    obtain ⟨r111, rfl, hr111, hI, hk113, hk114⟩ := hBr111
    refine GW.eq (S2 := [.int r111]) rfl rfl rfl ?_
    exact dv_iret dL_act_230 rfl (by first | exact Nat.zero_le _ | decide) (by first | exact Nat.zero_le _ | decide) (by subst hK; exact ⟨r111, rfl, (⟨by subst_vars; unfold actR; rw [if_neg (by omega)]; rw [if_neg (by omega)]; rw [if_neg (by omega)]; rw [if_neg (by omega)]; rw [if_pos (by omega)]; rw [← w_gossip_c hk101]; first | done | exact hk113.symm | rfl, trivial⟩), hI, (fun q hq => by subst_vars; unfold actW; rw [if_neg (by omega)]; rw [if_neg (by omega)]; rw [if_neg (by omega)]; rw [if_neg (by omega)]; rw [if_pos (by omega)]; rw [← w_gossip_c hk101]; exact hk114 q hq)⟩)
  · skip
    refine dv_tableIn (tgt := 231) (off := 192) dL_act_39 (by omega) (by omega) (by rw [hw11]; rfl) (by decide) ?_
    refine dv_aload_n dL_act_231 rfl 4 rfl ?_
    refine dv_iload_n dL_act_232 rfl 6 rfl ?_
    refine dv_bipush (v := 7) dL_act_233 (by decide) ?_
    refine dv_ishr dL_act_235 ?_
    refine dv_topi (fun x115 ex115 => ?_)
    refine dv_bipush (v := 7) dL_act_236 (by decide) ?_
    refine dv_iand dL_act_238 ?_
    refine dv_topi (fun x116 ex116 => ?_)
    have tx116 := z_andr (x := x115) (y := 7) (by decide : (7 : Int32).toInt = 7) (by omega)
    rw [← ex116] at tx116
    refine dv_iload_n dL_act_239 rfl 6 rfl ?_
    refine dv_bipush (v := 10) dL_act_240 (by decide) ?_
    refine dv_ishr dL_act_242 ?_
    refine dv_topi (fun x117 ex117 => ?_)
    refine dv_iconst (v := 3) dL_act_243 (by decide) ?_
    refine dv_iand dL_act_244 ?_
    refine dv_topi (fun x118 ex118 => ?_)
    have tx118 := z_andr (x := x117) (y := 3) (by decide : (3 : Int32).toInt = 3) (by omega)
    rw [← ex118] at tx118
    obtain ⟨bk122, dr121, h123, h124, h125, hs120⟩ := a8_0 hI
    refine GW.callV (n := 2) (As := [.int x116, .int x118]) (rest := []) (b := 0) (fw_wish l g pe ct x116 x118 hI) sub_pCl_pAll rfl rfl ⟨by decide, rfl⟩ hs120 (q := (RX8, TX8, 13)) rfl mm_691 mm_692 mm_693 mm_52 mm_694 (by decide +kernel) ⟨Nat.le_of_ble_eq_true rfl, Nat.le_of_ble_eq_true rfl⟩ rfl (Nat.le_of_ble_eq_true rfl) dL_act_245 (Nat.zero_le _) (Nat.zero_le _) rfl (fun ct119 rrr126 hBr126 hoff127 => ?_)
    obtain ⟨r126, rfl, hr126, hI, hk128, hk129⟩ := hBr126
    refine GW.eq (S2 := [.int r126]) rfl rfl rfl ?_
    rcases hr126 with hr126 | hr126
    · skip
      obtain ⟨rfl, h130, h131⟩ := hr126
      have h130 : 0 ≤ x116.toInt ∧ x116.toInt < pe.toInt := h130
      have h131 : 0 ≤ x118.toInt ∧ x118.toInt ≤ 16 := h131
      refine dv_if_eq (tgt := 255) dL_act_248 (by decide) (fun c132 => ?_) (fun c132 => ?_)
      · skip
        exact absurd c132 (by decide)
      · skip
        refine dv_iconst (v := 1) dL_act_251 (by decide) ?_
        refine dv_goto (tgt := 256) dL_act_252 (by decide) ?_
        have q133 : (1 : Int32).toInt = 1 := by decide
        exact dv_iret dL_act_256 rfl (by first | exact Nat.zero_le _ | decide) (by first | exact Nat.zero_le _ | decide) (by subst hK; exact ⟨1, rfl, (⟨by subst_vars; unfold actR; rw [if_neg (by omega)]; rw [if_neg (by omega)]; rw [if_neg (by omega)]; rw [if_neg (by omega)]; rw [if_neg (by omega)]; rw [if_pos (by omega)]; unfold aZ; first | (rw [if_pos (by omega)]; done) | (rw [if_neg (by omega)]; done) | (rw [hk128]; rfl), trivial⟩), hI, (fun q hq => by subst_vars; unfold actW; rw [if_neg (by omega)]; rw [if_neg (by omega)]; rw [if_neg (by omega)]; rw [if_neg (by omega)]; rw [if_neg (by omega)]; rw [if_pos (by omega)]; exact hk129 q hq)⟩)
    · skip
      obtain ⟨rfl, h134⟩ := hr126
      have h134 : ¬ ((0 ≤ x116.toInt ∧ x116.toInt < pe.toInt) ∧ (0 ≤ x118.toInt ∧ x118.toInt ≤ 16)) := h134
      refine dv_if_eq (tgt := 255) dL_act_248 (by decide) (fun c135 => ?_) (fun c135 => ?_)
      · skip
        refine dv_iconst (v := 0) dL_act_255 (by decide) ?_
        have q136 : (0 : Int32).toInt = 0 := by decide
        exact dv_iret dL_act_256 rfl (by first | exact Nat.zero_le _ | decide) (by first | exact Nat.zero_le _ | decide) (by subst hK; exact ⟨0, rfl, (⟨by subst_vars; unfold actR; rw [if_neg (by omega)]; rw [if_neg (by omega)]; rw [if_neg (by omega)]; rw [if_neg (by omega)]; rw [if_neg (by omega)]; rw [if_pos (by omega)]; unfold aZ; first | (rw [if_pos (by omega)]; done) | (rw [if_neg (by omega)]; done) | (rw [hk128]; rfl), trivial⟩), hI, (fun q hq => by subst_vars; unfold actW; rw [if_neg (by omega)]; rw [if_neg (by omega)]; rw [if_neg (by omega)]; rw [if_neg (by omega)]; rw [if_neg (by omega)]; rw [if_pos (by omega)]; exact hk129 q hq)⟩)
      · skip
        exact absurd c135 (by decide)
  · skip
    refine dv_tableIn (tgt := 257) (off := 218) dL_act_39 (by omega) (by omega) (by rw [hw11]; rfl) (by decide) ?_
    refine dv_aload_n dL_act_257 rfl 4 rfl ?_
    refine dv_iload_n dL_act_258 rfl 3 rfl ?_
    refine dv_iload dL_act_259 2 rfl ?_
    refine dv_iload dL_act_261 0 rfl ?_
    obtain ⟨bk140, dr139, h141, h142, h143, hs138⟩ := a8_0 hI
    refine GW.callV (n := 3) (As := [.int x1, .int x4, .int x9]) (rest := []) (b := 0) (f_fits l g pe ct x1 x4 x9 hI) (fun _ h => h) rfl rfl ⟨by decide, rfl⟩ hs138 (q := (RX8, TX8, 13)) rfl mm_407 mm_408 mm_409 mm_52 mm_410 (by decide +kernel) ⟨Nat.le_of_ble_eq_true rfl, Nat.le_of_ble_eq_true rfl⟩ rfl (Nat.le_of_ble_eq_true rfl) dL_act_263 (Nat.zero_le _) (Nat.zero_le _) rfl (fun ct137 rrr144 hBr144 hoff145 => ?_)
    obtain ⟨r144, rfl, hr144, hI, hcf146⟩ := hBr144
    refine GW.eq (S2 := [.int r144]) rfl rfl rfl ?_
    have hs147 : ct137 0 = .inr (8, [.ref 1, .ref 2, .ref 3, .ref 5, .ref 6, .ref 9, .ref 10, .ref 17, .ref 21, .ref 34, .ref (99 + 3 * dr139), .int pe, .int bk140]) := (hcf146 _ (pM_no (by decide))).trans hs138
    obtain ⟨h148, h149⟩ := hr144
    have h148 : r144 = qFits l g pe ct x1 x4 x9 := h148
    have h149 : True := h149
    exact dv_iret dL_act_266 rfl (by first | exact Nat.zero_le _ | decide) (by first | exact Nat.zero_le _ | decide) (by subst hK; exact ⟨r144, rfl, (⟨by subst_vars; unfold actR; rw [if_neg (by omega)]; rw [if_neg (by omega)]; rw [if_neg (by omega)]; rw [if_neg (by omega)]; rw [if_neg (by omega)]; rw [if_neg (by omega)]; rw [if_pos (by omega)]; first | done | rfl, trivial⟩), hI, (fun q hq => by subst_vars; unfold actW; rw [if_neg (by omega)]; rw [if_neg (by omega)]; rw [if_neg (by omega)]; rw [if_neg (by omega)]; rw [if_neg (by omega)]; rw [if_neg (by omega)]; rw [if_pos (by omega)]; exact hcf146 q hq)⟩)
  · skip
    refine dv_tableIn (tgt := 267) (off := 228) dL_act_39 (by omega) (by omega) (by rw [hw11]; rfl) (by decide) ?_
    refine dv_aload_n dL_act_267 rfl 4 rfl ?_
    refine dv_iload_n dL_act_268 rfl 3 rfl ?_
    refine dv_iload dL_act_269 2 rfl ?_
    refine dv_iload dL_act_271 1 rfl ?_
    refine dv_iload dL_act_273 0 rfl ?_
    refine dv_iload_n dL_act_275 rfl 6 rfl ?_
    refine dv_bipush (v := 10) dL_act_276 (by decide) ?_
    refine dv_ishr dL_act_278 ?_
    refine dv_topi (fun x150 ex150 => ?_)
    refine dv_iconst (v := 1) dL_act_279 (by decide) ?_
    refine dv_iand dL_act_280 ?_
    refine dv_topi (fun x151 ex151 => ?_)
    have tx151 := z_andr (x := x150) (y := 1) (by decide : (1 : Int32).toInt = 1) (by omega)
    rw [← ex151] at tx151
    obtain ⟨bk155, dr154, h156, h157, h158, hs153⟩ := a8_0 hI
    refine GW.callV (n := 5) (As := [.int x1, .int x4, .int x7, .int x9, .int x151]) (rest := []) (b := 0) (f_odds l g pe ct x1 x4 x7 x9 x151 hI) (fun _ h => h) rfl rfl ⟨by decide, rfl⟩ hs153 (q := (RX8, TX8, 13)) rfl mm_695 mm_696 mm_697 mm_52 mm_698 (by decide +kernel) ⟨Nat.le_of_ble_eq_true rfl, Nat.le_of_ble_eq_true rfl⟩ rfl (Nat.le_of_ble_eq_true rfl) dL_act_281 (Nat.zero_le _) (Nat.zero_le _) rfl (fun ct152 rrr159 hBr159 hoff160 => ?_)
    obtain ⟨r159, rfl, hr159, hI, hcf161⟩ := hBr159
    refine GW.eq (S2 := [.long r159]) rfl rfl rfl ?_
    have hs162 : ct152 0 = .inr (8, [.ref 1, .ref 2, .ref 3, .ref 5, .ref 6, .ref 9, .ref 10, .ref 17, .ref 21, .ref 34, .ref (99 + 3 * dr154), .int pe, .int bk155]) := (hcf161 _ (pM_no (by decide))).trans hs153
    obtain ⟨h163, h164⟩ := hr159
    have h163 : r159 = qOdd l g pe ct x1 x4 x7 x9 x151 := h163
    have h164 : True := h164
    refine dv_l2i dL_act_284 rfl ?_
    refine dv_topi (fun x165 ex165 => ?_)
    exact dv_iret dL_act_285 rfl (by first | exact Nat.zero_le _ | decide) (by first | exact Nat.zero_le _ | decide) (by subst hK; exact ⟨x165, rfl, (⟨by subst_vars; unfold actR; rw [if_neg (by omega)]; rw [if_neg (by omega)]; rw [if_neg (by omega)]; rw [if_neg (by omega)]; rw [if_neg (by omega)]; rw [if_neg (by omega)]; rw [if_neg (by omega)]; rw [if_pos (by omega)]; first | done | rfl, trivial⟩), hI, (fun q hq => by subst_vars; unfold actW; rw [if_neg (by omega)]; rw [if_neg (by omega)]; rw [if_neg (by omega)]; rw [if_neg (by omega)]; rw [if_neg (by omega)]; rw [if_neg (by omega)]; rw [if_neg (by omega)]; rw [if_pos (by omega)]; exact hcf161 q hq)⟩)
  · skip
    refine dv_tableIn (tgt := 286) (off := 247) dL_act_39 (by omega) (by omega) (by rw [hw11]; rfl) (by decide) ?_
    refine dv_aload_n dL_act_286 rfl 4 rfl ?_
    refine dv_iload_n dL_act_287 rfl 3 rfl ?_
    refine dv_iload dL_act_288 0 rfl ?_
    refine dv_iload_n dL_act_290 rfl 6 rfl ?_
    refine dv_bipush (v := 10) dL_act_291 (by decide) ?_
    refine dv_ishr dL_act_293 ?_
    refine dv_topi (fun x166 ex166 => ?_)
    refine dv_bipush (v := 15) dL_act_294 (by decide) ?_
    refine dv_iand dL_act_296 ?_
    refine dv_topi (fun x167 ex167 => ?_)
    have tx167 := z_andr (x := x166) (y := 15) (by decide : (15 : Int32).toInt = 15) (by omega)
    rw [← ex167] at tx167
    refine dv_iconst (v := 1) dL_act_297 (by decide) ?_
    refine dv_isub dL_act_298 ?_
    refine dv_topi (fun x168 ex168 => ?_)
    have tx168 : x168.toInt = x167.toInt - 1 := by rw [ex168]; exact z_sub rfl (by decide : (1 : Int32).toInt = 1) (by omega) (by omega)
    obtain ⟨bk172, dr171, h173, h174, h175, hs170⟩ := a8_0 hI
    refine GW.callV (n := 3) (As := [.int x1, .int x9, .int x168]) (rest := []) (b := 0) (f_steps l g pe ct x1 x9 x168 hI) (fun _ h => h) rfl rfl ⟨by decide, rfl⟩ hs170 (q := (RX8, TX8, 13)) rfl mm_509 mm_510 mm_511 mm_52 mm_512 (by decide +kernel) ⟨Nat.le_of_ble_eq_true rfl, Nat.le_of_ble_eq_true rfl⟩ rfl (Nat.le_of_ble_eq_true rfl) dL_act_299 (Nat.zero_le _) (Nat.zero_le _) rfl (fun ct169 rrr176 hBr176 hoff177 => ?_)
    obtain ⟨r176, rfl, hr176, hI, hcf178⟩ := hBr176
    refine GW.eq (S2 := [.int r176]) rfl rfl rfl ?_
    have hs179 : ct169 0 = .inr (8, [.ref 1, .ref 2, .ref 3, .ref 5, .ref 6, .ref 9, .ref 10, .ref 17, .ref 21, .ref 34, .ref (99 + 3 * dr171), .int pe, .int bk172]) := (hcf178 _ (pM_no (by decide))).trans hs170
    obtain ⟨h180, h181⟩ := hr176
    have h180 : r176 = qStp l g pe ct x1 x9 x168 := h180
    have h181 : True := h181
    exact dv_iret dL_act_302 rfl (by first | exact Nat.zero_le _ | decide) (by first | exact Nat.zero_le _ | decide) (by subst hK; exact ⟨r176, rfl, (⟨by subst_vars; unfold actR; rw [if_neg (by omega)]; rw [if_neg (by omega)]; rw [if_neg (by omega)]; rw [if_neg (by omega)]; rw [if_neg (by omega)]; rw [if_neg (by omega)]; rw [if_neg (by omega)]; rw [if_neg (by omega)]; rw [if_pos (by omega)]; first | done | rfl, trivial⟩), hI, (fun q hq => by subst_vars; unfold actW; rw [if_neg (by omega)]; rw [if_neg (by omega)]; rw [if_neg (by omega)]; rw [if_neg (by omega)]; rw [if_neg (by omega)]; rw [if_neg (by omega)]; rw [if_neg (by omega)]; rw [if_neg (by omega)]; rw [if_pos (by omega)]; exact hcf178 q hq)⟩)
  · skip
    refine dv_tableIn (tgt := 303) (off := 264) dL_act_39 (by omega) (by omega) (by rw [hw11]; rfl) (by decide) ?_
    refine dv_aload_n dL_act_303 rfl 4 rfl ?_
    refine dv_iload_n dL_act_304 rfl 3 rfl ?_
    refine dv_iconst (v := 1) dL_act_305 (by decide) ?_
    refine dv_iload_n dL_act_306 rfl 6 rfl ?_
    refine dv_bipush (v := 10) dL_act_307 (by decide) ?_
    refine dv_ishr dL_act_309 ?_
    refine dv_topi (fun x182 ex182 => ?_)
    refine dv_iconst (v := 3) dL_act_310 (by decide) ?_
    refine dv_iand dL_act_311 ?_
    refine dv_topi (fun x183 ex183 => ?_)
    have tx183 := z_andr (x := x182) (y := 3) (by decide : (3 : Int32).toInt = 3) (by omega)
    rw [← ex183] at tx183
    refine dv_iadd dL_act_312 ?_
    refine dv_topi (fun x184 ex184 => ?_)
    have tx184 : x184.toInt = 1 + x183.toInt := by rw [ex184]; exact z_add (by decide : (1 : Int32).toInt = 1) rfl (by omega) (by omega)
    refine dv_iload dL_act_313 0 rfl ?_
    obtain ⟨bk188, dr187, h189, h190, h191, hs186⟩ := a8_0 hI
    refine GW.callV (n := 3) (As := [.int x1, .int x184, .int x9]) (rest := []) (b := 0) (f_safe l g pe ct x1 x184 x9 hI) (fun _ h => h) rfl rfl ⟨by decide, rfl⟩ hs186 (q := (RX8, TX8, 13)) rfl mm_526 mm_527 mm_528 mm_52 mm_529 (by decide +kernel) ⟨Nat.le_of_ble_eq_true rfl, Nat.le_of_ble_eq_true rfl⟩ rfl (Nat.le_of_ble_eq_true rfl) dL_act_315 (Nat.zero_le _) (Nat.zero_le _) rfl (fun ct185 rrr192 hBr192 hoff193 => ?_)
    obtain ⟨r192, rfl, hr192, hI, hcf194⟩ := hBr192
    refine GW.eq (S2 := [.int r192]) rfl rfl rfl ?_
    have hs195 : ct185 0 = .inr (8, [.ref 1, .ref 2, .ref 3, .ref 5, .ref 6, .ref 9, .ref 10, .ref 17, .ref 21, .ref 34, .ref (99 + 3 * dr187), .int pe, .int bk188]) := (hcf194 _ (pM_no (by decide))).trans hs186
    obtain ⟨h196, h197⟩ := hr192
    have h196 : r192 = qSafe l g pe ct x1 x184 x9 := h196
    have h197 : True := h197
    exact dv_iret dL_act_318 rfl (by first | exact Nat.zero_le _ | decide) (by first | exact Nat.zero_le _ | decide) (by subst hK; exact ⟨r192, rfl, (⟨by subst_vars; unfold actR; rw [if_neg (by omega)]; rw [if_neg (by omega)]; rw [if_neg (by omega)]; rw [if_neg (by omega)]; rw [if_neg (by omega)]; rw [if_neg (by omega)]; rw [if_neg (by omega)]; rw [if_neg (by omega)]; rw [if_neg (by omega)]; rw [if_pos (by omega)]; first | done | rfl, trivial⟩), hI, (fun q hq => by subst_vars; unfold actW; rw [if_neg (by omega)]; rw [if_neg (by omega)]; rw [if_neg (by omega)]; rw [if_neg (by omega)]; rw [if_neg (by omega)]; rw [if_neg (by omega)]; rw [if_neg (by omega)]; rw [if_neg (by omega)]; rw [if_neg (by omega)]; rw [if_pos (by omega)]; exact hcf194 q hq)⟩)
  · skip
    refine dv_tableIn (tgt := 319) (off := 280) dL_act_39 (by omega) (by omega) (by rw [hw11]; rfl) (by decide) ?_
    refine dv_aload_n dL_act_319 rfl 4 rfl ?_
    refine dv_iload_n dL_act_320 rfl 3 rfl ?_
    refine dv_iload dL_act_321 2 rfl ?_
    refine dv_iload_n dL_act_323 rfl 6 rfl ?_
    refine dv_bipush (v := 7) dL_act_324 (by decide) ?_
    refine dv_ishr dL_act_326 ?_
    refine dv_topi (fun x198 ex198 => ?_)
    refine dv_iconst (v := 3) dL_act_327 (by decide) ?_
    refine dv_iand dL_act_328 ?_
    refine dv_topi (fun x199 ex199 => ?_)
    have tx199 := z_andr (x := x198) (y := 3) (by decide : (3 : Int32).toInt = 3) (by omega)
    rw [← ex199] at tx199
    refine dv_iconst (v := 3) dL_act_329 (by decide) ?_
    refine dv_irem dL_act_330 (by decide) ?_
    refine dv_topi (fun x200 ex200 => ?_)
    have tx200 := z_rem (x := x199) (y := 3) rfl (by decide : (3 : Int32).toInt = 3) (by omega) (by omega)
    rw [← ex200] at tx200
    obtain ⟨bk204, dr203, h205, h206, h207, hs202⟩ := a8_0 hI
    refine GW.callV (n := 3) (As := [.int x1, .int x4, .int x200]) (rest := []) (b := 0) (f_fewest l g pe ct x1 x4 x200 hI) (fun _ h => h) rfl rfl ⟨by decide, rfl⟩ hs202 (q := (RX8, TX8, 13)) rfl mm_703 mm_704 mm_705 mm_52 mm_706 (by decide +kernel) ⟨Nat.le_of_ble_eq_true rfl, Nat.le_of_ble_eq_true rfl⟩ rfl (Nat.le_of_ble_eq_true rfl) dL_act_331 (Nat.zero_le _) (Nat.zero_le _) rfl (fun ct201 rrr208 hBr208 hoff209 => ?_)
    obtain ⟨r208, rfl, hr208, hI, hcf210⟩ := hBr208
    refine GW.eq (S2 := [.int r208]) rfl rfl rfl ?_
    have hs211 : ct201 0 = .inr (8, [.ref 1, .ref 2, .ref 3, .ref 5, .ref 6, .ref 9, .ref 10, .ref 17, .ref 21, .ref 34, .ref (99 + 3 * dr203), .int pe, .int bk204]) := (hcf210 _ (pM_no (by decide))).trans hs202
    obtain ⟨h212, h213⟩ := hr208
    have h212 : r208 = qFst l g pe ct x1 x4 x200 := h212
    have h213 : True := h213
    exact dv_iret dL_act_334 rfl (by first | exact Nat.zero_le _ | decide) (by first | exact Nat.zero_le _ | decide) (by subst hK; exact ⟨r208, rfl, (⟨by subst_vars; unfold actR; rw [if_neg (by omega)]; rw [if_neg (by omega)]; rw [if_neg (by omega)]; rw [if_neg (by omega)]; rw [if_neg (by omega)]; rw [if_neg (by omega)]; rw [if_neg (by omega)]; rw [if_neg (by omega)]; rw [if_neg (by omega)]; rw [if_neg (by omega)]; rw [if_pos (by omega)]; first | done | rfl, trivial⟩), hI, (fun q hq => by subst_vars; unfold actW; rw [if_neg (by omega)]; rw [if_neg (by omega)]; rw [if_neg (by omega)]; rw [if_neg (by omega)]; rw [if_neg (by omega)]; rw [if_neg (by omega)]; rw [if_neg (by omega)]; rw [if_neg (by omega)]; rw [if_neg (by omega)]; rw [if_neg (by omega)]; rw [if_pos (by omega)]; exact hcf210 q hq)⟩)
  · skip
    refine dv_tableIn (tgt := 335) (off := 296) dL_act_39 (by omega) (by omega) (by rw [hw11]; rfl) (by decide) ?_
    refine dv_aload_n dL_act_335 rfl 4 rfl ?_
    refine dv_iload_n dL_act_336 rfl 3 rfl ?_
    refine dv_iload dL_act_337 2 rfl ?_
    refine dv_iload dL_act_339 0 rfl ?_
    refine dv_iload_n dL_act_341 rfl 6 rfl ?_
    refine dv_bipush (v := 10) dL_act_342 (by decide) ?_
    refine dv_ishr dL_act_344 ?_
    refine dv_topi (fun x214 ex214 => ?_)
    refine dv_iconst (v := 3) dL_act_345 (by decide) ?_
    refine dv_iand dL_act_346 ?_
    refine dv_topi (fun x215 ex215 => ?_)
    have tx215 := z_andr (x := x214) (y := 3) (by decide : (3 : Int32).toInt = 3) (by omega)
    rw [← ex215] at tx215
    refine dv_iconst (v := 3) dL_act_347 (by decide) ?_
    refine dv_irem dL_act_348 (by decide) ?_
    refine dv_topi (fun x216 ex216 => ?_)
    have tx216 := z_rem (x := x215) (y := 3) rfl (by decide : (3 : Int32).toInt = 3) (by omega) (by omega)
    rw [← ex216] at tx216
    obtain ⟨bk220, dr219, h221, h222, h223, hs218⟩ := a8_0 hI
    refine GW.callVA (n := 4) (As := [.int x1, .int x4, .int x9, .int x216]) (rest := []) (b := 0) (f_questions l g pe ct x1 x4 x9 x216 hI) (fun _ h => h) rfl (fun k hk hk1 => ⟨fun e => hk1 (by rw [e]; exact ⟨by decide, rfl⟩), fun idn ad2 h => no20 hI (by have h1 : k < 126 := of_decide_eq_true hk.2; omega) (fun e => hk1 (by rw [e]; exact ⟨by decide, rfl⟩)) h⟩) rfl rfl (fun _ _ hk => by rw [hK] at hk; obtain ⟨_, rfl, -⟩ := hk; exact fun _ _ => rfl) (fun _ _ hk => by obtain ⟨_, rfl, -⟩ := hk; exact fun _ _ => rfl) ⟨by decide, rfl⟩ hs218 (q := (RX8, TX8, 13)) rfl mm_718 mm_719 mm_720 mm_52 mm_721 (by decide +kernel) ⟨(Nat.le_of_ble_eq_true rfl), (Nat.le_of_ble_eq_true rfl)⟩ rfl (Nat.le_of_ble_eq_true rfl) dL_act_349 (Nat.le_of_ble_eq_true rfl) (Nat.le_of_ble_eq_true rfl) rfl (fun ct217 rrr224 hBr224 hoff225 => ?_)
    obtain ⟨r224, rfl, hr224, hI, hk226⟩ := hBr224
    refine GW.eq (S2 := [.int r224]) rfl rfl rfl ?_
    obtain ⟨h227, h228⟩ := hr224
    have h227 : r224 = qQst l g pe ct x1 x4 x9 x216 := h227
    have h228 : True := h228
    exact dv_iret dL_act_352 rfl (by first | exact Nat.zero_le _ | decide) (by first | exact Nat.zero_le _ | decide) (by subst hK; exact ⟨r224, rfl, (⟨by subst_vars; unfold actR; rw [if_neg (by omega)]; rw [if_neg (by omega)]; rw [if_neg (by omega)]; rw [if_neg (by omega)]; rw [if_neg (by omega)]; rw [if_neg (by omega)]; rw [if_neg (by omega)]; rw [if_neg (by omega)]; rw [if_neg (by omega)]; rw [if_neg (by omega)]; rw [if_neg (by omega)]; rw [if_pos (by omega)]; first | done | rfl, trivial⟩), hI, (fun q hq => by subst_vars; unfold actW; rw [if_neg (by omega)]; rw [if_neg (by omega)]; rw [if_neg (by omega)]; rw [if_neg (by omega)]; rw [if_neg (by omega)]; rw [if_neg (by omega)]; rw [if_neg (by omega)]; rw [if_neg (by omega)]; rw [if_neg (by omega)]; rw [if_neg (by omega)]; rw [if_neg (by omega)]; rw [if_pos (by omega)]; exact hk226 q hq)⟩)
  · skip
    refine dv_tableIn (tgt := 353) (off := 314) dL_act_39 (by omega) (by omega) (by rw [hw11]; rfl) (by decide) ?_
    refine dv_aload_n dL_act_353 rfl 4 rfl ?_
    refine dv_iload_n dL_act_354 rfl 3 rfl ?_
    refine dv_iconst (v := 1) dL_act_355 (by decide) ?_
    refine dv_iload_n dL_act_356 rfl 6 rfl ?_
    refine dv_bipush (v := 7) dL_act_357 (by decide) ?_
    refine dv_ishr dL_act_359 ?_
    refine dv_topi (fun x229 ex229 => ?_)
    refine dv_iconst (v := 3) dL_act_360 (by decide) ?_
    refine dv_iand dL_act_361 ?_
    refine dv_topi (fun x230 ex230 => ?_)
    have tx230 := z_andr (x := x229) (y := 3) (by decide : (3 : Int32).toInt = 3) (by omega)
    rw [← ex230] at tx230
    refine dv_iadd dL_act_362 ?_
    refine dv_topi (fun x231 ex231 => ?_)
    have tx231 : x231.toInt = 1 + x230.toInt := by rw [ex231]; exact z_add (by decide : (1 : Int32).toInt = 1) rfl (by omega) (by omega)
    refine dv_iload_n dL_act_363 rfl 6 rfl ?_
    refine dv_bipush (v := 9) dL_act_364 (by decide) ?_
    refine dv_ishr dL_act_366 ?_
    refine dv_topi (fun x232 ex232 => ?_)
    refine dv_iconst (v := 3) dL_act_367 (by decide) ?_
    refine dv_iand dL_act_368 ?_
    refine dv_topi (fun x233 ex233 => ?_)
    have tx233 := z_andr (x := x232) (y := 3) (by decide : (3 : Int32).toInt = 3) (by omega)
    rw [← ex233] at tx233
    obtain ⟨bk237, dr236, h238, h239, h240, hs235⟩ := a8_0 hI
    refine GW.callV (n := 3) (As := [.int x1, .int x231, .int x233]) (rest := []) (b := 0) (f_bestSwap l g pe ct x1 x231 x233 hI) (fun _ h => h) rfl rfl ⟨by decide, rfl⟩ hs235 (q := (RX8, TX8, 13)) rfl mm_772 mm_773 mm_774 mm_52 mm_775 (by decide +kernel) ⟨Nat.le_of_ble_eq_true rfl, Nat.le_of_ble_eq_true rfl⟩ rfl (Nat.le_of_ble_eq_true rfl) dL_act_369 (Nat.zero_le _) (Nat.zero_le _) rfl (fun ct234 rrr241 hBr241 hoff242 => ?_)
    obtain ⟨r241, rfl, hr241, hI, hk243⟩ := hBr241
    refine GW.eq (S2 := [.int r241]) rfl rfl rfl ?_
    obtain ⟨h244, h245⟩ := hr241
    have h244 : r241 = qSwp l g pe ct x1 x231 x233 := h244
    have h245 : True := h245
    exact dv_iret dL_act_372 rfl (by first | exact Nat.zero_le _ | decide) (by first | exact Nat.zero_le _ | decide) (by subst hK; exact ⟨r241, rfl, (⟨by subst_vars; unfold actR; rw [if_neg (by omega)]; rw [if_neg (by omega)]; rw [if_neg (by omega)]; rw [if_neg (by omega)]; rw [if_neg (by omega)]; rw [if_neg (by omega)]; rw [if_neg (by omega)]; rw [if_neg (by omega)]; rw [if_neg (by omega)]; rw [if_neg (by omega)]; rw [if_neg (by omega)]; rw [if_neg (by omega)]; rw [if_pos (by omega)]; first | done | rfl, trivial⟩), hI, (fun q hq => by subst_vars; unfold actW; rw [if_neg (by omega)]; rw [if_neg (by omega)]; rw [if_neg (by omega)]; rw [if_neg (by omega)]; rw [if_neg (by omega)]; rw [if_neg (by omega)]; rw [if_neg (by omega)]; rw [if_neg (by omega)]; rw [if_neg (by omega)]; rw [if_neg (by omega)]; rw [if_neg (by omega)]; rw [if_neg (by omega)]; rw [if_pos (by omega)]; exact hk243 q hq)⟩)
  · skip
    refine dv_tableIn (tgt := 373) (off := 334) dL_act_39 (by omega) (by omega) (by rw [hw11]; rfl) (by decide) ?_
    refine dv_aload_n dL_act_373 rfl 4 rfl ?_
    refine dv_iconst (v := 1) dL_act_374 (by decide) ?_
    refine dv_iload_n dL_act_375 rfl 6 rfl ?_
    refine dv_iconst (v := 3) dL_act_376 (by decide) ?_
    refine dv_iand dL_act_377 ?_
    refine dv_topi (fun x246 ex246 => ?_)
    have tx246 := z_andr (x := v) (y := 3) (by decide : (3 : Int32).toInt = 3) (by omega)
    rw [← ex246] at tx246
    refine dv_iadd dL_act_378 ?_
    refine dv_topi (fun x247 ex247 => ?_)
    have tx247 : x247.toInt = 1 + x246.toInt := by rw [ex247]; exact z_add (by decide : (1 : Int32).toInt = 1) rfl (by omega) (by omega)
    refine dv_iload_n dL_act_379 rfl 6 rfl ?_
    refine dv_iconst (v := 2) dL_act_380 (by decide) ?_
    refine dv_ishr dL_act_381 ?_
    refine dv_topi (fun x248 ex248 => ?_)
    refine dv_iconst (v := 3) dL_act_382 (by decide) ?_
    refine dv_iand dL_act_383 ?_
    refine dv_topi (fun x249 ex249 => ?_)
    have tx249 := z_andr (x := x248) (y := 3) (by decide : (3 : Int32).toInt = 3) (by omega)
    rw [← ex249] at tx249
    refine dv_iconst (v := 3) dL_act_384 (by decide) ?_
    refine dv_irem dL_act_385 (by decide) ?_
    refine dv_topi (fun x250 ex250 => ?_)
    have tx250 := z_rem (x := x249) (y := 3) rfl (by decide : (3 : Int32).toInt = 3) (by omega) (by omega)
    rw [← ex250] at tx250
    obtain ⟨bk254, dr253, h255, h256, h257, hs252⟩ := a8_0 hI
    refine GW.callV (n := 2) (As := [.int x247, .int x250]) (rest := []) (b := 0) (f_together l g pe ct x247 x250 hI) (fun _ h => h) rfl rfl ⟨by decide, rfl⟩ hs252 (q := (RX8, TX8, 13)) rfl mm_781 mm_782 mm_783 mm_52 mm_784 (by decide +kernel) ⟨Nat.le_of_ble_eq_true rfl, Nat.le_of_ble_eq_true rfl⟩ rfl (Nat.le_of_ble_eq_true rfl) dL_act_386 (Nat.zero_le _) (Nat.zero_le _) rfl (fun ct251 rrr258 hBr258 hoff259 => ?_)
    obtain ⟨r258, rfl, hr258, hI, hcf260⟩ := hBr258
    refine GW.eq (S2 := [.int r258]) rfl rfl rfl ?_
    have hs261 : ct251 0 = .inr (8, [.ref 1, .ref 2, .ref 3, .ref 5, .ref 6, .ref 9, .ref 10, .ref 17, .ref 21, .ref 34, .ref (99 + 3 * dr253), .int pe, .int bk254]) := (hcf260 _ (pM_no (by decide))).trans hs252
    obtain ⟨h262, h263⟩ := hr258
    have h262 : r258 = qTog l g pe ct x247 x250 := h262
    have h263 : True := h263
    exact dv_iret dL_act_389 rfl (by first | exact Nat.zero_le _ | decide) (by first | exact Nat.zero_le _ | decide) (by subst hK; exact ⟨r258, rfl, (⟨by subst_vars; unfold actR; rw [if_neg (by omega)]; rw [if_neg (by omega)]; rw [if_neg (by omega)]; rw [if_neg (by omega)]; rw [if_neg (by omega)]; rw [if_neg (by omega)]; rw [if_neg (by omega)]; rw [if_neg (by omega)]; rw [if_neg (by omega)]; rw [if_neg (by omega)]; rw [if_neg (by omega)]; rw [if_neg (by omega)]; rw [if_neg (by omega)]; rw [if_pos (by omega)]; first | done | rfl, trivial⟩), hI, (fun q hq => by subst_vars; unfold actW; rw [if_neg (by omega)]; rw [if_neg (by omega)]; rw [if_neg (by omega)]; rw [if_neg (by omega)]; rw [if_neg (by omega)]; rw [if_neg (by omega)]; rw [if_neg (by omega)]; rw [if_neg (by omega)]; rw [if_neg (by omega)]; rw [if_neg (by omega)]; rw [if_neg (by omega)]; rw [if_neg (by omega)]; rw [if_neg (by omega)]; rw [if_pos (by omega)]; exact hcf260 q hq)⟩)
  · skip
    refine dv_tableIn (tgt := 390) (off := 351) dL_act_39 (by omega) (by omega) (by rw [hw11]; rfl) (by decide) ?_
    refine dv_aload_n dL_act_390 rfl 4 rfl ?_
    refine dv_iload_n dL_act_391 rfl 6 rfl ?_
    refine dv_iconst (v := 3) dL_act_392 (by decide) ?_
    refine dv_iand dL_act_393 ?_
    refine dv_topi (fun x264 ex264 => ?_)
    have tx264 := z_andr (x := v) (y := 3) (by decide : (3 : Int32).toInt = 3) (by omega)
    rw [← ex264] at tx264
    refine dv_iload_n dL_act_394 rfl 6 rfl ?_
    refine dv_iconst (v := 2) dL_act_395 (by decide) ?_
    refine dv_ishr dL_act_396 ?_
    refine dv_topi (fun x265 ex265 => ?_)
    refine dv_bipush (v := 31) dL_act_397 (by decide) ?_
    refine dv_iand dL_act_399 ?_
    refine dv_topi (fun x266 ex266 => ?_)
    have tx266 := z_andr (x := x265) (y := 31) (by decide : (31 : Int32).toInt = 31) (by omega)
    rw [← ex266] at tx266
    refine dv_bipush (v := 16) dL_act_400 (by decide) ?_
    refine dv_iload_n dL_act_402 rfl 6 rfl ?_
    refine dv_bipush (v := 7) dL_act_403 (by decide) ?_
    refine dv_ishr dL_act_405 ?_
    refine dv_topi (fun x267 ex267 => ?_)
    refine dv_bipush (v := 15) dL_act_406 (by decide) ?_
    refine dv_iand dL_act_408 ?_
    refine dv_topi (fun x268 ex268 => ?_)
    have tx268 := z_andr (x := x267) (y := 15) (by decide : (15 : Int32).toInt = 15) (by omega)
    rw [← ex268] at tx268
    refine dv_iadd dL_act_409 ?_
    refine dv_topi (fun x269 ex269 => ?_)
    have tx269 : x269.toInt = 16 + x268.toInt := by rw [ex269]; exact z_add (by decide : (16 : Int32).toInt = 16) rfl (by omega) (by omega)
    obtain ⟨bk273, dr272, h274, h275, h276, hs271⟩ := a8_0 hI
    refine GW.callV (n := 3) (As := [.int x264, .int x266, .int x269]) (rest := []) (b := 0) (fw_upper l g pe ct x264 x266 x269 hI) sub_pCl_pAll rfl rfl ⟨by decide, rfl⟩ hs271 (q := (RX8, TX8, 13)) rfl mm_543 mm_544 mm_545 mm_52 mm_546 (by decide +kernel) ⟨Nat.le_of_ble_eq_true rfl, Nat.le_of_ble_eq_true rfl⟩ rfl (Nat.le_of_ble_eq_true rfl) dL_act_410 (Nat.zero_le _) (Nat.zero_le _) rfl (fun ct270 rrr277 hBr277 hoff278 => ?_)
    obtain ⟨r277, rfl, hr277, hI, hk279, hk280⟩ := hBr277
    refine GW.eq (S2 := [.int r277]) rfl rfl rfl ?_
    rcases hr277 with hr277 | hr277
    · skip
      obtain ⟨rfl, h281, h282, h283⟩ := hr277
      have h281 : 0 ≤ x264.toInt ∧ x264.toInt ≤ 3 := h281
      have h282 : 0 ≤ x266.toInt ∧ x266.toInt ≤ 31 := h282
      have h283 : x269.toInt = -1 ∨ (16 ≤ x269.toInt ∧ x269.toInt ≤ 31 ∧ x266.toInt < x269.toInt) := h283
      refine dv_if_eq (tgt := 420) dL_act_413 (by decide) (fun c284 => ?_) (fun c284 => ?_)
      · skip
        exact absurd c284 (by decide)
      · skip
        refine dv_iconst (v := 1) dL_act_416 (by decide) ?_
        refine dv_goto (tgt := 421) dL_act_417 (by decide) ?_
        have q285 : (1 : Int32).toInt = 1 := by decide
        exact dv_iret dL_act_421 rfl (by first | exact Nat.zero_le _ | decide) (by first | exact Nat.zero_le _ | decide) (by subst hK; exact ⟨1, rfl, (⟨by subst_vars; unfold actR; rw [if_neg (by omega)]; rw [if_neg (by omega)]; rw [if_neg (by omega)]; rw [if_neg (by omega)]; rw [if_neg (by omega)]; rw [if_neg (by omega)]; rw [if_neg (by omega)]; rw [if_neg (by omega)]; rw [if_neg (by omega)]; rw [if_neg (by omega)]; rw [if_neg (by omega)]; rw [if_neg (by omega)]; rw [if_neg (by omega)]; rw [if_neg (by omega)]; rw [if_pos (by omega)]; unfold aZ; first | (rw [if_pos (by omega)]; done) | (rw [if_neg (by omega)]; done) | (rw [hk279]; rfl), trivial⟩), hI, (fun q hq => by subst_vars; unfold actW; rw [if_neg (by omega)]; rw [if_neg (by omega)]; rw [if_neg (by omega)]; rw [if_neg (by omega)]; rw [if_neg (by omega)]; rw [if_neg (by omega)]; rw [if_neg (by omega)]; rw [if_neg (by omega)]; rw [if_neg (by omega)]; rw [if_neg (by omega)]; rw [if_neg (by omega)]; rw [if_neg (by omega)]; rw [if_neg (by omega)]; rw [if_neg (by omega)]; rw [if_pos (by omega)]; exact hk280 q hq)⟩)
    · skip
      obtain ⟨rfl, h286⟩ := hr277
      have h286 : ¬ ((0 ≤ x264.toInt ∧ x264.toInt ≤ 3) ∧ (0 ≤ x266.toInt ∧ x266.toInt ≤ 31) ∧ (x269.toInt = -1 ∨ (16 ≤ x269.toInt ∧ x269.toInt ≤ 31 ∧ x266.toInt < x269.toInt))) := h286
      refine dv_if_eq (tgt := 420) dL_act_413 (by decide) (fun c287 => ?_) (fun c287 => ?_)
      · skip
        refine dv_iconst (v := 0) dL_act_420 (by decide) ?_
        have q288 : (0 : Int32).toInt = 0 := by decide
        exact dv_iret dL_act_421 rfl (by first | exact Nat.zero_le _ | decide) (by first | exact Nat.zero_le _ | decide) (by subst hK; exact ⟨0, rfl, (⟨by subst_vars; unfold actR; rw [if_neg (by omega)]; rw [if_neg (by omega)]; rw [if_neg (by omega)]; rw [if_neg (by omega)]; rw [if_neg (by omega)]; rw [if_neg (by omega)]; rw [if_neg (by omega)]; rw [if_neg (by omega)]; rw [if_neg (by omega)]; rw [if_neg (by omega)]; rw [if_neg (by omega)]; rw [if_neg (by omega)]; rw [if_neg (by omega)]; rw [if_neg (by omega)]; rw [if_pos (by omega)]; unfold aZ; first | (rw [if_pos (by omega)]; done) | (rw [if_neg (by omega)]; done) | (rw [hk279]; rfl), trivial⟩), hI, (fun q hq => by subst_vars; unfold actW; rw [if_neg (by omega)]; rw [if_neg (by omega)]; rw [if_neg (by omega)]; rw [if_neg (by omega)]; rw [if_neg (by omega)]; rw [if_neg (by omega)]; rw [if_neg (by omega)]; rw [if_neg (by omega)]; rw [if_neg (by omega)]; rw [if_neg (by omega)]; rw [if_neg (by omega)]; rw [if_neg (by omega)]; rw [if_neg (by omega)]; rw [if_neg (by omega)]; rw [if_pos (by omega)]; exact hk280 q hq)⟩)
      · skip
        exact absurd c287 (by decide)
  · skip
    refine dv_tableOut (tgt := 422) dL_act_39 (by omega) (by decide) ?_
    refine dv_aload_n dL_act_422 rfl 4 rfl ?_
    refine dv_iload_n dL_act_423 rfl 6 rfl ?_
    refine dv_iconst (v := 1) dL_act_424 (by decide) ?_
    refine dv_ishr dL_act_425 ?_
    refine dv_topi (fun x289 ex289 => ?_)
    refine dv_bipush (v := 7) dL_act_426 (by decide) ?_
    refine dv_iand dL_act_428 ?_
    refine dv_topi (fun x290 ex290 => ?_)
    have tx290 := z_andr (x := x289) (y := 7) (by decide : (7 : Int32).toInt = 7) (by omega)
    rw [← ex290] at tx290
    refine dv_bipush (v := 7) dL_act_429 (by decide) ?_
    refine dv_irem dL_act_431 (by decide) ?_
    refine dv_topi (fun x291 ex291 => ?_)
    have tx291 := z_rem (x := x290) (y := 7) rfl (by decide : (7 : Int32).toInt = 7) (by omega) (by omega)
    rw [← ex291] at tx291
    refine dv_bipush (v := 24) dL_act_432 (by decide) ?_
    refine dv_ishl dL_act_434 ?_
    refine dv_topi (fun x292 ex292 => ?_)
    refine dv_iload_n dL_act_435 rfl 6 rfl ?_
    refine dv_iconst (v := 4) dL_act_436 (by decide) ?_
    refine dv_ishr dL_act_437 ?_
    refine dv_topi (fun x293 ex293 => ?_)
    refine dv_bipush (v := 7) dL_act_438 (by decide) ?_
    refine dv_iand dL_act_440 ?_
    refine dv_topi (fun x294 ex294 => ?_)
    have tx294 := z_andr (x := x293) (y := 7) (by decide : (7 : Int32).toInt = 7) (by omega)
    rw [← ex294] at tx294
    refine dv_bipush (v := 7) dL_act_441 (by decide) ?_
    refine dv_irem dL_act_443 (by decide) ?_
    refine dv_topi (fun x295 ex295 => ?_)
    have tx295 := z_rem (x := x294) (y := 7) rfl (by decide : (7 : Int32).toInt = 7) (by omega) (by omega)
    rw [← ex295] at tx295
    refine dv_bipush (v := 16) dL_act_444 (by decide) ?_
    refine dv_ishl dL_act_446 ?_
    refine dv_topi (fun x296 ex296 => ?_)
    refine dv_ior dL_act_447 ?_
    refine dv_topi (fun x297 ex297 => ?_)
    refine dv_iconst (v := 0) dL_act_448 (by decide) ?_
    refine dv_iconst (v := 0) dL_act_449 (by decide) ?_
    refine dv_iconst (v := 0) dL_act_450 (by decide) ?_
    refine dv_iconst (v := 0) dL_act_451 (by decide) ?_
    obtain ⟨bk301, dr300, h302, h303, h304, hs299⟩ := a8_0 hI
    refine GW.callV (n := 5) (As := [.int x297, .int 0, .int 0, .int 0, .int 0]) (rest := []) (b := 0) (fw_feed l g pe ct x297 (0 : Int32) (0 : Int32) (0 : Int32) (0 : Int32) hI) sub_pCl_pAll rfl rfl ⟨by decide, rfl⟩ hs299 (q := (RX8, TX8, 13)) rfl mm_343 mm_344 mm_345 mm_52 mm_346 (by decide +kernel) ⟨Nat.le_of_ble_eq_true rfl, Nat.le_of_ble_eq_true rfl⟩ rfl (Nat.le_of_ble_eq_true rfl) dL_act_452 (Nat.zero_le _) (Nat.zero_le _) rfl (fun ct298 rrr305 hBr305 hoff306 => ?_)
    obtain ⟨r305, rfl, hr305, hI, hk307, hk308⟩ := hBr305
    refine GW.eq (S2 := [.int r305]) rfl rfl rfl ?_
    refine dv_pop dL_act_455 rfl ?_
    refine dv_aload_n dL_act_456 rfl 4 rfl ?_
    refine dv_iconst (v := 2) dL_act_457 (by decide) ?_
    refine dv_iconst (v := 1) dL_act_458 (by decide) ?_
    refine dv_iload_n dL_act_459 rfl 6 rfl ?_
    refine dv_bipush (v := 7) dL_act_460 (by decide) ?_
    refine dv_ishr dL_act_462 ?_
    refine dv_topi (fun x309 ex309 => ?_)
    refine dv_iconst (v := 3) dL_act_463 (by decide) ?_
    refine dv_iand dL_act_464 ?_
    refine dv_topi (fun x310 ex310 => ?_)
    have tx310 := z_andr (x := x309) (y := 3) (by decide : (3 : Int32).toInt = 3) (by omega)
    rw [← ex310] at tx310
    refine dv_iadd dL_act_465 ?_
    refine dv_topi (fun x311 ex311 => ?_)
    have tx311 : x311.toInt = 1 + x310.toInt := by rw [ex311]; exact z_add (by decide : (1 : Int32).toInt = 1) rfl (by omega) (by omega)
    refine dv_iload_n dL_act_466 rfl 6 rfl ?_
    refine dv_bipush (v := 9) dL_act_467 (by decide) ?_
    refine dv_ishr dL_act_469 ?_
    refine dv_topi (fun x312 ex312 => ?_)
    refine dv_bipush (v := 63) dL_act_470 (by decide) ?_
    refine dv_iand dL_act_472 ?_
    refine dv_topi (fun x313 ex313 => ?_)
    have tx313 := z_andr (x := x312) (y := 63) (by decide : (63 : Int32).toInt = 63) (by omega)
    rw [← ex313] at tx313
    refine dv_iload_n dL_act_473 rfl 6 rfl ?_
    refine dv_bipush (v := 15) dL_act_474 (by decide) ?_
    refine dv_ishr dL_act_476 ?_
    refine dv_topi (fun x314 ex314 => ?_)
    refine dv_bipush (v := 7) dL_act_477 (by decide) ?_
    refine dv_iand dL_act_479 ?_
    refine dv_topi (fun x315 ex315 => ?_)
    have tx315 := z_andr (x := x314) (y := 7) (by decide : (7 : Int32).toInt = 7) (by omega)
    rw [← ex315] at tx315
    refine dv_bipush (v := 6) dL_act_480 (by decide) ?_
    refine dv_irem dL_act_482 (by decide) ?_
    refine dv_topi (fun x316 ex316 => ?_)
    have tx316 := z_rem (x := x315) (y := 6) rfl (by decide : (6 : Int32).toInt = 6) (by omega) (by omega)
    rw [← ex316] at tx316
    refine dv_iconst (v := 1) dL_act_483 (by decide) ?_
    refine dv_isub dL_act_484 ?_
    refine dv_topi (fun x317 ex317 => ?_)
    have tx317 : x317.toInt = x316.toInt - 1 := by rw [ex317]; exact z_sub rfl (by decide : (1 : Int32).toInt = 1) (by omega) (by omega)
    obtain ⟨bk321, dr320, h322, h323, h324, hs319⟩ := a8_0 hI
    refine GW.callV (n := 4) (As := [.int 2, .int x311, .int x313, .int x317]) (rest := []) (b := 0) (fw_blurring l g pe ct298 (2 : Int32) x311 x313 x317 hI) sub_pCl_pAll rfl rfl ⟨by decide, rfl⟩ hs319 (q := (RX8, TX8, 13)) rfl mm_789 mm_790 mm_791 mm_52 mm_792 (by decide +kernel) ⟨Nat.le_of_ble_eq_true rfl, Nat.le_of_ble_eq_true rfl⟩ rfl (Nat.le_of_ble_eq_true rfl) dL_act_485 (Nat.zero_le _) (Nat.zero_le _) rfl (fun ct318 rrr325 hBr325 hoff326 => ?_)
    obtain ⟨r325, rfl, hr325, hI, hk327, hk328⟩ := hBr325
    refine GW.eq (S2 := [.int r325]) rfl rfl rfl ?_
    exact dv_iret dL_act_488 rfl (by first | exact Nat.zero_le _ | decide) (by first | exact Nat.zero_le _ | decide) (by subst hK; exact ⟨r325, rfl, (⟨by subst_vars; unfold actR; rw [if_neg (by omega)]; rw [if_neg (by omega)]; rw [if_neg (by omega)]; rw [if_neg (by omega)]; rw [if_neg (by omega)]; rw [if_neg (by omega)]; rw [if_neg (by omega)]; rw [if_neg (by omega)]; rw [if_neg (by omega)]; rw [if_neg (by omega)]; rw [if_neg (by omega)]; rw [if_neg (by omega)]; rw [if_neg (by omega)]; rw [if_neg (by omega)]; rw [if_neg (by omega)]; rw [← w_blurring_c hk308]; first | done | exact hk327.symm | rfl, trivial⟩), hI, (fun q hq => by subst_vars; unfold actW; rw [if_neg (by omega)]; rw [if_neg (by omega)]; rw [if_neg (by omega)]; rw [if_neg (by omega)]; rw [if_neg (by omega)]; rw [if_neg (by omega)]; rw [if_neg (by omega)]; rw [if_neg (by omega)]; rw [if_neg (by omega)]; rw [if_neg (by omega)]; rw [if_neg (by omega)]; rw [if_neg (by omega)]; rw [if_neg (by omega)]; rw [if_neg (by omega)]; rw [if_neg (by omega)]; rw [← w_blurring_c hk308]; exact hk328 q hq)⟩)

set_option maxHeartbeats 4000000 in
set_option maxRecDepth 100000 in
theorem k_ntz_0 (l : Launch) (g : zG) (pe : Int32) (ct : Nat → va_E) (hI : Inv8 g idn pe ct) : DM l g pNo false yJ6_numberOfTrailingZeros_0f7a4 cJ6_numberOfTrailingZeros_0f7a4 2 (some .int) ({ frames := 0, cells := 0, slots := 0, locals := 0 }) (fun (ct2 : Nat → va_E) (rr : Option Value) => ∃ (r : Int32), rr = some (.int r) ∧ ((r = 0)) ∧ ct = ct2) ct [.int 1] := by
  refine DM.K (fun K hK => ?_)
  refine GW.met (own := RJ6) (loc := [(0, .int 1)]) (by decide) rfl rfl (Nat.le_of_ble_eq_true rfl) ?_
  have hpe0 := hI.1
  refine dv_iload_n dJ6_numberOfTrailingZeros_0f7a4_0 rfl 0 rfl ?_
  refine dv_iconst (v := (-1)) dJ6_numberOfTrailingZeros_0f7a4_1 (by decide) ?_
  refine dv_ixor dJ6_numberOfTrailingZeros_0f7a4_2 ?_
  refine dv_topi (fun x1 ex1 => ?_)
  obtain rfl : x1 = (-2) := ex1.trans (by decide)
  refine dv_iload_n dJ6_numberOfTrailingZeros_0f7a4_3 rfl 0 rfl ?_
  refine dv_iconst (v := 1) dJ6_numberOfTrailingZeros_0f7a4_4 (by decide) ?_
  refine dv_isub dJ6_numberOfTrailingZeros_0f7a4_5 ?_
  refine dv_topi (fun x2 ex2 => ?_)
  obtain rfl : x2 = 0 := ex2.trans (by decide)
  refine dv_iand dJ6_numberOfTrailingZeros_0f7a4_6 ?_
  refine dv_topi (fun x3 ex3 => ?_)
  obtain rfl : x3 = 0 := ex3.trans (by decide)
  refine dv_istore_n (lv' := [(0, .int 0)]) dJ6_numberOfTrailingZeros_0f7a4_7 rfl (by decide) rfl ?_
  refine dv_iload_n dJ6_numberOfTrailingZeros_0f7a4_8 rfl 0 rfl ?_
  refine dv_if_gt (tgt := 17) dJ6_numberOfTrailingZeros_0f7a4_9 (by decide) (fun c4 => ?_) (fun c4 => ?_)
  · skip
    exact absurd c4 (by decide)
  · skip
    refine dv_iload_n dJ6_numberOfTrailingZeros_0f7a4_12 rfl 0 rfl ?_
    refine dv_bipush (v := 32) dJ6_numberOfTrailingZeros_0f7a4_13 (by decide) ?_
    refine dv_iand dJ6_numberOfTrailingZeros_0f7a4_15 ?_
    refine dv_topi (fun x5 ex5 => ?_)
    obtain rfl : x5 = 0 := ex5.trans (by decide)
    have q6 : (0 : Int32).toInt = 0 := by decide
    exact dv_iret dJ6_numberOfTrailingZeros_0f7a4_16 rfl (by first | exact Nat.zero_le _ | decide) (by first | exact Nat.zero_le _ | decide) (by subst hK; exact ⟨0, rfl, (rfl), rfl⟩)

set_option maxHeartbeats 4000000 in
set_option maxRecDepth 100000 in
theorem k_ntz_1 (l : Launch) (g : zG) (pe : Int32) (ct : Nat → va_E) (hI : Inv8 g idn pe ct) : DM l g pNo false yJ6_numberOfTrailingZeros_0f7a4 cJ6_numberOfTrailingZeros_0f7a4 2 (some .int) ({ frames := 0, cells := 0, slots := 0, locals := 0 }) (fun (ct2 : Nat → va_E) (rr : Option Value) => ∃ (r : Int32), rr = some (.int r) ∧ ((r = 1)) ∧ ct = ct2) ct [.int 2] := by
  refine DM.K (fun K hK => ?_)
  refine GW.met (own := RJ6) (loc := [(0, .int 2)]) (by decide) rfl rfl (Nat.le_of_ble_eq_true rfl) ?_
  have hpe0 := hI.1
  refine dv_iload_n dJ6_numberOfTrailingZeros_0f7a4_0 rfl 0 rfl ?_
  refine dv_iconst (v := (-1)) dJ6_numberOfTrailingZeros_0f7a4_1 (by decide) ?_
  refine dv_ixor dJ6_numberOfTrailingZeros_0f7a4_2 ?_
  refine dv_topi (fun x1 ex1 => ?_)
  obtain rfl : x1 = (-3) := ex1.trans (by decide)
  refine dv_iload_n dJ6_numberOfTrailingZeros_0f7a4_3 rfl 0 rfl ?_
  refine dv_iconst (v := 1) dJ6_numberOfTrailingZeros_0f7a4_4 (by decide) ?_
  refine dv_isub dJ6_numberOfTrailingZeros_0f7a4_5 ?_
  refine dv_topi (fun x2 ex2 => ?_)
  obtain rfl : x2 = 1 := ex2.trans (by decide)
  refine dv_iand dJ6_numberOfTrailingZeros_0f7a4_6 ?_
  refine dv_topi (fun x3 ex3 => ?_)
  obtain rfl : x3 = 1 := ex3.trans (by decide)
  refine dv_istore_n (lv' := [(0, .int 1)]) dJ6_numberOfTrailingZeros_0f7a4_7 rfl (by decide) rfl ?_
  refine dv_iload_n dJ6_numberOfTrailingZeros_0f7a4_8 rfl 0 rfl ?_
  refine dv_if_gt (tgt := 17) dJ6_numberOfTrailingZeros_0f7a4_9 (by decide) (fun c4 => ?_) (fun c4 => ?_)
  · skip
    refine dv_iconst (v := 1) dJ6_numberOfTrailingZeros_0f7a4_17 (by decide) ?_
    refine dv_istore_n (lv' := [(1, .int 1), (0, .int 1)]) dJ6_numberOfTrailingZeros_0f7a4_18 rfl (by decide) rfl ?_
    refine dv_iload_n dJ6_numberOfTrailingZeros_0f7a4_19 rfl 1 rfl ?_
    refine dv_ldcw mm_914 dJ6_numberOfTrailingZeros_0f7a4_20 ?_
    refine dv_icmp_le (tgt := 34) dJ6_numberOfTrailingZeros_0f7a4_23 (by decide) (fun c5 => ?_) (fun c5 => ?_)
    · skip
      refine dv_iload_n dJ6_numberOfTrailingZeros_0f7a4_34 rfl 1 rfl ?_
      refine dv_sipush (v := 256) dJ6_numberOfTrailingZeros_0f7a4_35 (by decide) ?_
      refine dv_icmp_le (tgt := 49) dJ6_numberOfTrailingZeros_0f7a4_38 (by decide) (fun c6 => ?_) (fun c6 => ?_)
      · skip
        refine dv_iload_n dJ6_numberOfTrailingZeros_0f7a4_49 rfl 1 rfl ?_
        refine dv_bipush (v := 16) dJ6_numberOfTrailingZeros_0f7a4_50 (by decide) ?_
        refine dv_icmp_le (tgt := 62) dJ6_numberOfTrailingZeros_0f7a4_52 (by decide) (fun c7 => ?_) (fun c7 => ?_)
        · skip
          refine dv_iload_n dJ6_numberOfTrailingZeros_0f7a4_62 rfl 1 rfl ?_
          refine dv_iconst (v := 4) dJ6_numberOfTrailingZeros_0f7a4_63 (by decide) ?_
          refine dv_icmp_le (tgt := 74) dJ6_numberOfTrailingZeros_0f7a4_64 (by decide) (fun c8 => ?_) (fun c8 => ?_)
          · skip
            refine dv_iload_n dJ6_numberOfTrailingZeros_0f7a4_74 rfl 0 rfl ?_
            refine dv_iload_n dJ6_numberOfTrailingZeros_0f7a4_75 rfl 1 rfl ?_
            refine dv_iconst (v := 1) dJ6_numberOfTrailingZeros_0f7a4_76 (by decide) ?_
            refine dv_iushr dJ6_numberOfTrailingZeros_0f7a4_77 rfl ?_
            refine dv_topi (fun x9 ex9 => ?_)
            obtain rfl : x9 = 0 := ex9.trans (by decide)
            refine dv_iadd dJ6_numberOfTrailingZeros_0f7a4_78 ?_
            refine dv_topi (fun x10 ex10 => ?_)
            obtain rfl : x10 = 1 := ex10.trans (by decide)
            have q11 : (1 : Int32).toInt = 1 := by decide
            exact dv_iret dJ6_numberOfTrailingZeros_0f7a4_79 rfl (by first | exact Nat.zero_le _ | decide) (by first | exact Nat.zero_le _ | decide) (by subst hK; exact ⟨1, rfl, (rfl), rfl⟩)
          · skip
            exact absurd c8 (by decide)
        · skip
          exact absurd c7 (by decide)
      · skip
        exact absurd c6 (by decide)
    · skip
      exact absurd c5 (by decide)
  · skip
    exact absurd c4 (by decide)

set_option maxHeartbeats 4000000 in
set_option maxRecDepth 100000 in
theorem k_ntz_2 (l : Launch) (g : zG) (pe : Int32) (ct : Nat → va_E) (hI : Inv8 g idn pe ct) : DM l g pNo false yJ6_numberOfTrailingZeros_0f7a4 cJ6_numberOfTrailingZeros_0f7a4 2 (some .int) ({ frames := 0, cells := 0, slots := 0, locals := 0 }) (fun (ct2 : Nat → va_E) (rr : Option Value) => ∃ (r : Int32), rr = some (.int r) ∧ ((r = 2)) ∧ ct = ct2) ct [.int 4] := by
  refine DM.K (fun K hK => ?_)
  refine GW.met (own := RJ6) (loc := [(0, .int 4)]) (by decide) rfl rfl (Nat.le_of_ble_eq_true rfl) ?_
  have hpe0 := hI.1
  refine dv_iload_n dJ6_numberOfTrailingZeros_0f7a4_0 rfl 0 rfl ?_
  refine dv_iconst (v := (-1)) dJ6_numberOfTrailingZeros_0f7a4_1 (by decide) ?_
  refine dv_ixor dJ6_numberOfTrailingZeros_0f7a4_2 ?_
  refine dv_topi (fun x1 ex1 => ?_)
  obtain rfl : x1 = (-5) := ex1.trans (by decide)
  refine dv_iload_n dJ6_numberOfTrailingZeros_0f7a4_3 rfl 0 rfl ?_
  refine dv_iconst (v := 1) dJ6_numberOfTrailingZeros_0f7a4_4 (by decide) ?_
  refine dv_isub dJ6_numberOfTrailingZeros_0f7a4_5 ?_
  refine dv_topi (fun x2 ex2 => ?_)
  obtain rfl : x2 = 3 := ex2.trans (by decide)
  refine dv_iand dJ6_numberOfTrailingZeros_0f7a4_6 ?_
  refine dv_topi (fun x3 ex3 => ?_)
  obtain rfl : x3 = 3 := ex3.trans (by decide)
  refine dv_istore_n (lv' := [(0, .int 3)]) dJ6_numberOfTrailingZeros_0f7a4_7 rfl (by decide) rfl ?_
  refine dv_iload_n dJ6_numberOfTrailingZeros_0f7a4_8 rfl 0 rfl ?_
  refine dv_if_gt (tgt := 17) dJ6_numberOfTrailingZeros_0f7a4_9 (by decide) (fun c4 => ?_) (fun c4 => ?_)
  · skip
    refine dv_iconst (v := 1) dJ6_numberOfTrailingZeros_0f7a4_17 (by decide) ?_
    refine dv_istore_n (lv' := [(1, .int 1), (0, .int 3)]) dJ6_numberOfTrailingZeros_0f7a4_18 rfl (by decide) rfl ?_
    refine dv_iload_n dJ6_numberOfTrailingZeros_0f7a4_19 rfl 1 rfl ?_
    refine dv_ldcw mm_914 dJ6_numberOfTrailingZeros_0f7a4_20 ?_
    refine dv_icmp_le (tgt := 34) dJ6_numberOfTrailingZeros_0f7a4_23 (by decide) (fun c5 => ?_) (fun c5 => ?_)
    · skip
      refine dv_iload_n dJ6_numberOfTrailingZeros_0f7a4_34 rfl 1 rfl ?_
      refine dv_sipush (v := 256) dJ6_numberOfTrailingZeros_0f7a4_35 (by decide) ?_
      refine dv_icmp_le (tgt := 49) dJ6_numberOfTrailingZeros_0f7a4_38 (by decide) (fun c6 => ?_) (fun c6 => ?_)
      · skip
        refine dv_iload_n dJ6_numberOfTrailingZeros_0f7a4_49 rfl 1 rfl ?_
        refine dv_bipush (v := 16) dJ6_numberOfTrailingZeros_0f7a4_50 (by decide) ?_
        refine dv_icmp_le (tgt := 62) dJ6_numberOfTrailingZeros_0f7a4_52 (by decide) (fun c7 => ?_) (fun c7 => ?_)
        · skip
          refine dv_iload_n dJ6_numberOfTrailingZeros_0f7a4_62 rfl 1 rfl ?_
          refine dv_iconst (v := 4) dJ6_numberOfTrailingZeros_0f7a4_63 (by decide) ?_
          refine dv_icmp_le (tgt := 74) dJ6_numberOfTrailingZeros_0f7a4_64 (by decide) (fun c8 => ?_) (fun c8 => ?_)
          · skip
            refine dv_iload_n dJ6_numberOfTrailingZeros_0f7a4_74 rfl 0 rfl ?_
            refine dv_iload_n dJ6_numberOfTrailingZeros_0f7a4_75 rfl 1 rfl ?_
            refine dv_iconst (v := 1) dJ6_numberOfTrailingZeros_0f7a4_76 (by decide) ?_
            refine dv_iushr dJ6_numberOfTrailingZeros_0f7a4_77 rfl ?_
            refine dv_topi (fun x9 ex9 => ?_)
            obtain rfl : x9 = 1 := ex9.trans (by decide)
            refine dv_iadd dJ6_numberOfTrailingZeros_0f7a4_78 ?_
            refine dv_topi (fun x10 ex10 => ?_)
            obtain rfl : x10 = 2 := ex10.trans (by decide)
            have q11 : (2 : Int32).toInt = 2 := by decide
            exact dv_iret dJ6_numberOfTrailingZeros_0f7a4_79 rfl (by first | exact Nat.zero_le _ | decide) (by first | exact Nat.zero_le _ | decide) (by subst hK; exact ⟨2, rfl, (rfl), rfl⟩)
          · skip
            exact absurd c8 (by decide)
        · skip
          exact absurd c7 (by decide)
      · skip
        exact absurd c6 (by decide)
    · skip
      exact absurd c5 (by decide)
  · skip
    exact absurd c4 (by decide)

set_option maxHeartbeats 4000000 in
set_option maxRecDepth 100000 in
theorem k_ntz_3 (l : Launch) (g : zG) (pe : Int32) (ct : Nat → va_E) (hI : Inv8 g idn pe ct) : DM l g pNo false yJ6_numberOfTrailingZeros_0f7a4 cJ6_numberOfTrailingZeros_0f7a4 2 (some .int) ({ frames := 0, cells := 0, slots := 0, locals := 0 }) (fun (ct2 : Nat → va_E) (rr : Option Value) => ∃ (r : Int32), rr = some (.int r) ∧ ((r = 3)) ∧ ct = ct2) ct [.int 8] := by
  refine DM.K (fun K hK => ?_)
  refine GW.met (own := RJ6) (loc := [(0, .int 8)]) (by decide) rfl rfl (Nat.le_of_ble_eq_true rfl) ?_
  have hpe0 := hI.1
  refine dv_iload_n dJ6_numberOfTrailingZeros_0f7a4_0 rfl 0 rfl ?_
  refine dv_iconst (v := (-1)) dJ6_numberOfTrailingZeros_0f7a4_1 (by decide) ?_
  refine dv_ixor dJ6_numberOfTrailingZeros_0f7a4_2 ?_
  refine dv_topi (fun x1 ex1 => ?_)
  obtain rfl : x1 = (-9) := ex1.trans (by decide)
  refine dv_iload_n dJ6_numberOfTrailingZeros_0f7a4_3 rfl 0 rfl ?_
  refine dv_iconst (v := 1) dJ6_numberOfTrailingZeros_0f7a4_4 (by decide) ?_
  refine dv_isub dJ6_numberOfTrailingZeros_0f7a4_5 ?_
  refine dv_topi (fun x2 ex2 => ?_)
  obtain rfl : x2 = 7 := ex2.trans (by decide)
  refine dv_iand dJ6_numberOfTrailingZeros_0f7a4_6 ?_
  refine dv_topi (fun x3 ex3 => ?_)
  obtain rfl : x3 = 7 := ex3.trans (by decide)
  refine dv_istore_n (lv' := [(0, .int 7)]) dJ6_numberOfTrailingZeros_0f7a4_7 rfl (by decide) rfl ?_
  refine dv_iload_n dJ6_numberOfTrailingZeros_0f7a4_8 rfl 0 rfl ?_
  refine dv_if_gt (tgt := 17) dJ6_numberOfTrailingZeros_0f7a4_9 (by decide) (fun c4 => ?_) (fun c4 => ?_)
  · skip
    refine dv_iconst (v := 1) dJ6_numberOfTrailingZeros_0f7a4_17 (by decide) ?_
    refine dv_istore_n (lv' := [(1, .int 1), (0, .int 7)]) dJ6_numberOfTrailingZeros_0f7a4_18 rfl (by decide) rfl ?_
    refine dv_iload_n dJ6_numberOfTrailingZeros_0f7a4_19 rfl 1 rfl ?_
    refine dv_ldcw mm_914 dJ6_numberOfTrailingZeros_0f7a4_20 ?_
    refine dv_icmp_le (tgt := 34) dJ6_numberOfTrailingZeros_0f7a4_23 (by decide) (fun c5 => ?_) (fun c5 => ?_)
    · skip
      refine dv_iload_n dJ6_numberOfTrailingZeros_0f7a4_34 rfl 1 rfl ?_
      refine dv_sipush (v := 256) dJ6_numberOfTrailingZeros_0f7a4_35 (by decide) ?_
      refine dv_icmp_le (tgt := 49) dJ6_numberOfTrailingZeros_0f7a4_38 (by decide) (fun c6 => ?_) (fun c6 => ?_)
      · skip
        refine dv_iload_n dJ6_numberOfTrailingZeros_0f7a4_49 rfl 1 rfl ?_
        refine dv_bipush (v := 16) dJ6_numberOfTrailingZeros_0f7a4_50 (by decide) ?_
        refine dv_icmp_le (tgt := 62) dJ6_numberOfTrailingZeros_0f7a4_52 (by decide) (fun c7 => ?_) (fun c7 => ?_)
        · skip
          refine dv_iload_n dJ6_numberOfTrailingZeros_0f7a4_62 rfl 1 rfl ?_
          refine dv_iconst (v := 4) dJ6_numberOfTrailingZeros_0f7a4_63 (by decide) ?_
          refine dv_icmp_le (tgt := 74) dJ6_numberOfTrailingZeros_0f7a4_64 (by decide) (fun c8 => ?_) (fun c8 => ?_)
          · skip
            exact absurd c8 (by decide)
          · skip
            refine dv_iinc (v := 3) (lv' := [(1, .int 3), (0, .int 7)]) dJ6_numberOfTrailingZeros_0f7a4_67 (k := 0) rfl (by decide) (by decide) rfl ?_
            refine dv_iload_n dJ6_numberOfTrailingZeros_0f7a4_70 rfl 1 rfl ?_
            refine dv_iconst (v := 2) dJ6_numberOfTrailingZeros_0f7a4_71 (by decide) ?_
            refine dv_iushr dJ6_numberOfTrailingZeros_0f7a4_72 rfl ?_
            refine dv_topi (fun x9 ex9 => ?_)
            obtain rfl : x9 = 1 := ex9.trans (by decide)
            refine dv_istore_n (lv' := [(0, .int 1), (1, .int 3)]) dJ6_numberOfTrailingZeros_0f7a4_73 rfl (by decide) rfl ?_
            refine dv_iload_n dJ6_numberOfTrailingZeros_0f7a4_74 rfl 1 rfl ?_
            refine dv_iload_n dJ6_numberOfTrailingZeros_0f7a4_75 rfl 0 rfl ?_
            refine dv_iconst (v := 1) dJ6_numberOfTrailingZeros_0f7a4_76 (by decide) ?_
            refine dv_iushr dJ6_numberOfTrailingZeros_0f7a4_77 rfl ?_
            refine dv_topi (fun x10 ex10 => ?_)
            obtain rfl : x10 = 0 := ex10.trans (by decide)
            refine dv_iadd dJ6_numberOfTrailingZeros_0f7a4_78 ?_
            refine dv_topi (fun x11 ex11 => ?_)
            obtain rfl : x11 = 3 := ex11.trans (by decide)
            have q12 : (3 : Int32).toInt = 3 := by decide
            exact dv_iret dJ6_numberOfTrailingZeros_0f7a4_79 rfl (by first | exact Nat.zero_le _ | decide) (by first | exact Nat.zero_le _ | decide) (by subst hK; exact ⟨3, rfl, (rfl), rfl⟩)
        · skip
          exact absurd c7 (by decide)
      · skip
        exact absurd c6 (by decide)
    · skip
      exact absurd c5 (by decide)
  · skip
    exact absurd c4 (by decide)

set_option maxHeartbeats 4000000 in
set_option maxRecDepth 100000 in
theorem k_ntz_4 (l : Launch) (g : zG) (pe : Int32) (ct : Nat → va_E) (hI : Inv8 g idn pe ct) : DM l g pNo false yJ6_numberOfTrailingZeros_0f7a4 cJ6_numberOfTrailingZeros_0f7a4 2 (some .int) ({ frames := 0, cells := 0, slots := 0, locals := 0 }) (fun (ct2 : Nat → va_E) (rr : Option Value) => ∃ (r : Int32), rr = some (.int r) ∧ ((r = 4)) ∧ ct = ct2) ct [.int 16] := by
  refine DM.K (fun K hK => ?_)
  refine GW.met (own := RJ6) (loc := [(0, .int 16)]) (by decide) rfl rfl (Nat.le_of_ble_eq_true rfl) ?_
  have hpe0 := hI.1
  refine dv_iload_n dJ6_numberOfTrailingZeros_0f7a4_0 rfl 0 rfl ?_
  refine dv_iconst (v := (-1)) dJ6_numberOfTrailingZeros_0f7a4_1 (by decide) ?_
  refine dv_ixor dJ6_numberOfTrailingZeros_0f7a4_2 ?_
  refine dv_topi (fun x1 ex1 => ?_)
  obtain rfl : x1 = (-17) := ex1.trans (by decide)
  refine dv_iload_n dJ6_numberOfTrailingZeros_0f7a4_3 rfl 0 rfl ?_
  refine dv_iconst (v := 1) dJ6_numberOfTrailingZeros_0f7a4_4 (by decide) ?_
  refine dv_isub dJ6_numberOfTrailingZeros_0f7a4_5 ?_
  refine dv_topi (fun x2 ex2 => ?_)
  obtain rfl : x2 = 15 := ex2.trans (by decide)
  refine dv_iand dJ6_numberOfTrailingZeros_0f7a4_6 ?_
  refine dv_topi (fun x3 ex3 => ?_)
  obtain rfl : x3 = 15 := ex3.trans (by decide)
  refine dv_istore_n (lv' := [(0, .int 15)]) dJ6_numberOfTrailingZeros_0f7a4_7 rfl (by decide) rfl ?_
  refine dv_iload_n dJ6_numberOfTrailingZeros_0f7a4_8 rfl 0 rfl ?_
  refine dv_if_gt (tgt := 17) dJ6_numberOfTrailingZeros_0f7a4_9 (by decide) (fun c4 => ?_) (fun c4 => ?_)
  · skip
    refine dv_iconst (v := 1) dJ6_numberOfTrailingZeros_0f7a4_17 (by decide) ?_
    refine dv_istore_n (lv' := [(1, .int 1), (0, .int 15)]) dJ6_numberOfTrailingZeros_0f7a4_18 rfl (by decide) rfl ?_
    refine dv_iload_n dJ6_numberOfTrailingZeros_0f7a4_19 rfl 1 rfl ?_
    refine dv_ldcw mm_914 dJ6_numberOfTrailingZeros_0f7a4_20 ?_
    refine dv_icmp_le (tgt := 34) dJ6_numberOfTrailingZeros_0f7a4_23 (by decide) (fun c5 => ?_) (fun c5 => ?_)
    · skip
      refine dv_iload_n dJ6_numberOfTrailingZeros_0f7a4_34 rfl 1 rfl ?_
      refine dv_sipush (v := 256) dJ6_numberOfTrailingZeros_0f7a4_35 (by decide) ?_
      refine dv_icmp_le (tgt := 49) dJ6_numberOfTrailingZeros_0f7a4_38 (by decide) (fun c6 => ?_) (fun c6 => ?_)
      · skip
        refine dv_iload_n dJ6_numberOfTrailingZeros_0f7a4_49 rfl 1 rfl ?_
        refine dv_bipush (v := 16) dJ6_numberOfTrailingZeros_0f7a4_50 (by decide) ?_
        refine dv_icmp_le (tgt := 62) dJ6_numberOfTrailingZeros_0f7a4_52 (by decide) (fun c7 => ?_) (fun c7 => ?_)
        · skip
          refine dv_iload_n dJ6_numberOfTrailingZeros_0f7a4_62 rfl 1 rfl ?_
          refine dv_iconst (v := 4) dJ6_numberOfTrailingZeros_0f7a4_63 (by decide) ?_
          refine dv_icmp_le (tgt := 74) dJ6_numberOfTrailingZeros_0f7a4_64 (by decide) (fun c8 => ?_) (fun c8 => ?_)
          · skip
            exact absurd c8 (by decide)
          · skip
            refine dv_iinc (v := 3) (lv' := [(1, .int 3), (0, .int 15)]) dJ6_numberOfTrailingZeros_0f7a4_67 (k := 0) rfl (by decide) (by decide) rfl ?_
            refine dv_iload_n dJ6_numberOfTrailingZeros_0f7a4_70 rfl 1 rfl ?_
            refine dv_iconst (v := 2) dJ6_numberOfTrailingZeros_0f7a4_71 (by decide) ?_
            refine dv_iushr dJ6_numberOfTrailingZeros_0f7a4_72 rfl ?_
            refine dv_topi (fun x9 ex9 => ?_)
            obtain rfl : x9 = 3 := ex9.trans (by decide)
            refine dv_istore_n (lv' := [(0, .int 3), (1, .int 3)]) dJ6_numberOfTrailingZeros_0f7a4_73 rfl (by decide) rfl ?_
            refine dv_iload_n dJ6_numberOfTrailingZeros_0f7a4_74 rfl 1 rfl ?_
            refine dv_iload_n dJ6_numberOfTrailingZeros_0f7a4_75 rfl 0 rfl ?_
            refine dv_iconst (v := 1) dJ6_numberOfTrailingZeros_0f7a4_76 (by decide) ?_
            refine dv_iushr dJ6_numberOfTrailingZeros_0f7a4_77 rfl ?_
            refine dv_topi (fun x10 ex10 => ?_)
            obtain rfl : x10 = 1 := ex10.trans (by decide)
            refine dv_iadd dJ6_numberOfTrailingZeros_0f7a4_78 ?_
            refine dv_topi (fun x11 ex11 => ?_)
            obtain rfl : x11 = 4 := ex11.trans (by decide)
            have q12 : (4 : Int32).toInt = 4 := by decide
            exact dv_iret dJ6_numberOfTrailingZeros_0f7a4_79 rfl (by first | exact Nat.zero_le _ | decide) (by first | exact Nat.zero_le _ | decide) (by subst hK; exact ⟨4, rfl, (rfl), rfl⟩)
        · skip
          exact absurd c7 (by decide)
      · skip
        exact absurd c6 (by decide)
    · skip
      exact absurd c5 (by decide)
  · skip
    exact absurd c4 (by decide)

set_option maxHeartbeats 4000000 in
set_option maxRecDepth 100000 in
theorem k_ntz_5 (l : Launch) (g : zG) (pe : Int32) (ct : Nat → va_E) (hI : Inv8 g idn pe ct) : DM l g pNo false yJ6_numberOfTrailingZeros_0f7a4 cJ6_numberOfTrailingZeros_0f7a4 2 (some .int) ({ frames := 0, cells := 0, slots := 0, locals := 0 }) (fun (ct2 : Nat → va_E) (rr : Option Value) => ∃ (r : Int32), rr = some (.int r) ∧ ((r = 5)) ∧ ct = ct2) ct [.int 32] := by
  refine DM.K (fun K hK => ?_)
  refine GW.met (own := RJ6) (loc := [(0, .int 32)]) (by decide) rfl rfl (Nat.le_of_ble_eq_true rfl) ?_
  have hpe0 := hI.1
  refine dv_iload_n dJ6_numberOfTrailingZeros_0f7a4_0 rfl 0 rfl ?_
  refine dv_iconst (v := (-1)) dJ6_numberOfTrailingZeros_0f7a4_1 (by decide) ?_
  refine dv_ixor dJ6_numberOfTrailingZeros_0f7a4_2 ?_
  refine dv_topi (fun x1 ex1 => ?_)
  obtain rfl : x1 = (-33) := ex1.trans (by decide)
  refine dv_iload_n dJ6_numberOfTrailingZeros_0f7a4_3 rfl 0 rfl ?_
  refine dv_iconst (v := 1) dJ6_numberOfTrailingZeros_0f7a4_4 (by decide) ?_
  refine dv_isub dJ6_numberOfTrailingZeros_0f7a4_5 ?_
  refine dv_topi (fun x2 ex2 => ?_)
  obtain rfl : x2 = 31 := ex2.trans (by decide)
  refine dv_iand dJ6_numberOfTrailingZeros_0f7a4_6 ?_
  refine dv_topi (fun x3 ex3 => ?_)
  obtain rfl : x3 = 31 := ex3.trans (by decide)
  refine dv_istore_n (lv' := [(0, .int 31)]) dJ6_numberOfTrailingZeros_0f7a4_7 rfl (by decide) rfl ?_
  refine dv_iload_n dJ6_numberOfTrailingZeros_0f7a4_8 rfl 0 rfl ?_
  refine dv_if_gt (tgt := 17) dJ6_numberOfTrailingZeros_0f7a4_9 (by decide) (fun c4 => ?_) (fun c4 => ?_)
  · skip
    refine dv_iconst (v := 1) dJ6_numberOfTrailingZeros_0f7a4_17 (by decide) ?_
    refine dv_istore_n (lv' := [(1, .int 1), (0, .int 31)]) dJ6_numberOfTrailingZeros_0f7a4_18 rfl (by decide) rfl ?_
    refine dv_iload_n dJ6_numberOfTrailingZeros_0f7a4_19 rfl 1 rfl ?_
    refine dv_ldcw mm_914 dJ6_numberOfTrailingZeros_0f7a4_20 ?_
    refine dv_icmp_le (tgt := 34) dJ6_numberOfTrailingZeros_0f7a4_23 (by decide) (fun c5 => ?_) (fun c5 => ?_)
    · skip
      refine dv_iload_n dJ6_numberOfTrailingZeros_0f7a4_34 rfl 1 rfl ?_
      refine dv_sipush (v := 256) dJ6_numberOfTrailingZeros_0f7a4_35 (by decide) ?_
      refine dv_icmp_le (tgt := 49) dJ6_numberOfTrailingZeros_0f7a4_38 (by decide) (fun c6 => ?_) (fun c6 => ?_)
      · skip
        refine dv_iload_n dJ6_numberOfTrailingZeros_0f7a4_49 rfl 1 rfl ?_
        refine dv_bipush (v := 16) dJ6_numberOfTrailingZeros_0f7a4_50 (by decide) ?_
        refine dv_icmp_le (tgt := 62) dJ6_numberOfTrailingZeros_0f7a4_52 (by decide) (fun c7 => ?_) (fun c7 => ?_)
        · skip
          exact absurd c7 (by decide)
        · skip
          refine dv_iinc (v := 5) (lv' := [(1, .int 5), (0, .int 31)]) dJ6_numberOfTrailingZeros_0f7a4_55 (k := 0) rfl (by decide) (by decide) rfl ?_
          refine dv_iload_n dJ6_numberOfTrailingZeros_0f7a4_58 rfl 1 rfl ?_
          refine dv_iconst (v := 4) dJ6_numberOfTrailingZeros_0f7a4_59 (by decide) ?_
          refine dv_iushr dJ6_numberOfTrailingZeros_0f7a4_60 rfl ?_
          refine dv_topi (fun x8 ex8 => ?_)
          obtain rfl : x8 = 1 := ex8.trans (by decide)
          refine dv_istore_n (lv' := [(0, .int 1), (1, .int 5)]) dJ6_numberOfTrailingZeros_0f7a4_61 rfl (by decide) rfl ?_
          refine dv_iload_n dJ6_numberOfTrailingZeros_0f7a4_62 rfl 0 rfl ?_
          refine dv_iconst (v := 4) dJ6_numberOfTrailingZeros_0f7a4_63 (by decide) ?_
          refine dv_icmp_le (tgt := 74) dJ6_numberOfTrailingZeros_0f7a4_64 (by decide) (fun c9 => ?_) (fun c9 => ?_)
          · skip
            refine dv_iload_n dJ6_numberOfTrailingZeros_0f7a4_74 rfl 1 rfl ?_
            refine dv_iload_n dJ6_numberOfTrailingZeros_0f7a4_75 rfl 0 rfl ?_
            refine dv_iconst (v := 1) dJ6_numberOfTrailingZeros_0f7a4_76 (by decide) ?_
            refine dv_iushr dJ6_numberOfTrailingZeros_0f7a4_77 rfl ?_
            refine dv_topi (fun x10 ex10 => ?_)
            obtain rfl : x10 = 0 := ex10.trans (by decide)
            refine dv_iadd dJ6_numberOfTrailingZeros_0f7a4_78 ?_
            refine dv_topi (fun x11 ex11 => ?_)
            obtain rfl : x11 = 5 := ex11.trans (by decide)
            have q12 : (5 : Int32).toInt = 5 := by decide
            exact dv_iret dJ6_numberOfTrailingZeros_0f7a4_79 rfl (by first | exact Nat.zero_le _ | decide) (by first | exact Nat.zero_le _ | decide) (by subst hK; exact ⟨5, rfl, (rfl), rfl⟩)
          · skip
            exact absurd c9 (by decide)
      · skip
        exact absurd c6 (by decide)
    · skip
      exact absurd c5 (by decide)
  · skip
    exact absurd c4 (by decide)

set_option maxHeartbeats 4000000 in
set_option maxRecDepth 100000 in
theorem k_ntz_6 (l : Launch) (g : zG) (pe : Int32) (ct : Nat → va_E) (hI : Inv8 g idn pe ct) : DM l g pNo false yJ6_numberOfTrailingZeros_0f7a4 cJ6_numberOfTrailingZeros_0f7a4 2 (some .int) ({ frames := 0, cells := 0, slots := 0, locals := 0 }) (fun (ct2 : Nat → va_E) (rr : Option Value) => ∃ (r : Int32), rr = some (.int r) ∧ ((r = 6)) ∧ ct = ct2) ct [.int 64] := by
  refine DM.K (fun K hK => ?_)
  refine GW.met (own := RJ6) (loc := [(0, .int 64)]) (by decide) rfl rfl (Nat.le_of_ble_eq_true rfl) ?_
  have hpe0 := hI.1
  refine dv_iload_n dJ6_numberOfTrailingZeros_0f7a4_0 rfl 0 rfl ?_
  refine dv_iconst (v := (-1)) dJ6_numberOfTrailingZeros_0f7a4_1 (by decide) ?_
  refine dv_ixor dJ6_numberOfTrailingZeros_0f7a4_2 ?_
  refine dv_topi (fun x1 ex1 => ?_)
  obtain rfl : x1 = (-65) := ex1.trans (by decide)
  refine dv_iload_n dJ6_numberOfTrailingZeros_0f7a4_3 rfl 0 rfl ?_
  refine dv_iconst (v := 1) dJ6_numberOfTrailingZeros_0f7a4_4 (by decide) ?_
  refine dv_isub dJ6_numberOfTrailingZeros_0f7a4_5 ?_
  refine dv_topi (fun x2 ex2 => ?_)
  obtain rfl : x2 = 63 := ex2.trans (by decide)
  refine dv_iand dJ6_numberOfTrailingZeros_0f7a4_6 ?_
  refine dv_topi (fun x3 ex3 => ?_)
  obtain rfl : x3 = 63 := ex3.trans (by decide)
  refine dv_istore_n (lv' := [(0, .int 63)]) dJ6_numberOfTrailingZeros_0f7a4_7 rfl (by decide) rfl ?_
  refine dv_iload_n dJ6_numberOfTrailingZeros_0f7a4_8 rfl 0 rfl ?_
  refine dv_if_gt (tgt := 17) dJ6_numberOfTrailingZeros_0f7a4_9 (by decide) (fun c4 => ?_) (fun c4 => ?_)
  · skip
    refine dv_iconst (v := 1) dJ6_numberOfTrailingZeros_0f7a4_17 (by decide) ?_
    refine dv_istore_n (lv' := [(1, .int 1), (0, .int 63)]) dJ6_numberOfTrailingZeros_0f7a4_18 rfl (by decide) rfl ?_
    refine dv_iload_n dJ6_numberOfTrailingZeros_0f7a4_19 rfl 1 rfl ?_
    refine dv_ldcw mm_914 dJ6_numberOfTrailingZeros_0f7a4_20 ?_
    refine dv_icmp_le (tgt := 34) dJ6_numberOfTrailingZeros_0f7a4_23 (by decide) (fun c5 => ?_) (fun c5 => ?_)
    · skip
      refine dv_iload_n dJ6_numberOfTrailingZeros_0f7a4_34 rfl 1 rfl ?_
      refine dv_sipush (v := 256) dJ6_numberOfTrailingZeros_0f7a4_35 (by decide) ?_
      refine dv_icmp_le (tgt := 49) dJ6_numberOfTrailingZeros_0f7a4_38 (by decide) (fun c6 => ?_) (fun c6 => ?_)
      · skip
        refine dv_iload_n dJ6_numberOfTrailingZeros_0f7a4_49 rfl 1 rfl ?_
        refine dv_bipush (v := 16) dJ6_numberOfTrailingZeros_0f7a4_50 (by decide) ?_
        refine dv_icmp_le (tgt := 62) dJ6_numberOfTrailingZeros_0f7a4_52 (by decide) (fun c7 => ?_) (fun c7 => ?_)
        · skip
          exact absurd c7 (by decide)
        · skip
          refine dv_iinc (v := 5) (lv' := [(1, .int 5), (0, .int 63)]) dJ6_numberOfTrailingZeros_0f7a4_55 (k := 0) rfl (by decide) (by decide) rfl ?_
          refine dv_iload_n dJ6_numberOfTrailingZeros_0f7a4_58 rfl 1 rfl ?_
          refine dv_iconst (v := 4) dJ6_numberOfTrailingZeros_0f7a4_59 (by decide) ?_
          refine dv_iushr dJ6_numberOfTrailingZeros_0f7a4_60 rfl ?_
          refine dv_topi (fun x8 ex8 => ?_)
          obtain rfl : x8 = 3 := ex8.trans (by decide)
          refine dv_istore_n (lv' := [(0, .int 3), (1, .int 5)]) dJ6_numberOfTrailingZeros_0f7a4_61 rfl (by decide) rfl ?_
          refine dv_iload_n dJ6_numberOfTrailingZeros_0f7a4_62 rfl 0 rfl ?_
          refine dv_iconst (v := 4) dJ6_numberOfTrailingZeros_0f7a4_63 (by decide) ?_
          refine dv_icmp_le (tgt := 74) dJ6_numberOfTrailingZeros_0f7a4_64 (by decide) (fun c9 => ?_) (fun c9 => ?_)
          · skip
            refine dv_iload_n dJ6_numberOfTrailingZeros_0f7a4_74 rfl 1 rfl ?_
            refine dv_iload_n dJ6_numberOfTrailingZeros_0f7a4_75 rfl 0 rfl ?_
            refine dv_iconst (v := 1) dJ6_numberOfTrailingZeros_0f7a4_76 (by decide) ?_
            refine dv_iushr dJ6_numberOfTrailingZeros_0f7a4_77 rfl ?_
            refine dv_topi (fun x10 ex10 => ?_)
            obtain rfl : x10 = 1 := ex10.trans (by decide)
            refine dv_iadd dJ6_numberOfTrailingZeros_0f7a4_78 ?_
            refine dv_topi (fun x11 ex11 => ?_)
            obtain rfl : x11 = 6 := ex11.trans (by decide)
            have q12 : (6 : Int32).toInt = 6 := by decide
            exact dv_iret dJ6_numberOfTrailingZeros_0f7a4_79 rfl (by first | exact Nat.zero_le _ | decide) (by first | exact Nat.zero_le _ | decide) (by subst hK; exact ⟨6, rfl, (rfl), rfl⟩)
          · skip
            exact absurd c9 (by decide)
      · skip
        exact absurd c6 (by decide)
    · skip
      exact absurd c5 (by decide)
  · skip
    exact absurd c4 (by decide)

set_option maxHeartbeats 4000000 in
set_option maxRecDepth 100000 in
theorem k_ntz_7 (l : Launch) (g : zG) (pe : Int32) (ct : Nat → va_E) (hI : Inv8 g idn pe ct) : DM l g pNo false yJ6_numberOfTrailingZeros_0f7a4 cJ6_numberOfTrailingZeros_0f7a4 2 (some .int) ({ frames := 0, cells := 0, slots := 0, locals := 0 }) (fun (ct2 : Nat → va_E) (rr : Option Value) => ∃ (r : Int32), rr = some (.int r) ∧ ((r = 7)) ∧ ct = ct2) ct [.int 128] := by
  refine DM.K (fun K hK => ?_)
  refine GW.met (own := RJ6) (loc := [(0, .int 128)]) (by decide) rfl rfl (Nat.le_of_ble_eq_true rfl) ?_
  have hpe0 := hI.1
  refine dv_iload_n dJ6_numberOfTrailingZeros_0f7a4_0 rfl 0 rfl ?_
  refine dv_iconst (v := (-1)) dJ6_numberOfTrailingZeros_0f7a4_1 (by decide) ?_
  refine dv_ixor dJ6_numberOfTrailingZeros_0f7a4_2 ?_
  refine dv_topi (fun x1 ex1 => ?_)
  obtain rfl : x1 = (-129) := ex1.trans (by decide)
  refine dv_iload_n dJ6_numberOfTrailingZeros_0f7a4_3 rfl 0 rfl ?_
  refine dv_iconst (v := 1) dJ6_numberOfTrailingZeros_0f7a4_4 (by decide) ?_
  refine dv_isub dJ6_numberOfTrailingZeros_0f7a4_5 ?_
  refine dv_topi (fun x2 ex2 => ?_)
  obtain rfl : x2 = 127 := ex2.trans (by decide)
  refine dv_iand dJ6_numberOfTrailingZeros_0f7a4_6 ?_
  refine dv_topi (fun x3 ex3 => ?_)
  obtain rfl : x3 = 127 := ex3.trans (by decide)
  refine dv_istore_n (lv' := [(0, .int 127)]) dJ6_numberOfTrailingZeros_0f7a4_7 rfl (by decide) rfl ?_
  refine dv_iload_n dJ6_numberOfTrailingZeros_0f7a4_8 rfl 0 rfl ?_
  refine dv_if_gt (tgt := 17) dJ6_numberOfTrailingZeros_0f7a4_9 (by decide) (fun c4 => ?_) (fun c4 => ?_)
  · skip
    refine dv_iconst (v := 1) dJ6_numberOfTrailingZeros_0f7a4_17 (by decide) ?_
    refine dv_istore_n (lv' := [(1, .int 1), (0, .int 127)]) dJ6_numberOfTrailingZeros_0f7a4_18 rfl (by decide) rfl ?_
    refine dv_iload_n dJ6_numberOfTrailingZeros_0f7a4_19 rfl 1 rfl ?_
    refine dv_ldcw mm_914 dJ6_numberOfTrailingZeros_0f7a4_20 ?_
    refine dv_icmp_le (tgt := 34) dJ6_numberOfTrailingZeros_0f7a4_23 (by decide) (fun c5 => ?_) (fun c5 => ?_)
    · skip
      refine dv_iload_n dJ6_numberOfTrailingZeros_0f7a4_34 rfl 1 rfl ?_
      refine dv_sipush (v := 256) dJ6_numberOfTrailingZeros_0f7a4_35 (by decide) ?_
      refine dv_icmp_le (tgt := 49) dJ6_numberOfTrailingZeros_0f7a4_38 (by decide) (fun c6 => ?_) (fun c6 => ?_)
      · skip
        refine dv_iload_n dJ6_numberOfTrailingZeros_0f7a4_49 rfl 1 rfl ?_
        refine dv_bipush (v := 16) dJ6_numberOfTrailingZeros_0f7a4_50 (by decide) ?_
        refine dv_icmp_le (tgt := 62) dJ6_numberOfTrailingZeros_0f7a4_52 (by decide) (fun c7 => ?_) (fun c7 => ?_)
        · skip
          exact absurd c7 (by decide)
        · skip
          refine dv_iinc (v := 5) (lv' := [(1, .int 5), (0, .int 127)]) dJ6_numberOfTrailingZeros_0f7a4_55 (k := 0) rfl (by decide) (by decide) rfl ?_
          refine dv_iload_n dJ6_numberOfTrailingZeros_0f7a4_58 rfl 1 rfl ?_
          refine dv_iconst (v := 4) dJ6_numberOfTrailingZeros_0f7a4_59 (by decide) ?_
          refine dv_iushr dJ6_numberOfTrailingZeros_0f7a4_60 rfl ?_
          refine dv_topi (fun x8 ex8 => ?_)
          obtain rfl : x8 = 7 := ex8.trans (by decide)
          refine dv_istore_n (lv' := [(0, .int 7), (1, .int 5)]) dJ6_numberOfTrailingZeros_0f7a4_61 rfl (by decide) rfl ?_
          refine dv_iload_n dJ6_numberOfTrailingZeros_0f7a4_62 rfl 0 rfl ?_
          refine dv_iconst (v := 4) dJ6_numberOfTrailingZeros_0f7a4_63 (by decide) ?_
          refine dv_icmp_le (tgt := 74) dJ6_numberOfTrailingZeros_0f7a4_64 (by decide) (fun c9 => ?_) (fun c9 => ?_)
          · skip
            exact absurd c9 (by decide)
          · skip
            refine dv_iinc (v := 7) (lv' := [(1, .int 7), (0, .int 7)]) dJ6_numberOfTrailingZeros_0f7a4_67 (k := 1) rfl (by decide) (by decide) rfl ?_
            refine dv_iload_n dJ6_numberOfTrailingZeros_0f7a4_70 rfl 1 rfl ?_
            refine dv_iconst (v := 2) dJ6_numberOfTrailingZeros_0f7a4_71 (by decide) ?_
            refine dv_iushr dJ6_numberOfTrailingZeros_0f7a4_72 rfl ?_
            refine dv_topi (fun x10 ex10 => ?_)
            obtain rfl : x10 = 1 := ex10.trans (by decide)
            refine dv_istore_n (lv' := [(0, .int 1), (1, .int 7)]) dJ6_numberOfTrailingZeros_0f7a4_73 rfl (by decide) rfl ?_
            refine dv_iload_n dJ6_numberOfTrailingZeros_0f7a4_74 rfl 1 rfl ?_
            refine dv_iload_n dJ6_numberOfTrailingZeros_0f7a4_75 rfl 0 rfl ?_
            refine dv_iconst (v := 1) dJ6_numberOfTrailingZeros_0f7a4_76 (by decide) ?_
            refine dv_iushr dJ6_numberOfTrailingZeros_0f7a4_77 rfl ?_
            refine dv_topi (fun x11 ex11 => ?_)
            obtain rfl : x11 = 0 := ex11.trans (by decide)
            refine dv_iadd dJ6_numberOfTrailingZeros_0f7a4_78 ?_
            refine dv_topi (fun x12 ex12 => ?_)
            obtain rfl : x12 = 7 := ex12.trans (by decide)
            have q13 : (7 : Int32).toInt = 7 := by decide
            exact dv_iret dJ6_numberOfTrailingZeros_0f7a4_79 rfl (by first | exact Nat.zero_le _ | decide) (by first | exact Nat.zero_le _ | decide) (by subst hK; exact ⟨7, rfl, (rfl), rfl⟩)
      · skip
        exact absurd c6 (by decide)
    · skip
      exact absurd c5 (by decide)
  · skip
    exact absurd c4 (by decide)

set_option maxHeartbeats 4000000 in
set_option maxRecDepth 100000 in
theorem k_ntz_8 (l : Launch) (g : zG) (pe : Int32) (ct : Nat → va_E) (hI : Inv8 g idn pe ct) : DM l g pNo false yJ6_numberOfTrailingZeros_0f7a4 cJ6_numberOfTrailingZeros_0f7a4 2 (some .int) ({ frames := 0, cells := 0, slots := 0, locals := 0 }) (fun (ct2 : Nat → va_E) (rr : Option Value) => ∃ (r : Int32), rr = some (.int r) ∧ ((r = 8)) ∧ ct = ct2) ct [.int 256] := by
  refine DM.K (fun K hK => ?_)
  refine GW.met (own := RJ6) (loc := [(0, .int 256)]) (by decide) rfl rfl (Nat.le_of_ble_eq_true rfl) ?_
  have hpe0 := hI.1
  refine dv_iload_n dJ6_numberOfTrailingZeros_0f7a4_0 rfl 0 rfl ?_
  refine dv_iconst (v := (-1)) dJ6_numberOfTrailingZeros_0f7a4_1 (by decide) ?_
  refine dv_ixor dJ6_numberOfTrailingZeros_0f7a4_2 ?_
  refine dv_topi (fun x1 ex1 => ?_)
  obtain rfl : x1 = (-257) := ex1.trans (by decide)
  refine dv_iload_n dJ6_numberOfTrailingZeros_0f7a4_3 rfl 0 rfl ?_
  refine dv_iconst (v := 1) dJ6_numberOfTrailingZeros_0f7a4_4 (by decide) ?_
  refine dv_isub dJ6_numberOfTrailingZeros_0f7a4_5 ?_
  refine dv_topi (fun x2 ex2 => ?_)
  obtain rfl : x2 = 255 := ex2.trans (by decide)
  refine dv_iand dJ6_numberOfTrailingZeros_0f7a4_6 ?_
  refine dv_topi (fun x3 ex3 => ?_)
  obtain rfl : x3 = 255 := ex3.trans (by decide)
  refine dv_istore_n (lv' := [(0, .int 255)]) dJ6_numberOfTrailingZeros_0f7a4_7 rfl (by decide) rfl ?_
  refine dv_iload_n dJ6_numberOfTrailingZeros_0f7a4_8 rfl 0 rfl ?_
  refine dv_if_gt (tgt := 17) dJ6_numberOfTrailingZeros_0f7a4_9 (by decide) (fun c4 => ?_) (fun c4 => ?_)
  · skip
    refine dv_iconst (v := 1) dJ6_numberOfTrailingZeros_0f7a4_17 (by decide) ?_
    refine dv_istore_n (lv' := [(1, .int 1), (0, .int 255)]) dJ6_numberOfTrailingZeros_0f7a4_18 rfl (by decide) rfl ?_
    refine dv_iload_n dJ6_numberOfTrailingZeros_0f7a4_19 rfl 1 rfl ?_
    refine dv_ldcw mm_914 dJ6_numberOfTrailingZeros_0f7a4_20 ?_
    refine dv_icmp_le (tgt := 34) dJ6_numberOfTrailingZeros_0f7a4_23 (by decide) (fun c5 => ?_) (fun c5 => ?_)
    · skip
      refine dv_iload_n dJ6_numberOfTrailingZeros_0f7a4_34 rfl 1 rfl ?_
      refine dv_sipush (v := 256) dJ6_numberOfTrailingZeros_0f7a4_35 (by decide) ?_
      refine dv_icmp_le (tgt := 49) dJ6_numberOfTrailingZeros_0f7a4_38 (by decide) (fun c6 => ?_) (fun c6 => ?_)
      · skip
        refine dv_iload_n dJ6_numberOfTrailingZeros_0f7a4_49 rfl 1 rfl ?_
        refine dv_bipush (v := 16) dJ6_numberOfTrailingZeros_0f7a4_50 (by decide) ?_
        refine dv_icmp_le (tgt := 62) dJ6_numberOfTrailingZeros_0f7a4_52 (by decide) (fun c7 => ?_) (fun c7 => ?_)
        · skip
          exact absurd c7 (by decide)
        · skip
          refine dv_iinc (v := 5) (lv' := [(1, .int 5), (0, .int 255)]) dJ6_numberOfTrailingZeros_0f7a4_55 (k := 0) rfl (by decide) (by decide) rfl ?_
          refine dv_iload_n dJ6_numberOfTrailingZeros_0f7a4_58 rfl 1 rfl ?_
          refine dv_iconst (v := 4) dJ6_numberOfTrailingZeros_0f7a4_59 (by decide) ?_
          refine dv_iushr dJ6_numberOfTrailingZeros_0f7a4_60 rfl ?_
          refine dv_topi (fun x8 ex8 => ?_)
          obtain rfl : x8 = 15 := ex8.trans (by decide)
          refine dv_istore_n (lv' := [(0, .int 15), (1, .int 5)]) dJ6_numberOfTrailingZeros_0f7a4_61 rfl (by decide) rfl ?_
          refine dv_iload_n dJ6_numberOfTrailingZeros_0f7a4_62 rfl 0 rfl ?_
          refine dv_iconst (v := 4) dJ6_numberOfTrailingZeros_0f7a4_63 (by decide) ?_
          refine dv_icmp_le (tgt := 74) dJ6_numberOfTrailingZeros_0f7a4_64 (by decide) (fun c9 => ?_) (fun c9 => ?_)
          · skip
            exact absurd c9 (by decide)
          · skip
            refine dv_iinc (v := 7) (lv' := [(1, .int 7), (0, .int 15)]) dJ6_numberOfTrailingZeros_0f7a4_67 (k := 1) rfl (by decide) (by decide) rfl ?_
            refine dv_iload_n dJ6_numberOfTrailingZeros_0f7a4_70 rfl 1 rfl ?_
            refine dv_iconst (v := 2) dJ6_numberOfTrailingZeros_0f7a4_71 (by decide) ?_
            refine dv_iushr dJ6_numberOfTrailingZeros_0f7a4_72 rfl ?_
            refine dv_topi (fun x10 ex10 => ?_)
            obtain rfl : x10 = 3 := ex10.trans (by decide)
            refine dv_istore_n (lv' := [(0, .int 3), (1, .int 7)]) dJ6_numberOfTrailingZeros_0f7a4_73 rfl (by decide) rfl ?_
            refine dv_iload_n dJ6_numberOfTrailingZeros_0f7a4_74 rfl 1 rfl ?_
            refine dv_iload_n dJ6_numberOfTrailingZeros_0f7a4_75 rfl 0 rfl ?_
            refine dv_iconst (v := 1) dJ6_numberOfTrailingZeros_0f7a4_76 (by decide) ?_
            refine dv_iushr dJ6_numberOfTrailingZeros_0f7a4_77 rfl ?_
            refine dv_topi (fun x11 ex11 => ?_)
            obtain rfl : x11 = 1 := ex11.trans (by decide)
            refine dv_iadd dJ6_numberOfTrailingZeros_0f7a4_78 ?_
            refine dv_topi (fun x12 ex12 => ?_)
            obtain rfl : x12 = 8 := ex12.trans (by decide)
            have q13 : (8 : Int32).toInt = 8 := by decide
            exact dv_iret dJ6_numberOfTrailingZeros_0f7a4_79 rfl (by first | exact Nat.zero_le _ | decide) (by first | exact Nat.zero_le _ | decide) (by subst hK; exact ⟨8, rfl, (rfl), rfl⟩)
      · skip
        exact absurd c6 (by decide)
    · skip
      exact absurd c5 (by decide)
  · skip
    exact absurd c4 (by decide)

set_option maxHeartbeats 4000000 in
set_option maxRecDepth 100000 in
theorem k_ntz_9 (l : Launch) (g : zG) (pe : Int32) (ct : Nat → va_E) (hI : Inv8 g idn pe ct) : DM l g pNo false yJ6_numberOfTrailingZeros_0f7a4 cJ6_numberOfTrailingZeros_0f7a4 2 (some .int) ({ frames := 0, cells := 0, slots := 0, locals := 0 }) (fun (ct2 : Nat → va_E) (rr : Option Value) => ∃ (r : Int32), rr = some (.int r) ∧ ((r = 9)) ∧ ct = ct2) ct [.int 512] := by
  refine DM.K (fun K hK => ?_)
  refine GW.met (own := RJ6) (loc := [(0, .int 512)]) (by decide) rfl rfl (Nat.le_of_ble_eq_true rfl) ?_
  have hpe0 := hI.1
  refine dv_iload_n dJ6_numberOfTrailingZeros_0f7a4_0 rfl 0 rfl ?_
  refine dv_iconst (v := (-1)) dJ6_numberOfTrailingZeros_0f7a4_1 (by decide) ?_
  refine dv_ixor dJ6_numberOfTrailingZeros_0f7a4_2 ?_
  refine dv_topi (fun x1 ex1 => ?_)
  obtain rfl : x1 = (-513) := ex1.trans (by decide)
  refine dv_iload_n dJ6_numberOfTrailingZeros_0f7a4_3 rfl 0 rfl ?_
  refine dv_iconst (v := 1) dJ6_numberOfTrailingZeros_0f7a4_4 (by decide) ?_
  refine dv_isub dJ6_numberOfTrailingZeros_0f7a4_5 ?_
  refine dv_topi (fun x2 ex2 => ?_)
  obtain rfl : x2 = 511 := ex2.trans (by decide)
  refine dv_iand dJ6_numberOfTrailingZeros_0f7a4_6 ?_
  refine dv_topi (fun x3 ex3 => ?_)
  obtain rfl : x3 = 511 := ex3.trans (by decide)
  refine dv_istore_n (lv' := [(0, .int 511)]) dJ6_numberOfTrailingZeros_0f7a4_7 rfl (by decide) rfl ?_
  refine dv_iload_n dJ6_numberOfTrailingZeros_0f7a4_8 rfl 0 rfl ?_
  refine dv_if_gt (tgt := 17) dJ6_numberOfTrailingZeros_0f7a4_9 (by decide) (fun c4 => ?_) (fun c4 => ?_)
  · skip
    refine dv_iconst (v := 1) dJ6_numberOfTrailingZeros_0f7a4_17 (by decide) ?_
    refine dv_istore_n (lv' := [(1, .int 1), (0, .int 511)]) dJ6_numberOfTrailingZeros_0f7a4_18 rfl (by decide) rfl ?_
    refine dv_iload_n dJ6_numberOfTrailingZeros_0f7a4_19 rfl 1 rfl ?_
    refine dv_ldcw mm_914 dJ6_numberOfTrailingZeros_0f7a4_20 ?_
    refine dv_icmp_le (tgt := 34) dJ6_numberOfTrailingZeros_0f7a4_23 (by decide) (fun c5 => ?_) (fun c5 => ?_)
    · skip
      refine dv_iload_n dJ6_numberOfTrailingZeros_0f7a4_34 rfl 1 rfl ?_
      refine dv_sipush (v := 256) dJ6_numberOfTrailingZeros_0f7a4_35 (by decide) ?_
      refine dv_icmp_le (tgt := 49) dJ6_numberOfTrailingZeros_0f7a4_38 (by decide) (fun c6 => ?_) (fun c6 => ?_)
      · skip
        exact absurd c6 (by decide)
      · skip
        refine dv_iinc (v := 9) (lv' := [(1, .int 9), (0, .int 511)]) dJ6_numberOfTrailingZeros_0f7a4_41 (k := 0) rfl (by decide) (by decide) rfl ?_
        refine dv_iload_n dJ6_numberOfTrailingZeros_0f7a4_44 rfl 1 rfl ?_
        refine dv_bipush (v := 8) dJ6_numberOfTrailingZeros_0f7a4_45 (by decide) ?_
        refine dv_iushr dJ6_numberOfTrailingZeros_0f7a4_47 rfl ?_
        refine dv_topi (fun x7 ex7 => ?_)
        obtain rfl : x7 = 1 := ex7.trans (by decide)
        refine dv_istore_n (lv' := [(0, .int 1), (1, .int 9)]) dJ6_numberOfTrailingZeros_0f7a4_48 rfl (by decide) rfl ?_
        refine dv_iload_n dJ6_numberOfTrailingZeros_0f7a4_49 rfl 0 rfl ?_
        refine dv_bipush (v := 16) dJ6_numberOfTrailingZeros_0f7a4_50 (by decide) ?_
        refine dv_icmp_le (tgt := 62) dJ6_numberOfTrailingZeros_0f7a4_52 (by decide) (fun c8 => ?_) (fun c8 => ?_)
        · skip
          refine dv_iload_n dJ6_numberOfTrailingZeros_0f7a4_62 rfl 0 rfl ?_
          refine dv_iconst (v := 4) dJ6_numberOfTrailingZeros_0f7a4_63 (by decide) ?_
          refine dv_icmp_le (tgt := 74) dJ6_numberOfTrailingZeros_0f7a4_64 (by decide) (fun c9 => ?_) (fun c9 => ?_)
          · skip
            refine dv_iload_n dJ6_numberOfTrailingZeros_0f7a4_74 rfl 1 rfl ?_
            refine dv_iload_n dJ6_numberOfTrailingZeros_0f7a4_75 rfl 0 rfl ?_
            refine dv_iconst (v := 1) dJ6_numberOfTrailingZeros_0f7a4_76 (by decide) ?_
            refine dv_iushr dJ6_numberOfTrailingZeros_0f7a4_77 rfl ?_
            refine dv_topi (fun x10 ex10 => ?_)
            obtain rfl : x10 = 0 := ex10.trans (by decide)
            refine dv_iadd dJ6_numberOfTrailingZeros_0f7a4_78 ?_
            refine dv_topi (fun x11 ex11 => ?_)
            obtain rfl : x11 = 9 := ex11.trans (by decide)
            have q12 : (9 : Int32).toInt = 9 := by decide
            exact dv_iret dJ6_numberOfTrailingZeros_0f7a4_79 rfl (by first | exact Nat.zero_le _ | decide) (by first | exact Nat.zero_le _ | decide) (by subst hK; exact ⟨9, rfl, (rfl), rfl⟩)
          · skip
            exact absurd c9 (by decide)
        · skip
          exact absurd c8 (by decide)
    · skip
      exact absurd c5 (by decide)
  · skip
    exact absurd c4 (by decide)

set_option maxHeartbeats 4000000 in
set_option maxRecDepth 100000 in
theorem k_ntz_10 (l : Launch) (g : zG) (pe : Int32) (ct : Nat → va_E) (hI : Inv8 g idn pe ct) : DM l g pNo false yJ6_numberOfTrailingZeros_0f7a4 cJ6_numberOfTrailingZeros_0f7a4 2 (some .int) ({ frames := 0, cells := 0, slots := 0, locals := 0 }) (fun (ct2 : Nat → va_E) (rr : Option Value) => ∃ (r : Int32), rr = some (.int r) ∧ ((r = 10)) ∧ ct = ct2) ct [.int 1024] := by
  refine DM.K (fun K hK => ?_)
  refine GW.met (own := RJ6) (loc := [(0, .int 1024)]) (by decide) rfl rfl (Nat.le_of_ble_eq_true rfl) ?_
  have hpe0 := hI.1
  refine dv_iload_n dJ6_numberOfTrailingZeros_0f7a4_0 rfl 0 rfl ?_
  refine dv_iconst (v := (-1)) dJ6_numberOfTrailingZeros_0f7a4_1 (by decide) ?_
  refine dv_ixor dJ6_numberOfTrailingZeros_0f7a4_2 ?_
  refine dv_topi (fun x1 ex1 => ?_)
  obtain rfl : x1 = (-1025) := ex1.trans (by decide)
  refine dv_iload_n dJ6_numberOfTrailingZeros_0f7a4_3 rfl 0 rfl ?_
  refine dv_iconst (v := 1) dJ6_numberOfTrailingZeros_0f7a4_4 (by decide) ?_
  refine dv_isub dJ6_numberOfTrailingZeros_0f7a4_5 ?_
  refine dv_topi (fun x2 ex2 => ?_)
  obtain rfl : x2 = 1023 := ex2.trans (by decide)
  refine dv_iand dJ6_numberOfTrailingZeros_0f7a4_6 ?_
  refine dv_topi (fun x3 ex3 => ?_)
  obtain rfl : x3 = 1023 := ex3.trans (by decide)
  refine dv_istore_n (lv' := [(0, .int 1023)]) dJ6_numberOfTrailingZeros_0f7a4_7 rfl (by decide) rfl ?_
  refine dv_iload_n dJ6_numberOfTrailingZeros_0f7a4_8 rfl 0 rfl ?_
  refine dv_if_gt (tgt := 17) dJ6_numberOfTrailingZeros_0f7a4_9 (by decide) (fun c4 => ?_) (fun c4 => ?_)
  · skip
    refine dv_iconst (v := 1) dJ6_numberOfTrailingZeros_0f7a4_17 (by decide) ?_
    refine dv_istore_n (lv' := [(1, .int 1), (0, .int 1023)]) dJ6_numberOfTrailingZeros_0f7a4_18 rfl (by decide) rfl ?_
    refine dv_iload_n dJ6_numberOfTrailingZeros_0f7a4_19 rfl 1 rfl ?_
    refine dv_ldcw mm_914 dJ6_numberOfTrailingZeros_0f7a4_20 ?_
    refine dv_icmp_le (tgt := 34) dJ6_numberOfTrailingZeros_0f7a4_23 (by decide) (fun c5 => ?_) (fun c5 => ?_)
    · skip
      refine dv_iload_n dJ6_numberOfTrailingZeros_0f7a4_34 rfl 1 rfl ?_
      refine dv_sipush (v := 256) dJ6_numberOfTrailingZeros_0f7a4_35 (by decide) ?_
      refine dv_icmp_le (tgt := 49) dJ6_numberOfTrailingZeros_0f7a4_38 (by decide) (fun c6 => ?_) (fun c6 => ?_)
      · skip
        exact absurd c6 (by decide)
      · skip
        refine dv_iinc (v := 9) (lv' := [(1, .int 9), (0, .int 1023)]) dJ6_numberOfTrailingZeros_0f7a4_41 (k := 0) rfl (by decide) (by decide) rfl ?_
        refine dv_iload_n dJ6_numberOfTrailingZeros_0f7a4_44 rfl 1 rfl ?_
        refine dv_bipush (v := 8) dJ6_numberOfTrailingZeros_0f7a4_45 (by decide) ?_
        refine dv_iushr dJ6_numberOfTrailingZeros_0f7a4_47 rfl ?_
        refine dv_topi (fun x7 ex7 => ?_)
        obtain rfl : x7 = 3 := ex7.trans (by decide)
        refine dv_istore_n (lv' := [(0, .int 3), (1, .int 9)]) dJ6_numberOfTrailingZeros_0f7a4_48 rfl (by decide) rfl ?_
        refine dv_iload_n dJ6_numberOfTrailingZeros_0f7a4_49 rfl 0 rfl ?_
        refine dv_bipush (v := 16) dJ6_numberOfTrailingZeros_0f7a4_50 (by decide) ?_
        refine dv_icmp_le (tgt := 62) dJ6_numberOfTrailingZeros_0f7a4_52 (by decide) (fun c8 => ?_) (fun c8 => ?_)
        · skip
          refine dv_iload_n dJ6_numberOfTrailingZeros_0f7a4_62 rfl 0 rfl ?_
          refine dv_iconst (v := 4) dJ6_numberOfTrailingZeros_0f7a4_63 (by decide) ?_
          refine dv_icmp_le (tgt := 74) dJ6_numberOfTrailingZeros_0f7a4_64 (by decide) (fun c9 => ?_) (fun c9 => ?_)
          · skip
            refine dv_iload_n dJ6_numberOfTrailingZeros_0f7a4_74 rfl 1 rfl ?_
            refine dv_iload_n dJ6_numberOfTrailingZeros_0f7a4_75 rfl 0 rfl ?_
            refine dv_iconst (v := 1) dJ6_numberOfTrailingZeros_0f7a4_76 (by decide) ?_
            refine dv_iushr dJ6_numberOfTrailingZeros_0f7a4_77 rfl ?_
            refine dv_topi (fun x10 ex10 => ?_)
            obtain rfl : x10 = 1 := ex10.trans (by decide)
            refine dv_iadd dJ6_numberOfTrailingZeros_0f7a4_78 ?_
            refine dv_topi (fun x11 ex11 => ?_)
            obtain rfl : x11 = 10 := ex11.trans (by decide)
            have q12 : (10 : Int32).toInt = 10 := by decide
            exact dv_iret dJ6_numberOfTrailingZeros_0f7a4_79 rfl (by first | exact Nat.zero_le _ | decide) (by first | exact Nat.zero_le _ | decide) (by subst hK; exact ⟨10, rfl, (rfl), rfl⟩)
          · skip
            exact absurd c9 (by decide)
        · skip
          exact absurd c8 (by decide)
    · skip
      exact absurd c5 (by decide)
  · skip
    exact absurd c4 (by decide)

set_option maxHeartbeats 4000000 in
set_option maxRecDepth 100000 in
theorem k_ntz_11 (l : Launch) (g : zG) (pe : Int32) (ct : Nat → va_E) (hI : Inv8 g idn pe ct) : DM l g pNo false yJ6_numberOfTrailingZeros_0f7a4 cJ6_numberOfTrailingZeros_0f7a4 2 (some .int) ({ frames := 0, cells := 0, slots := 0, locals := 0 }) (fun (ct2 : Nat → va_E) (rr : Option Value) => ∃ (r : Int32), rr = some (.int r) ∧ ((r = 11)) ∧ ct = ct2) ct [.int 2048] := by
  refine DM.K (fun K hK => ?_)
  refine GW.met (own := RJ6) (loc := [(0, .int 2048)]) (by decide) rfl rfl (Nat.le_of_ble_eq_true rfl) ?_
  have hpe0 := hI.1
  refine dv_iload_n dJ6_numberOfTrailingZeros_0f7a4_0 rfl 0 rfl ?_
  refine dv_iconst (v := (-1)) dJ6_numberOfTrailingZeros_0f7a4_1 (by decide) ?_
  refine dv_ixor dJ6_numberOfTrailingZeros_0f7a4_2 ?_
  refine dv_topi (fun x1 ex1 => ?_)
  obtain rfl : x1 = (-2049) := ex1.trans (by decide)
  refine dv_iload_n dJ6_numberOfTrailingZeros_0f7a4_3 rfl 0 rfl ?_
  refine dv_iconst (v := 1) dJ6_numberOfTrailingZeros_0f7a4_4 (by decide) ?_
  refine dv_isub dJ6_numberOfTrailingZeros_0f7a4_5 ?_
  refine dv_topi (fun x2 ex2 => ?_)
  obtain rfl : x2 = 2047 := ex2.trans (by decide)
  refine dv_iand dJ6_numberOfTrailingZeros_0f7a4_6 ?_
  refine dv_topi (fun x3 ex3 => ?_)
  obtain rfl : x3 = 2047 := ex3.trans (by decide)
  refine dv_istore_n (lv' := [(0, .int 2047)]) dJ6_numberOfTrailingZeros_0f7a4_7 rfl (by decide) rfl ?_
  refine dv_iload_n dJ6_numberOfTrailingZeros_0f7a4_8 rfl 0 rfl ?_
  refine dv_if_gt (tgt := 17) dJ6_numberOfTrailingZeros_0f7a4_9 (by decide) (fun c4 => ?_) (fun c4 => ?_)
  · skip
    refine dv_iconst (v := 1) dJ6_numberOfTrailingZeros_0f7a4_17 (by decide) ?_
    refine dv_istore_n (lv' := [(1, .int 1), (0, .int 2047)]) dJ6_numberOfTrailingZeros_0f7a4_18 rfl (by decide) rfl ?_
    refine dv_iload_n dJ6_numberOfTrailingZeros_0f7a4_19 rfl 1 rfl ?_
    refine dv_ldcw mm_914 dJ6_numberOfTrailingZeros_0f7a4_20 ?_
    refine dv_icmp_le (tgt := 34) dJ6_numberOfTrailingZeros_0f7a4_23 (by decide) (fun c5 => ?_) (fun c5 => ?_)
    · skip
      refine dv_iload_n dJ6_numberOfTrailingZeros_0f7a4_34 rfl 1 rfl ?_
      refine dv_sipush (v := 256) dJ6_numberOfTrailingZeros_0f7a4_35 (by decide) ?_
      refine dv_icmp_le (tgt := 49) dJ6_numberOfTrailingZeros_0f7a4_38 (by decide) (fun c6 => ?_) (fun c6 => ?_)
      · skip
        exact absurd c6 (by decide)
      · skip
        refine dv_iinc (v := 9) (lv' := [(1, .int 9), (0, .int 2047)]) dJ6_numberOfTrailingZeros_0f7a4_41 (k := 0) rfl (by decide) (by decide) rfl ?_
        refine dv_iload_n dJ6_numberOfTrailingZeros_0f7a4_44 rfl 1 rfl ?_
        refine dv_bipush (v := 8) dJ6_numberOfTrailingZeros_0f7a4_45 (by decide) ?_
        refine dv_iushr dJ6_numberOfTrailingZeros_0f7a4_47 rfl ?_
        refine dv_topi (fun x7 ex7 => ?_)
        obtain rfl : x7 = 7 := ex7.trans (by decide)
        refine dv_istore_n (lv' := [(0, .int 7), (1, .int 9)]) dJ6_numberOfTrailingZeros_0f7a4_48 rfl (by decide) rfl ?_
        refine dv_iload_n dJ6_numberOfTrailingZeros_0f7a4_49 rfl 0 rfl ?_
        refine dv_bipush (v := 16) dJ6_numberOfTrailingZeros_0f7a4_50 (by decide) ?_
        refine dv_icmp_le (tgt := 62) dJ6_numberOfTrailingZeros_0f7a4_52 (by decide) (fun c8 => ?_) (fun c8 => ?_)
        · skip
          refine dv_iload_n dJ6_numberOfTrailingZeros_0f7a4_62 rfl 0 rfl ?_
          refine dv_iconst (v := 4) dJ6_numberOfTrailingZeros_0f7a4_63 (by decide) ?_
          refine dv_icmp_le (tgt := 74) dJ6_numberOfTrailingZeros_0f7a4_64 (by decide) (fun c9 => ?_) (fun c9 => ?_)
          · skip
            exact absurd c9 (by decide)
          · skip
            refine dv_iinc (v := 11) (lv' := [(1, .int 11), (0, .int 7)]) dJ6_numberOfTrailingZeros_0f7a4_67 (k := 1) rfl (by decide) (by decide) rfl ?_
            refine dv_iload_n dJ6_numberOfTrailingZeros_0f7a4_70 rfl 1 rfl ?_
            refine dv_iconst (v := 2) dJ6_numberOfTrailingZeros_0f7a4_71 (by decide) ?_
            refine dv_iushr dJ6_numberOfTrailingZeros_0f7a4_72 rfl ?_
            refine dv_topi (fun x10 ex10 => ?_)
            obtain rfl : x10 = 1 := ex10.trans (by decide)
            refine dv_istore_n (lv' := [(0, .int 1), (1, .int 11)]) dJ6_numberOfTrailingZeros_0f7a4_73 rfl (by decide) rfl ?_
            refine dv_iload_n dJ6_numberOfTrailingZeros_0f7a4_74 rfl 1 rfl ?_
            refine dv_iload_n dJ6_numberOfTrailingZeros_0f7a4_75 rfl 0 rfl ?_
            refine dv_iconst (v := 1) dJ6_numberOfTrailingZeros_0f7a4_76 (by decide) ?_
            refine dv_iushr dJ6_numberOfTrailingZeros_0f7a4_77 rfl ?_
            refine dv_topi (fun x11 ex11 => ?_)
            obtain rfl : x11 = 0 := ex11.trans (by decide)
            refine dv_iadd dJ6_numberOfTrailingZeros_0f7a4_78 ?_
            refine dv_topi (fun x12 ex12 => ?_)
            obtain rfl : x12 = 11 := ex12.trans (by decide)
            have q13 : (11 : Int32).toInt = 11 := by decide
            exact dv_iret dJ6_numberOfTrailingZeros_0f7a4_79 rfl (by first | exact Nat.zero_le _ | decide) (by first | exact Nat.zero_le _ | decide) (by subst hK; exact ⟨11, rfl, (rfl), rfl⟩)
        · skip
          exact absurd c8 (by decide)
    · skip
      exact absurd c5 (by decide)
  · skip
    exact absurd c4 (by decide)

set_option maxHeartbeats 4000000 in
set_option maxRecDepth 100000 in
theorem k_ntz_12 (l : Launch) (g : zG) (pe : Int32) (ct : Nat → va_E) (hI : Inv8 g idn pe ct) : DM l g pNo false yJ6_numberOfTrailingZeros_0f7a4 cJ6_numberOfTrailingZeros_0f7a4 2 (some .int) ({ frames := 0, cells := 0, slots := 0, locals := 0 }) (fun (ct2 : Nat → va_E) (rr : Option Value) => ∃ (r : Int32), rr = some (.int r) ∧ ((r = 12)) ∧ ct = ct2) ct [.int 4096] := by
  refine DM.K (fun K hK => ?_)
  refine GW.met (own := RJ6) (loc := [(0, .int 4096)]) (by decide) rfl rfl (Nat.le_of_ble_eq_true rfl) ?_
  have hpe0 := hI.1
  refine dv_iload_n dJ6_numberOfTrailingZeros_0f7a4_0 rfl 0 rfl ?_
  refine dv_iconst (v := (-1)) dJ6_numberOfTrailingZeros_0f7a4_1 (by decide) ?_
  refine dv_ixor dJ6_numberOfTrailingZeros_0f7a4_2 ?_
  refine dv_topi (fun x1 ex1 => ?_)
  obtain rfl : x1 = (-4097) := ex1.trans (by decide)
  refine dv_iload_n dJ6_numberOfTrailingZeros_0f7a4_3 rfl 0 rfl ?_
  refine dv_iconst (v := 1) dJ6_numberOfTrailingZeros_0f7a4_4 (by decide) ?_
  refine dv_isub dJ6_numberOfTrailingZeros_0f7a4_5 ?_
  refine dv_topi (fun x2 ex2 => ?_)
  obtain rfl : x2 = 4095 := ex2.trans (by decide)
  refine dv_iand dJ6_numberOfTrailingZeros_0f7a4_6 ?_
  refine dv_topi (fun x3 ex3 => ?_)
  obtain rfl : x3 = 4095 := ex3.trans (by decide)
  refine dv_istore_n (lv' := [(0, .int 4095)]) dJ6_numberOfTrailingZeros_0f7a4_7 rfl (by decide) rfl ?_
  refine dv_iload_n dJ6_numberOfTrailingZeros_0f7a4_8 rfl 0 rfl ?_
  refine dv_if_gt (tgt := 17) dJ6_numberOfTrailingZeros_0f7a4_9 (by decide) (fun c4 => ?_) (fun c4 => ?_)
  · skip
    refine dv_iconst (v := 1) dJ6_numberOfTrailingZeros_0f7a4_17 (by decide) ?_
    refine dv_istore_n (lv' := [(1, .int 1), (0, .int 4095)]) dJ6_numberOfTrailingZeros_0f7a4_18 rfl (by decide) rfl ?_
    refine dv_iload_n dJ6_numberOfTrailingZeros_0f7a4_19 rfl 1 rfl ?_
    refine dv_ldcw mm_914 dJ6_numberOfTrailingZeros_0f7a4_20 ?_
    refine dv_icmp_le (tgt := 34) dJ6_numberOfTrailingZeros_0f7a4_23 (by decide) (fun c5 => ?_) (fun c5 => ?_)
    · skip
      refine dv_iload_n dJ6_numberOfTrailingZeros_0f7a4_34 rfl 1 rfl ?_
      refine dv_sipush (v := 256) dJ6_numberOfTrailingZeros_0f7a4_35 (by decide) ?_
      refine dv_icmp_le (tgt := 49) dJ6_numberOfTrailingZeros_0f7a4_38 (by decide) (fun c6 => ?_) (fun c6 => ?_)
      · skip
        exact absurd c6 (by decide)
      · skip
        refine dv_iinc (v := 9) (lv' := [(1, .int 9), (0, .int 4095)]) dJ6_numberOfTrailingZeros_0f7a4_41 (k := 0) rfl (by decide) (by decide) rfl ?_
        refine dv_iload_n dJ6_numberOfTrailingZeros_0f7a4_44 rfl 1 rfl ?_
        refine dv_bipush (v := 8) dJ6_numberOfTrailingZeros_0f7a4_45 (by decide) ?_
        refine dv_iushr dJ6_numberOfTrailingZeros_0f7a4_47 rfl ?_
        refine dv_topi (fun x7 ex7 => ?_)
        obtain rfl : x7 = 15 := ex7.trans (by decide)
        refine dv_istore_n (lv' := [(0, .int 15), (1, .int 9)]) dJ6_numberOfTrailingZeros_0f7a4_48 rfl (by decide) rfl ?_
        refine dv_iload_n dJ6_numberOfTrailingZeros_0f7a4_49 rfl 0 rfl ?_
        refine dv_bipush (v := 16) dJ6_numberOfTrailingZeros_0f7a4_50 (by decide) ?_
        refine dv_icmp_le (tgt := 62) dJ6_numberOfTrailingZeros_0f7a4_52 (by decide) (fun c8 => ?_) (fun c8 => ?_)
        · skip
          refine dv_iload_n dJ6_numberOfTrailingZeros_0f7a4_62 rfl 0 rfl ?_
          refine dv_iconst (v := 4) dJ6_numberOfTrailingZeros_0f7a4_63 (by decide) ?_
          refine dv_icmp_le (tgt := 74) dJ6_numberOfTrailingZeros_0f7a4_64 (by decide) (fun c9 => ?_) (fun c9 => ?_)
          · skip
            exact absurd c9 (by decide)
          · skip
            refine dv_iinc (v := 11) (lv' := [(1, .int 11), (0, .int 15)]) dJ6_numberOfTrailingZeros_0f7a4_67 (k := 1) rfl (by decide) (by decide) rfl ?_
            refine dv_iload_n dJ6_numberOfTrailingZeros_0f7a4_70 rfl 1 rfl ?_
            refine dv_iconst (v := 2) dJ6_numberOfTrailingZeros_0f7a4_71 (by decide) ?_
            refine dv_iushr dJ6_numberOfTrailingZeros_0f7a4_72 rfl ?_
            refine dv_topi (fun x10 ex10 => ?_)
            obtain rfl : x10 = 3 := ex10.trans (by decide)
            refine dv_istore_n (lv' := [(0, .int 3), (1, .int 11)]) dJ6_numberOfTrailingZeros_0f7a4_73 rfl (by decide) rfl ?_
            refine dv_iload_n dJ6_numberOfTrailingZeros_0f7a4_74 rfl 1 rfl ?_
            refine dv_iload_n dJ6_numberOfTrailingZeros_0f7a4_75 rfl 0 rfl ?_
            refine dv_iconst (v := 1) dJ6_numberOfTrailingZeros_0f7a4_76 (by decide) ?_
            refine dv_iushr dJ6_numberOfTrailingZeros_0f7a4_77 rfl ?_
            refine dv_topi (fun x11 ex11 => ?_)
            obtain rfl : x11 = 1 := ex11.trans (by decide)
            refine dv_iadd dJ6_numberOfTrailingZeros_0f7a4_78 ?_
            refine dv_topi (fun x12 ex12 => ?_)
            obtain rfl : x12 = 12 := ex12.trans (by decide)
            have q13 : (12 : Int32).toInt = 12 := by decide
            exact dv_iret dJ6_numberOfTrailingZeros_0f7a4_79 rfl (by first | exact Nat.zero_le _ | decide) (by first | exact Nat.zero_le _ | decide) (by subst hK; exact ⟨12, rfl, (rfl), rfl⟩)
        · skip
          exact absurd c8 (by decide)
    · skip
      exact absurd c5 (by decide)
  · skip
    exact absurd c4 (by decide)

set_option maxHeartbeats 4000000 in
set_option maxRecDepth 100000 in
theorem k_ntz_13 (l : Launch) (g : zG) (pe : Int32) (ct : Nat → va_E) (hI : Inv8 g idn pe ct) : DM l g pNo false yJ6_numberOfTrailingZeros_0f7a4 cJ6_numberOfTrailingZeros_0f7a4 2 (some .int) ({ frames := 0, cells := 0, slots := 0, locals := 0 }) (fun (ct2 : Nat → va_E) (rr : Option Value) => ∃ (r : Int32), rr = some (.int r) ∧ ((r = 13)) ∧ ct = ct2) ct [.int 8192] := by
  refine DM.K (fun K hK => ?_)
  refine GW.met (own := RJ6) (loc := [(0, .int 8192)]) (by decide) rfl rfl (Nat.le_of_ble_eq_true rfl) ?_
  have hpe0 := hI.1
  refine dv_iload_n dJ6_numberOfTrailingZeros_0f7a4_0 rfl 0 rfl ?_
  refine dv_iconst (v := (-1)) dJ6_numberOfTrailingZeros_0f7a4_1 (by decide) ?_
  refine dv_ixor dJ6_numberOfTrailingZeros_0f7a4_2 ?_
  refine dv_topi (fun x1 ex1 => ?_)
  obtain rfl : x1 = (-8193) := ex1.trans (by decide)
  refine dv_iload_n dJ6_numberOfTrailingZeros_0f7a4_3 rfl 0 rfl ?_
  refine dv_iconst (v := 1) dJ6_numberOfTrailingZeros_0f7a4_4 (by decide) ?_
  refine dv_isub dJ6_numberOfTrailingZeros_0f7a4_5 ?_
  refine dv_topi (fun x2 ex2 => ?_)
  obtain rfl : x2 = 8191 := ex2.trans (by decide)
  refine dv_iand dJ6_numberOfTrailingZeros_0f7a4_6 ?_
  refine dv_topi (fun x3 ex3 => ?_)
  obtain rfl : x3 = 8191 := ex3.trans (by decide)
  refine dv_istore_n (lv' := [(0, .int 8191)]) dJ6_numberOfTrailingZeros_0f7a4_7 rfl (by decide) rfl ?_
  refine dv_iload_n dJ6_numberOfTrailingZeros_0f7a4_8 rfl 0 rfl ?_
  refine dv_if_gt (tgt := 17) dJ6_numberOfTrailingZeros_0f7a4_9 (by decide) (fun c4 => ?_) (fun c4 => ?_)
  · skip
    refine dv_iconst (v := 1) dJ6_numberOfTrailingZeros_0f7a4_17 (by decide) ?_
    refine dv_istore_n (lv' := [(1, .int 1), (0, .int 8191)]) dJ6_numberOfTrailingZeros_0f7a4_18 rfl (by decide) rfl ?_
    refine dv_iload_n dJ6_numberOfTrailingZeros_0f7a4_19 rfl 1 rfl ?_
    refine dv_ldcw mm_914 dJ6_numberOfTrailingZeros_0f7a4_20 ?_
    refine dv_icmp_le (tgt := 34) dJ6_numberOfTrailingZeros_0f7a4_23 (by decide) (fun c5 => ?_) (fun c5 => ?_)
    · skip
      refine dv_iload_n dJ6_numberOfTrailingZeros_0f7a4_34 rfl 1 rfl ?_
      refine dv_sipush (v := 256) dJ6_numberOfTrailingZeros_0f7a4_35 (by decide) ?_
      refine dv_icmp_le (tgt := 49) dJ6_numberOfTrailingZeros_0f7a4_38 (by decide) (fun c6 => ?_) (fun c6 => ?_)
      · skip
        exact absurd c6 (by decide)
      · skip
        refine dv_iinc (v := 9) (lv' := [(1, .int 9), (0, .int 8191)]) dJ6_numberOfTrailingZeros_0f7a4_41 (k := 0) rfl (by decide) (by decide) rfl ?_
        refine dv_iload_n dJ6_numberOfTrailingZeros_0f7a4_44 rfl 1 rfl ?_
        refine dv_bipush (v := 8) dJ6_numberOfTrailingZeros_0f7a4_45 (by decide) ?_
        refine dv_iushr dJ6_numberOfTrailingZeros_0f7a4_47 rfl ?_
        refine dv_topi (fun x7 ex7 => ?_)
        obtain rfl : x7 = 31 := ex7.trans (by decide)
        refine dv_istore_n (lv' := [(0, .int 31), (1, .int 9)]) dJ6_numberOfTrailingZeros_0f7a4_48 rfl (by decide) rfl ?_
        refine dv_iload_n dJ6_numberOfTrailingZeros_0f7a4_49 rfl 0 rfl ?_
        refine dv_bipush (v := 16) dJ6_numberOfTrailingZeros_0f7a4_50 (by decide) ?_
        refine dv_icmp_le (tgt := 62) dJ6_numberOfTrailingZeros_0f7a4_52 (by decide) (fun c8 => ?_) (fun c8 => ?_)
        · skip
          exact absurd c8 (by decide)
        · skip
          refine dv_iinc (v := 13) (lv' := [(1, .int 13), (0, .int 31)]) dJ6_numberOfTrailingZeros_0f7a4_55 (k := 1) rfl (by decide) (by decide) rfl ?_
          refine dv_iload_n dJ6_numberOfTrailingZeros_0f7a4_58 rfl 1 rfl ?_
          refine dv_iconst (v := 4) dJ6_numberOfTrailingZeros_0f7a4_59 (by decide) ?_
          refine dv_iushr dJ6_numberOfTrailingZeros_0f7a4_60 rfl ?_
          refine dv_topi (fun x9 ex9 => ?_)
          obtain rfl : x9 = 1 := ex9.trans (by decide)
          refine dv_istore_n (lv' := [(0, .int 1), (1, .int 13)]) dJ6_numberOfTrailingZeros_0f7a4_61 rfl (by decide) rfl ?_
          refine dv_iload_n dJ6_numberOfTrailingZeros_0f7a4_62 rfl 0 rfl ?_
          refine dv_iconst (v := 4) dJ6_numberOfTrailingZeros_0f7a4_63 (by decide) ?_
          refine dv_icmp_le (tgt := 74) dJ6_numberOfTrailingZeros_0f7a4_64 (by decide) (fun c10 => ?_) (fun c10 => ?_)
          · skip
            refine dv_iload_n dJ6_numberOfTrailingZeros_0f7a4_74 rfl 1 rfl ?_
            refine dv_iload_n dJ6_numberOfTrailingZeros_0f7a4_75 rfl 0 rfl ?_
            refine dv_iconst (v := 1) dJ6_numberOfTrailingZeros_0f7a4_76 (by decide) ?_
            refine dv_iushr dJ6_numberOfTrailingZeros_0f7a4_77 rfl ?_
            refine dv_topi (fun x11 ex11 => ?_)
            obtain rfl : x11 = 0 := ex11.trans (by decide)
            refine dv_iadd dJ6_numberOfTrailingZeros_0f7a4_78 ?_
            refine dv_topi (fun x12 ex12 => ?_)
            obtain rfl : x12 = 13 := ex12.trans (by decide)
            have q13 : (13 : Int32).toInt = 13 := by decide
            exact dv_iret dJ6_numberOfTrailingZeros_0f7a4_79 rfl (by first | exact Nat.zero_le _ | decide) (by first | exact Nat.zero_le _ | decide) (by subst hK; exact ⟨13, rfl, (rfl), rfl⟩)
          · skip
            exact absurd c10 (by decide)
    · skip
      exact absurd c5 (by decide)
  · skip
    exact absurd c4 (by decide)

set_option maxHeartbeats 4000000 in
set_option maxRecDepth 100000 in
theorem k_ntz_14 (l : Launch) (g : zG) (pe : Int32) (ct : Nat → va_E) (hI : Inv8 g idn pe ct) : DM l g pNo false yJ6_numberOfTrailingZeros_0f7a4 cJ6_numberOfTrailingZeros_0f7a4 2 (some .int) ({ frames := 0, cells := 0, slots := 0, locals := 0 }) (fun (ct2 : Nat → va_E) (rr : Option Value) => ∃ (r : Int32), rr = some (.int r) ∧ ((r = 14)) ∧ ct = ct2) ct [.int 16384] := by
  refine DM.K (fun K hK => ?_)
  refine GW.met (own := RJ6) (loc := [(0, .int 16384)]) (by decide) rfl rfl (Nat.le_of_ble_eq_true rfl) ?_
  have hpe0 := hI.1
  refine dv_iload_n dJ6_numberOfTrailingZeros_0f7a4_0 rfl 0 rfl ?_
  refine dv_iconst (v := (-1)) dJ6_numberOfTrailingZeros_0f7a4_1 (by decide) ?_
  refine dv_ixor dJ6_numberOfTrailingZeros_0f7a4_2 ?_
  refine dv_topi (fun x1 ex1 => ?_)
  obtain rfl : x1 = (-16385) := ex1.trans (by decide)
  refine dv_iload_n dJ6_numberOfTrailingZeros_0f7a4_3 rfl 0 rfl ?_
  refine dv_iconst (v := 1) dJ6_numberOfTrailingZeros_0f7a4_4 (by decide) ?_
  refine dv_isub dJ6_numberOfTrailingZeros_0f7a4_5 ?_
  refine dv_topi (fun x2 ex2 => ?_)
  obtain rfl : x2 = 16383 := ex2.trans (by decide)
  refine dv_iand dJ6_numberOfTrailingZeros_0f7a4_6 ?_
  refine dv_topi (fun x3 ex3 => ?_)
  obtain rfl : x3 = 16383 := ex3.trans (by decide)
  refine dv_istore_n (lv' := [(0, .int 16383)]) dJ6_numberOfTrailingZeros_0f7a4_7 rfl (by decide) rfl ?_
  refine dv_iload_n dJ6_numberOfTrailingZeros_0f7a4_8 rfl 0 rfl ?_
  refine dv_if_gt (tgt := 17) dJ6_numberOfTrailingZeros_0f7a4_9 (by decide) (fun c4 => ?_) (fun c4 => ?_)
  · skip
    refine dv_iconst (v := 1) dJ6_numberOfTrailingZeros_0f7a4_17 (by decide) ?_
    refine dv_istore_n (lv' := [(1, .int 1), (0, .int 16383)]) dJ6_numberOfTrailingZeros_0f7a4_18 rfl (by decide) rfl ?_
    refine dv_iload_n dJ6_numberOfTrailingZeros_0f7a4_19 rfl 1 rfl ?_
    refine dv_ldcw mm_914 dJ6_numberOfTrailingZeros_0f7a4_20 ?_
    refine dv_icmp_le (tgt := 34) dJ6_numberOfTrailingZeros_0f7a4_23 (by decide) (fun c5 => ?_) (fun c5 => ?_)
    · skip
      refine dv_iload_n dJ6_numberOfTrailingZeros_0f7a4_34 rfl 1 rfl ?_
      refine dv_sipush (v := 256) dJ6_numberOfTrailingZeros_0f7a4_35 (by decide) ?_
      refine dv_icmp_le (tgt := 49) dJ6_numberOfTrailingZeros_0f7a4_38 (by decide) (fun c6 => ?_) (fun c6 => ?_)
      · skip
        exact absurd c6 (by decide)
      · skip
        refine dv_iinc (v := 9) (lv' := [(1, .int 9), (0, .int 16383)]) dJ6_numberOfTrailingZeros_0f7a4_41 (k := 0) rfl (by decide) (by decide) rfl ?_
        refine dv_iload_n dJ6_numberOfTrailingZeros_0f7a4_44 rfl 1 rfl ?_
        refine dv_bipush (v := 8) dJ6_numberOfTrailingZeros_0f7a4_45 (by decide) ?_
        refine dv_iushr dJ6_numberOfTrailingZeros_0f7a4_47 rfl ?_
        refine dv_topi (fun x7 ex7 => ?_)
        obtain rfl : x7 = 63 := ex7.trans (by decide)
        refine dv_istore_n (lv' := [(0, .int 63), (1, .int 9)]) dJ6_numberOfTrailingZeros_0f7a4_48 rfl (by decide) rfl ?_
        refine dv_iload_n dJ6_numberOfTrailingZeros_0f7a4_49 rfl 0 rfl ?_
        refine dv_bipush (v := 16) dJ6_numberOfTrailingZeros_0f7a4_50 (by decide) ?_
        refine dv_icmp_le (tgt := 62) dJ6_numberOfTrailingZeros_0f7a4_52 (by decide) (fun c8 => ?_) (fun c8 => ?_)
        · skip
          exact absurd c8 (by decide)
        · skip
          refine dv_iinc (v := 13) (lv' := [(1, .int 13), (0, .int 63)]) dJ6_numberOfTrailingZeros_0f7a4_55 (k := 1) rfl (by decide) (by decide) rfl ?_
          refine dv_iload_n dJ6_numberOfTrailingZeros_0f7a4_58 rfl 1 rfl ?_
          refine dv_iconst (v := 4) dJ6_numberOfTrailingZeros_0f7a4_59 (by decide) ?_
          refine dv_iushr dJ6_numberOfTrailingZeros_0f7a4_60 rfl ?_
          refine dv_topi (fun x9 ex9 => ?_)
          obtain rfl : x9 = 3 := ex9.trans (by decide)
          refine dv_istore_n (lv' := [(0, .int 3), (1, .int 13)]) dJ6_numberOfTrailingZeros_0f7a4_61 rfl (by decide) rfl ?_
          refine dv_iload_n dJ6_numberOfTrailingZeros_0f7a4_62 rfl 0 rfl ?_
          refine dv_iconst (v := 4) dJ6_numberOfTrailingZeros_0f7a4_63 (by decide) ?_
          refine dv_icmp_le (tgt := 74) dJ6_numberOfTrailingZeros_0f7a4_64 (by decide) (fun c10 => ?_) (fun c10 => ?_)
          · skip
            refine dv_iload_n dJ6_numberOfTrailingZeros_0f7a4_74 rfl 1 rfl ?_
            refine dv_iload_n dJ6_numberOfTrailingZeros_0f7a4_75 rfl 0 rfl ?_
            refine dv_iconst (v := 1) dJ6_numberOfTrailingZeros_0f7a4_76 (by decide) ?_
            refine dv_iushr dJ6_numberOfTrailingZeros_0f7a4_77 rfl ?_
            refine dv_topi (fun x11 ex11 => ?_)
            obtain rfl : x11 = 1 := ex11.trans (by decide)
            refine dv_iadd dJ6_numberOfTrailingZeros_0f7a4_78 ?_
            refine dv_topi (fun x12 ex12 => ?_)
            obtain rfl : x12 = 14 := ex12.trans (by decide)
            have q13 : (14 : Int32).toInt = 14 := by decide
            exact dv_iret dJ6_numberOfTrailingZeros_0f7a4_79 rfl (by first | exact Nat.zero_le _ | decide) (by first | exact Nat.zero_le _ | decide) (by subst hK; exact ⟨14, rfl, (rfl), rfl⟩)
          · skip
            exact absurd c10 (by decide)
    · skip
      exact absurd c5 (by decide)
  · skip
    exact absurd c4 (by decide)

set_option maxHeartbeats 4000000 in
set_option maxRecDepth 100000 in
theorem k_ntz_15 (l : Launch) (g : zG) (pe : Int32) (ct : Nat → va_E) (hI : Inv8 g idn pe ct) : DM l g pNo false yJ6_numberOfTrailingZeros_0f7a4 cJ6_numberOfTrailingZeros_0f7a4 2 (some .int) ({ frames := 0, cells := 0, slots := 0, locals := 0 }) (fun (ct2 : Nat → va_E) (rr : Option Value) => ∃ (r : Int32), rr = some (.int r) ∧ ((r = 15)) ∧ ct = ct2) ct [.int 32768] := by
  refine DM.K (fun K hK => ?_)
  refine GW.met (own := RJ6) (loc := [(0, .int 32768)]) (by decide) rfl rfl (Nat.le_of_ble_eq_true rfl) ?_
  have hpe0 := hI.1
  refine dv_iload_n dJ6_numberOfTrailingZeros_0f7a4_0 rfl 0 rfl ?_
  refine dv_iconst (v := (-1)) dJ6_numberOfTrailingZeros_0f7a4_1 (by decide) ?_
  refine dv_ixor dJ6_numberOfTrailingZeros_0f7a4_2 ?_
  refine dv_topi (fun x1 ex1 => ?_)
  obtain rfl : x1 = (-32769) := ex1.trans (by decide)
  refine dv_iload_n dJ6_numberOfTrailingZeros_0f7a4_3 rfl 0 rfl ?_
  refine dv_iconst (v := 1) dJ6_numberOfTrailingZeros_0f7a4_4 (by decide) ?_
  refine dv_isub dJ6_numberOfTrailingZeros_0f7a4_5 ?_
  refine dv_topi (fun x2 ex2 => ?_)
  obtain rfl : x2 = 32767 := ex2.trans (by decide)
  refine dv_iand dJ6_numberOfTrailingZeros_0f7a4_6 ?_
  refine dv_topi (fun x3 ex3 => ?_)
  obtain rfl : x3 = 32767 := ex3.trans (by decide)
  refine dv_istore_n (lv' := [(0, .int 32767)]) dJ6_numberOfTrailingZeros_0f7a4_7 rfl (by decide) rfl ?_
  refine dv_iload_n dJ6_numberOfTrailingZeros_0f7a4_8 rfl 0 rfl ?_
  refine dv_if_gt (tgt := 17) dJ6_numberOfTrailingZeros_0f7a4_9 (by decide) (fun c4 => ?_) (fun c4 => ?_)
  · skip
    refine dv_iconst (v := 1) dJ6_numberOfTrailingZeros_0f7a4_17 (by decide) ?_
    refine dv_istore_n (lv' := [(1, .int 1), (0, .int 32767)]) dJ6_numberOfTrailingZeros_0f7a4_18 rfl (by decide) rfl ?_
    refine dv_iload_n dJ6_numberOfTrailingZeros_0f7a4_19 rfl 1 rfl ?_
    refine dv_ldcw mm_914 dJ6_numberOfTrailingZeros_0f7a4_20 ?_
    refine dv_icmp_le (tgt := 34) dJ6_numberOfTrailingZeros_0f7a4_23 (by decide) (fun c5 => ?_) (fun c5 => ?_)
    · skip
      refine dv_iload_n dJ6_numberOfTrailingZeros_0f7a4_34 rfl 1 rfl ?_
      refine dv_sipush (v := 256) dJ6_numberOfTrailingZeros_0f7a4_35 (by decide) ?_
      refine dv_icmp_le (tgt := 49) dJ6_numberOfTrailingZeros_0f7a4_38 (by decide) (fun c6 => ?_) (fun c6 => ?_)
      · skip
        exact absurd c6 (by decide)
      · skip
        refine dv_iinc (v := 9) (lv' := [(1, .int 9), (0, .int 32767)]) dJ6_numberOfTrailingZeros_0f7a4_41 (k := 0) rfl (by decide) (by decide) rfl ?_
        refine dv_iload_n dJ6_numberOfTrailingZeros_0f7a4_44 rfl 1 rfl ?_
        refine dv_bipush (v := 8) dJ6_numberOfTrailingZeros_0f7a4_45 (by decide) ?_
        refine dv_iushr dJ6_numberOfTrailingZeros_0f7a4_47 rfl ?_
        refine dv_topi (fun x7 ex7 => ?_)
        obtain rfl : x7 = 127 := ex7.trans (by decide)
        refine dv_istore_n (lv' := [(0, .int 127), (1, .int 9)]) dJ6_numberOfTrailingZeros_0f7a4_48 rfl (by decide) rfl ?_
        refine dv_iload_n dJ6_numberOfTrailingZeros_0f7a4_49 rfl 0 rfl ?_
        refine dv_bipush (v := 16) dJ6_numberOfTrailingZeros_0f7a4_50 (by decide) ?_
        refine dv_icmp_le (tgt := 62) dJ6_numberOfTrailingZeros_0f7a4_52 (by decide) (fun c8 => ?_) (fun c8 => ?_)
        · skip
          exact absurd c8 (by decide)
        · skip
          refine dv_iinc (v := 13) (lv' := [(1, .int 13), (0, .int 127)]) dJ6_numberOfTrailingZeros_0f7a4_55 (k := 1) rfl (by decide) (by decide) rfl ?_
          refine dv_iload_n dJ6_numberOfTrailingZeros_0f7a4_58 rfl 1 rfl ?_
          refine dv_iconst (v := 4) dJ6_numberOfTrailingZeros_0f7a4_59 (by decide) ?_
          refine dv_iushr dJ6_numberOfTrailingZeros_0f7a4_60 rfl ?_
          refine dv_topi (fun x9 ex9 => ?_)
          obtain rfl : x9 = 7 := ex9.trans (by decide)
          refine dv_istore_n (lv' := [(0, .int 7), (1, .int 13)]) dJ6_numberOfTrailingZeros_0f7a4_61 rfl (by decide) rfl ?_
          refine dv_iload_n dJ6_numberOfTrailingZeros_0f7a4_62 rfl 0 rfl ?_
          refine dv_iconst (v := 4) dJ6_numberOfTrailingZeros_0f7a4_63 (by decide) ?_
          refine dv_icmp_le (tgt := 74) dJ6_numberOfTrailingZeros_0f7a4_64 (by decide) (fun c10 => ?_) (fun c10 => ?_)
          · skip
            exact absurd c10 (by decide)
          · skip
            refine dv_iinc (v := 15) (lv' := [(1, .int 15), (0, .int 7)]) dJ6_numberOfTrailingZeros_0f7a4_67 (k := 1) rfl (by decide) (by decide) rfl ?_
            refine dv_iload_n dJ6_numberOfTrailingZeros_0f7a4_70 rfl 1 rfl ?_
            refine dv_iconst (v := 2) dJ6_numberOfTrailingZeros_0f7a4_71 (by decide) ?_
            refine dv_iushr dJ6_numberOfTrailingZeros_0f7a4_72 rfl ?_
            refine dv_topi (fun x11 ex11 => ?_)
            obtain rfl : x11 = 1 := ex11.trans (by decide)
            refine dv_istore_n (lv' := [(0, .int 1), (1, .int 15)]) dJ6_numberOfTrailingZeros_0f7a4_73 rfl (by decide) rfl ?_
            refine dv_iload_n dJ6_numberOfTrailingZeros_0f7a4_74 rfl 1 rfl ?_
            refine dv_iload_n dJ6_numberOfTrailingZeros_0f7a4_75 rfl 0 rfl ?_
            refine dv_iconst (v := 1) dJ6_numberOfTrailingZeros_0f7a4_76 (by decide) ?_
            refine dv_iushr dJ6_numberOfTrailingZeros_0f7a4_77 rfl ?_
            refine dv_topi (fun x12 ex12 => ?_)
            obtain rfl : x12 = 0 := ex12.trans (by decide)
            refine dv_iadd dJ6_numberOfTrailingZeros_0f7a4_78 ?_
            refine dv_topi (fun x13 ex13 => ?_)
            obtain rfl : x13 = 15 := ex13.trans (by decide)
            have q14 : (15 : Int32).toInt = 15 := by decide
            exact dv_iret dJ6_numberOfTrailingZeros_0f7a4_79 rfl (by first | exact Nat.zero_le _ | decide) (by first | exact Nat.zero_le _ | decide) (by subst hK; exact ⟨15, rfl, (rfl), rfl⟩)
    · skip
      exact absurd c5 (by decide)
  · skip
    exact absurd c4 (by decide)

theorem k_ntz (l : Launch) (g : zG) (pe : Int32) (ct : Nat → va_E) (q : Nat) (hq : q < 16) (x : Int32) (hx : x = (1 : Int32) <<< (nI q &&& 31)) (hI : Inv8 g idn pe ct) : DM l g pNo false yJ6_numberOfTrailingZeros_0f7a4 cJ6_numberOfTrailingZeros_0f7a4 2 (some .int) ({ frames := 0, cells := 0, slots := 0, locals := 0 }) (fun (ct2 : Nat → va_E) (rr : Option Value) => ∃ (r : Int32), rr = some (.int r) ∧ (r = nI q) ∧ ct = ct2) ct [.int x] := by
  subst hx
  match q, hq with
  | 0, _ => exact (k_ntz_0 l g pe ct hI)
  | 1, _ => exact (k_ntz_1 l g pe ct hI)
  | 2, _ => exact (k_ntz_2 l g pe ct hI)
  | 3, _ => exact (k_ntz_3 l g pe ct hI)
  | 4, _ => exact (k_ntz_4 l g pe ct hI)
  | 5, _ => exact (k_ntz_5 l g pe ct hI)
  | 6, _ => exact (k_ntz_6 l g pe ct hI)
  | 7, _ => exact (k_ntz_7 l g pe ct hI)
  | 8, _ => exact (k_ntz_8 l g pe ct hI)
  | 9, _ => exact (k_ntz_9 l g pe ct hI)
  | 10, _ => exact (k_ntz_10 l g pe ct hI)
  | 11, _ => exact (k_ntz_11 l g pe ct hI)
  | 12, _ => exact (k_ntz_12 l g pe ct hI)
  | 13, _ => exact (k_ntz_13 l g pe ct hI)
  | 14, _ => exact (k_ntz_14 l g pe ct hI)
  | 15, _ => exact (k_ntz_15 l g pe ct hI)
  | n + 16, h => exact absurd h (by omega)

set_option maxHeartbeats 4000000 in
set_option maxRecDepth 100000 in
theorem k_up (l : Launch) (g : zG) (pe : Int32) (ct : Nat → va_E) (c0 : Int32) (v : Int32) (n : Int32) (hI : Inv8 g idn pe ct) : DM l g pNo false yL_up cL_up 5 (some .int) ({ frames := 0, cells := 0, slots := 0, locals := 0 }) (fun (ct2 : Nat → va_E) (rr : Option Value) => ∃ (r : Int32), rr = some (.int r) ∧ ((True)) ∧ ct = ct2) ct [.int c0, .int v, .int n] := by
  refine DM.K (fun K hK => ?_)
  refine GW.met (own := RL) (loc := [(0, .int c0), (1, .int v), (2, .int n)]) (by decide) rfl rfl (Nat.le_of_ble_eq_true rfl) ?_
  have hpe0 := hI.1
  have rg_c0 := z_rng c0
  have rg_v := z_rng v
  have rg_n := z_rng n
  refine dv_iload_n dL_up_0 rfl 1 rfl ?_
  refine dv_istore_n (lv' := [(3, .int v), (0, .int c0), (1, .int v), (2, .int n)]) dL_up_1 rfl (by decide) rfl ?_
  refine dv_iconst (v := 0) dL_up_2 (by decide) ?_
  refine dv_istore (lv' := [(4, .int 0), (3, .int v), (0, .int c0), (1, .int v), (2, .int n)]) dL_up_3 (by decide) rfl ?_
  have loop5 : ∀ (n5 : Nat) (v4_5 : Int32) (v3_5 : Int32), ((n.toInt - v4_5.toInt : Int).toNat < n5) → (0 ≤ v4_5.toInt ∧ v4_5.toInt ≤ 2147483647) → GW l g pNo pNo false yL_up cL_up 5 (some .int) RL ({ frames := 0, cells := 0, slots := 0, locals := 0 }) K 0 0 ct 5 [(4, .int v4_5), (3, .int v3_5), (0, .int c0), (1, .int v), (2, .int n)] [] := by
    intro n5
    induction n5 with
    | zero =>
      intro v4_5 v3_5 hn5 b4_5
      exact absurd hn5 (Nat.not_lt_zero _)
    | succ n5 ih5 =>
      intro v4_5 v3_5 hn5 b4_5
      refine dv_iload dL_up_5 0 rfl ?_
      refine dv_iload_n dL_up_7 rfl 4 rfl ?_
      refine dv_icmp_ge (tgt := 68) dL_up_8 (by decide) (fun c1 => ?_) (fun c1 => ?_)
      · skip
        have c1 : n.toInt ≤ v4_5.toInt := (z_le rfl rfl).mp c1
        refine dv_iload_n dL_up_68 rfl 1 rfl ?_
        exact dv_iret dL_up_69 rfl (by first | exact Nat.zero_le _ | decide) (by first | exact Nat.zero_le _ | decide) (by subst hK; exact ⟨v3_5, rfl, (trivial), rfl⟩)
      · skip
        have c1 : ¬ (n.toInt ≤ v4_5.toInt) := fun q => c1 ((z_le rfl rfl).mpr q)
        refine dv_iload_n dL_up_11 rfl 1 rfl ?_
        refine dv_bipush (v := 32) dL_up_12 (by decide) ?_
        refine dv_icmp_eq (tgt := 23) dL_up_14 (by decide) (fun c2 => ?_) (fun c2 => ?_)
        · skip
          have c2 : v3_5.toInt = 32 := (z_eq rfl (by decide : (32 : Int32).toInt = 32)).mp c2
          refine dv_bipush (v := 32) dL_up_23 (by decide) ?_
          refine dv_goto (tgt := 61) dL_up_25 (by decide) ?_
          refine dv_istore_n (lv' := [(3, .int 32), (4, .int v4_5), (0, .int c0), (1, .int v), (2, .int n)]) dL_up_61 rfl (by decide) rfl ?_
          obtain ⟨x3, ex3⟩ : ∃ y : Int32, y = v4_5 + 1 := ⟨_, rfl⟩
          have tx3 : x3.toInt = v4_5.toInt + 1 := by rw [ex3]; exact z_add rfl (by decide : (1 : Int32).toInt = 1) (by omega) (by omega)
          refine dv_iinc (v := x3) (lv' := [(4, .int x3), (3, .int 32), (0, .int c0), (1, .int v), (2, .int n)]) dL_up_62 (k := 1) rfl (by rw [ex3]; rfl) (by decide) rfl ?_
          refine dv_goto (tgt := 5) dL_up_65 (by decide) ?_
          exact ih5 x3 (32 : Int32) (by omega) (by first | omega | decide | assumption)
        · skip
          have c2 : ¬ (v3_5.toInt = 32) := fun q => c2 ((z_eq rfl (by decide : (32 : Int32).toInt = 32)).mpr q)
          refine dv_iload_n dL_up_17 rfl 1 rfl ?_
          refine dv_bipush (v := 24) dL_up_18 (by decide) ?_
          refine dv_icmp_lt (tgt := 28) dL_up_20 (by decide) (fun c4 => ?_) (fun c4 => ?_)
          · skip
            have c4 : v3_5.toInt < 24 := (z_lt rfl (by decide : (24 : Int32).toInt = 24)).mp c4
            refine dv_iload_n dL_up_28 rfl 1 rfl ?_
            refine dv_bipush (v := 16) dL_up_29 (by decide) ?_
            refine dv_icmp_lt (tgt := 46) dL_up_31 (by decide) (fun c5 => ?_) (fun c5 => ?_)
            · skip
              have c5 : v3_5.toInt < 16 := (z_lt rfl (by decide : (16 : Int32).toInt = 16)).mp c5
              refine dv_bipush (v := 16) dL_up_46 (by decide) ?_
              refine dv_iload_n dL_up_48 rfl 1 rfl ?_
              refine dv_iload_n dL_up_49 rfl 2 rfl ?_
              refine dv_iconst (v := 2) dL_up_50 (by decide) ?_
              refine dv_icmp_ge (tgt := 58) dL_up_51 (by decide) (fun c6 => ?_) (fun c6 => ?_)
              · skip
                have c6 : 2 ≤ c0.toInt := (z_le (by decide : (2 : Int32).toInt = 2) rfl).mp c6
                refine dv_iconst (v := 4) dL_up_58 (by decide) ?_
                refine dv_idiv dL_up_59 (by decide) ?_
                refine dv_topi (fun x7 ex7 => ?_)
                refine dv_iadd dL_up_60 ?_
                refine dv_topi (fun x8 ex8 => ?_)
                refine dv_istore_n (lv' := [(3, .int x8), (4, .int v4_5), (0, .int c0), (1, .int v), (2, .int n)]) dL_up_61 rfl (by decide) rfl ?_
                obtain ⟨x9, ex9⟩ : ∃ y : Int32, y = v4_5 + 1 := ⟨_, rfl⟩
                have tx9 : x9.toInt = v4_5.toInt + 1 := by rw [ex9]; exact z_add rfl (by decide : (1 : Int32).toInt = 1) (by omega) (by omega)
                refine dv_iinc (v := x9) (lv' := [(4, .int x9), (3, .int x8), (0, .int c0), (1, .int v), (2, .int n)]) dL_up_62 (k := 1) rfl (by rw [ex9]; rfl) (by decide) rfl ?_
                refine dv_goto (tgt := 5) dL_up_65 (by decide) ?_
                exact ih5 x9 x8 (by omega) (by first | omega | decide | assumption)
              · skip
                have c6 : ¬ (2 ≤ c0.toInt) := fun q => c6 ((z_le (by decide : (2 : Int32).toInt = 2) rfl).mpr q)
                refine dv_iconst (v := 2) dL_up_54 (by decide) ?_
                refine dv_goto (tgt := 59) dL_up_55 (by decide) ?_
                refine dv_idiv dL_up_59 (by decide) ?_
                refine dv_topi (fun x10 ex10 => ?_)
                refine dv_iadd dL_up_60 ?_
                refine dv_topi (fun x11 ex11 => ?_)
                refine dv_istore_n (lv' := [(3, .int x11), (4, .int v4_5), (0, .int c0), (1, .int v), (2, .int n)]) dL_up_61 rfl (by decide) rfl ?_
                obtain ⟨x12, ex12⟩ : ∃ y : Int32, y = v4_5 + 1 := ⟨_, rfl⟩
                have tx12 : x12.toInt = v4_5.toInt + 1 := by rw [ex12]; exact z_add rfl (by decide : (1 : Int32).toInt = 1) (by omega) (by omega)
                refine dv_iinc (v := x12) (lv' := [(4, .int x12), (3, .int x11), (0, .int c0), (1, .int v), (2, .int n)]) dL_up_62 (k := 1) rfl (by rw [ex12]; rfl) (by decide) rfl ?_
                refine dv_goto (tgt := 5) dL_up_65 (by decide) ?_
                exact ih5 x12 x11 (by omega) (by first | omega | decide | assumption)
            · skip
              have c5 : ¬ (v3_5.toInt < 16) := fun q => c5 ((z_lt rfl (by decide : (16 : Int32).toInt = 16)).mpr q)
              refine dv_bipush (v := 24) dL_up_34 (by decide) ?_
              refine dv_iload_n dL_up_36 rfl 1 rfl ?_
              refine dv_bipush (v := 16) dL_up_37 (by decide) ?_
              refine dv_isub dL_up_39 ?_
              refine dv_topi (fun x13 ex13 => ?_)
              have tx13 : x13.toInt = v3_5.toInt - 16 := by rw [ex13]; exact z_sub rfl (by decide : (16 : Int32).toInt = 16) (by omega) (by omega)
              refine dv_iconst (v := 4) dL_up_40 (by decide) ?_
              refine dv_idiv dL_up_41 (by decide) ?_
              refine dv_topi (fun x14 ex14 => ?_)
              have tx14 := z_div (x := x13) (y := 4) rfl (by decide : (4 : Int32).toInt = 4) (by omega) (by omega)
              rw [← ex14] at tx14
              refine dv_iadd dL_up_42 ?_
              refine dv_topi (fun x15 ex15 => ?_)
              have tx15 : x15.toInt = 24 + x14.toInt := by rw [ex15]; exact z_add (by decide : (24 : Int32).toInt = 24) rfl (by omega) (by omega)
              refine dv_goto (tgt := 61) dL_up_43 (by decide) ?_
              refine dv_istore_n (lv' := [(3, .int x15), (4, .int v4_5), (0, .int c0), (1, .int v), (2, .int n)]) dL_up_61 rfl (by decide) rfl ?_
              obtain ⟨x16, ex16⟩ : ∃ y : Int32, y = v4_5 + 1 := ⟨_, rfl⟩
              have tx16 : x16.toInt = v4_5.toInt + 1 := by rw [ex16]; exact z_add rfl (by decide : (1 : Int32).toInt = 1) (by omega) (by omega)
              refine dv_iinc (v := x16) (lv' := [(4, .int x16), (3, .int x15), (0, .int c0), (1, .int v), (2, .int n)]) dL_up_62 (k := 1) rfl (by rw [ex16]; rfl) (by decide) rfl ?_
              refine dv_goto (tgt := 5) dL_up_65 (by decide) ?_
              exact ih5 x16 x15 (by omega) (by first | omega | decide | assumption)
          · skip
            have c4 : ¬ (v3_5.toInt < 24) := fun q => c4 ((z_lt rfl (by decide : (24 : Int32).toInt = 24)).mpr q)
            refine dv_bipush (v := 32) dL_up_23 (by decide) ?_
            refine dv_goto (tgt := 61) dL_up_25 (by decide) ?_
            refine dv_istore_n (lv' := [(3, .int 32), (4, .int v4_5), (0, .int c0), (1, .int v), (2, .int n)]) dL_up_61 rfl (by decide) rfl ?_
            obtain ⟨x17, ex17⟩ : ∃ y : Int32, y = v4_5 + 1 := ⟨_, rfl⟩
            have tx17 : x17.toInt = v4_5.toInt + 1 := by rw [ex17]; exact z_add rfl (by decide : (1 : Int32).toInt = 1) (by omega) (by omega)
            refine dv_iinc (v := x17) (lv' := [(4, .int x17), (3, .int 32), (0, .int c0), (1, .int v), (2, .int n)]) dL_up_62 (k := 1) rfl (by rw [ex17]; rfl) (by decide) rfl ?_
            refine dv_goto (tgt := 5) dL_up_65 (by decide) ?_
            exact ih5 x17 (32 : Int32) (by omega) (by first | omega | decide | assumption)
  exact loop5 ((n.toInt - (0 : Int32).toInt : Int).toNat + 1) (0 : Int32) v (by omega) (by first | omega | decide | assumption)

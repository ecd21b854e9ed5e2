set_option maxHeartbeats 40000000 in
set_option maxRecDepth 100000 in
theorem f_idle (l : Launch) (g : zG) (pe : Int32) (ct : Nat → va_E) (x : Int32) (hI : Inv8 g idn pe ct) : DM l g pAll false yL_idle cL_idle 5 (some .boolean) ({ frames := 7, cells := 0, slots := 0, locals := 168 }) (fun (ct2 : Nat → va_E) (rr : Option Value) => ∃ (r : Int32), rr = some (.int r) ∧ ((r = 1)) ∧ Inv8 g idn pe ct2 ∧ (∀ k, ¬ dIn pM k → ct2 k = ct k)) ct [.ref 0, .int x] := by
  refine DM.K (fun K hK => ?_)
  refine GW.met (own := RL) (loc := [(0, .ref 0), (1, .int x)]) (by decide) rfl rfl (Nat.le_of_ble_eq_true rfl) ?_
  have hpe0 := hI.1
  have hof : ∀ k, ¬ dIn pM k → ct k = ct k := fun _ _ => rfl
  have rg_x := z_rng x
  have hj : ∀ (far : Int32), (far.toInt ≤ -2 ∨ 512 ≤ far.toInt) → GW l g pAll pAll false yL_idle cL_idle 5 (some .boolean) RL ({ frames := 7, cells := 0, slots := 0, locals := 168 }) K 0 0 ct 23 [(0, .ref 0), (1, .int x)] [.int far] := by
    intro far hfar
    refine dv_istore_n (lv' := [(2, .int far), (0, .ref 0), (1, .int x)]) dL_idle_23 rfl (by decide) rfl ?_
    refine dv_aload_n dL_idle_24 rfl 1 rfl ?_
    refine dv_iconst (v := 4) dL_idle_25 (by decide) ?_
    obtain ⟨bk4, dr3, h5, h6, h7, hs2⟩ := a8_0 hI
    refine GW.callV (n := 1) (As := [.int 4]) (rest := []) (b := 0) (eCount_s l g pe ct (4 : Int32) hI) sub_pCl_pAll rfl rfl ⟨by decide, rfl⟩ hs2 (q := (RX8, TX8, 13)) rfl mm_851 mm_852 mm_853 mm_52 mm_854 (by decide +kernel) ⟨Nat.le_of_ble_eq_true rfl, Nat.le_of_ble_eq_true rfl⟩ rfl (Nat.le_of_ble_eq_true rfl) dL_idle_26 (Nat.zero_le _) (Nat.zero_le _) rfl (fun ct1 rrr8 hBr8 hoff9 => ?_)
    obtain ⟨r8, rfl, hr8, rfl⟩ := hBr8
    refine GW.eq (S2 := [.int r8]) rfl rfl rfl ?_
    obtain ⟨h10, h11⟩ := hr8
    have h10 : r8 = eCount l g pe ct (4 : Int32) := h10
    have h11 : True := h11
    refine dv_istore_n (lv' := [(3, .int r8), (2, .int far), (0, .ref 0), (1, .int x)]) dL_idle_29 rfl (by decide) rfl ?_
    refine dv_aload_n dL_idle_30 rfl 2 rfl ?_
    refine dv_iload_n dL_idle_31 rfl 1 rfl ?_
    refine dv_iconst (v := 0) dL_idle_32 (by decide) ?_
    refine dv_bipush (v := 16) dL_idle_33 (by decide) ?_
    refine GW.callV (n := 3) (As := [.int far, .int 0, .int 16]) (rest := []) (b := 0) (r_upper1 l g pe ct far hI (by first | omega | assumption | decide)) sub_pCl_pAll rfl rfl ⟨by decide, rfl⟩ hs2 (q := (RX8, TX8, 13)) rfl mm_543 mm_544 mm_545 mm_52 mm_546 (by decide +kernel) ⟨Nat.le_of_ble_eq_true rfl, Nat.le_of_ble_eq_true rfl⟩ rfl (Nat.le_of_ble_eq_true rfl) dL_idle_35 (Nat.zero_le _) (Nat.zero_le _) rfl (fun ct12 rrr13 hBr13 hoff14 => ?_)
    obtain ⟨r13, rfl, hr13, rfl⟩ := hBr13
    refine GW.eq (S2 := [.int r13]) rfl rfl rfl ?_
    obtain rfl := hr13
    refine dv_if_ne (tgt := 282) dL_idle_38 (by decide) (fun c15 => ?_) (fun c15 => ?_)
    · skip
      exact absurd c15 (by decide)
    · skip
      refine dv_aload_n dL_idle_41 rfl 2 rfl ?_
      refine dv_iconst (v := 0) dL_idle_42 (by decide) ?_
      refine dv_bipush (v := 16) dL_idle_43 (by decide) ?_
      refine dv_bipush (v := 16) dL_idle_45 (by decide) ?_
      refine GW.callV (n := 3) (As := [.int 0, .int 16, .int 16]) (rest := []) (b := 0) (r_upper2 l g pe ct  hI) sub_pCl_pAll rfl rfl ⟨by decide, rfl⟩ hs2 (q := (RX8, TX8, 13)) rfl mm_543 mm_544 mm_545 mm_52 mm_546 (by decide +kernel) ⟨Nat.le_of_ble_eq_true rfl, Nat.le_of_ble_eq_true rfl⟩ rfl (Nat.le_of_ble_eq_true rfl) dL_idle_47 (Nat.zero_le _) (Nat.zero_le _) rfl (fun ct16 rrr17 hBr17 hoff18 => ?_)
      obtain ⟨r17, rfl, hr17, rfl⟩ := hBr17
      refine GW.eq (S2 := [.int r17]) rfl rfl rfl ?_
      obtain rfl := hr17
      refine dv_if_ne (tgt := 282) dL_idle_50 (by decide) (fun c19 => ?_) (fun c19 => ?_)
      · skip
        exact absurd c19 (by decide)
      · skip
        refine dv_aload_n dL_idle_53 rfl 2 rfl ?_
        refine dv_iconst (v := 0) dL_idle_54 (by decide) ?_
        refine dv_iload_n dL_idle_55 rfl 1 rfl ?_
        refine GW.callV (n := 2) (As := [.int 0, .int far]) (rest := []) (b := 0) (r_weight l g pe ct far hI (by first | omega | assumption | decide)) sub_pCl_pAll rfl rfl ⟨by decide, rfl⟩ hs2 (q := (RX8, TX8, 13)) rfl mm_859 mm_860 mm_861 mm_52 mm_862 (by decide +kernel) ⟨Nat.le_of_ble_eq_true rfl, Nat.le_of_ble_eq_true rfl⟩ rfl (Nat.le_of_ble_eq_true rfl) dL_idle_56 (Nat.zero_le _) (Nat.zero_le _) rfl (fun ct20 rrr21 hBr21 hoff22 => ?_)
        obtain ⟨r21, rfl, hr21, rfl⟩ := hBr21
        refine GW.eq (S2 := [.int r21]) rfl rfl rfl ?_
        obtain rfl := hr21
        refine dv_if_ne (tgt := 282) dL_idle_59 (by decide) (fun c23 => ?_) (fun c23 => ?_)
        · skip
          exact absurd c23 (by decide)
        · skip
          refine dv_aload_n dL_idle_62 rfl 2 rfl ?_
          refine dv_iload_n dL_idle_63 rfl 1 rfl ?_
          refine dv_iconst (v := 0) dL_idle_64 (by decide) ?_
          refine dv_iconst (v := 0) dL_idle_65 (by decide) ?_
          refine dv_iconst (v := 0) dL_idle_66 (by decide) ?_
          refine GW.callV (n := 4) (As := [.int far, .int 0, .int 0, .int 0]) (rest := []) (b := 0) (r_person l g pe ct far hI (by first | omega | assumption | decide)) sub_pCl_pAll rfl rfl ⟨by decide, rfl⟩ hs2 (q := (RX8, TX8, 13)) rfl mm_560 mm_561 mm_562 mm_52 mm_563 (by decide +kernel) ⟨Nat.le_of_ble_eq_true rfl, Nat.le_of_ble_eq_true rfl⟩ rfl (Nat.le_of_ble_eq_true rfl) dL_idle_67 (Nat.zero_le _) (Nat.zero_le _) rfl (fun ct24 rrr25 hBr25 hoff26 => ?_)
          obtain ⟨r25, rfl, hr25, rfl⟩ := hBr25
          refine GW.eq (S2 := [.int r25]) rfl rfl rfl ?_
          obtain rfl := hr25
          refine dv_iconst (v := (-1)) dL_idle_70 (by decide) ?_
          refine dv_icmp_ne (tgt := 282) dL_idle_71 (by decide) (fun c27 => ?_) (fun c27 => ?_)
          · skip
            exact absurd c27 (by decide)
          · skip
            refine dv_aload_n dL_idle_74 rfl 2 rfl ?_
            refine dv_iload_n dL_idle_75 rfl 1 rfl ?_
            refine dv_iconst (v := 0) dL_idle_76 (by decide) ?_
            refine GW.callV (n := 2) (As := [.int far, .int 0]) (rest := []) (b := 0) (r_wish l g pe ct far hI (by first | omega | assumption | decide)) sub_pCl_pAll rfl rfl ⟨by decide, rfl⟩ hs2 (q := (RX8, TX8, 13)) rfl mm_691 mm_692 mm_693 mm_52 mm_694 (by decide +kernel) ⟨Nat.le_of_ble_eq_true rfl, Nat.le_of_ble_eq_true rfl⟩ rfl (Nat.le_of_ble_eq_true rfl) dL_idle_77 (Nat.zero_le _) (Nat.zero_le _) rfl (fun ct28 rrr29 hBr29 hoff30 => ?_)
            obtain ⟨r29, rfl, hr29, rfl⟩ := hBr29
            refine GW.eq (S2 := [.int r29]) rfl rfl rfl ?_
            obtain rfl := hr29
            refine dv_if_ne (tgt := 282) dL_idle_80 (by decide) (fun c31 => ?_) (fun c31 => ?_)
            · skip
              exact absurd c31 (by decide)
            · skip
              refine dv_aload_n dL_idle_83 rfl 2 rfl ?_
              refine dv_iconst (v := 0) dL_idle_84 (by decide) ?_
              refine dv_iload_n dL_idle_85 rfl 1 rfl ?_
              refine dv_iconst (v := 0) dL_idle_86 (by decide) ?_
              refine GW.callV (n := 3) (As := [.int 0, .int far, .int 0]) (rest := []) (b := 0) (r_blurred l g pe ct far hI (by first | omega | assumption | decide)) sub_pCl_pAll rfl rfl ⟨by decide, rfl⟩ hs2 (q := (RX8, TX8, 13)) rfl mm_863 mm_864 mm_865 mm_52 mm_866 (by decide +kernel) ⟨Nat.le_of_ble_eq_true rfl, Nat.le_of_ble_eq_true rfl⟩ rfl (Nat.le_of_ble_eq_true rfl) dL_idle_87 (Nat.zero_le _) (Nat.zero_le _) rfl (fun ct32 rrr33 hBr33 hoff34 => ?_)
              obtain ⟨r33, rfl, hr33, rfl⟩ := hBr33
              refine GW.eq (S2 := [.int r33]) rfl rfl rfl ?_
              obtain rfl := hr33
              refine dv_iconst (v := (-1)) dL_idle_90 (by decide) ?_
              refine dv_icmp_ne (tgt := 282) dL_idle_91 (by decide) (fun c35 => ?_) (fun c35 => ?_)
              · skip
                exact absurd c35 (by decide)
              · skip
                refine dv_aload_n dL_idle_94 rfl 2 rfl ?_
                refine dv_iconst (v := 0) dL_idle_95 (by decide) ?_
                refine dv_iload_n dL_idle_96 rfl 1 rfl ?_
                refine GW.callV (n := 2) (As := [.int 0, .int far]) (rest := []) (b := 0) (r_size l g pe ct far hI (by first | omega | assumption | decide)) sub_pCl_pAll rfl rfl ⟨by decide, rfl⟩ hs2 (q := (RX8, TX8, 13)) rfl mm_867 mm_868 mm_869 mm_52 mm_870 (by decide +kernel) ⟨Nat.le_of_ble_eq_true rfl, Nat.le_of_ble_eq_true rfl⟩ rfl (Nat.le_of_ble_eq_true rfl) dL_idle_97 (Nat.zero_le _) (Nat.zero_le _) rfl (fun ct36 rrr37 hBr37 hoff38 => ?_)
                obtain ⟨r37, rfl, hr37, rfl⟩ := hBr37
                refine GW.eq (S2 := [.int r37]) rfl rfl rfl ?_
                obtain rfl := hr37
                refine dv_iconst (v := (-1)) dL_idle_100 (by decide) ?_
                refine dv_icmp_ne (tgt := 282) dL_idle_101 (by decide) (fun c39 => ?_) (fun c39 => ?_)
                · skip
                  exact absurd c39 (by decide)
                · skip
                  refine dv_aload_n dL_idle_104 rfl 2 rfl ?_
                  refine dv_iconst (v := 0) dL_idle_105 (by decide) ?_
                  refine dv_iconst (v := 0) dL_idle_106 (by decide) ?_
                  refine dv_iconst (v := 0) dL_idle_107 (by decide) ?_
                  refine dv_iconst (v := 0) dL_idle_108 (by decide) ?_
                  refine dv_iconst (v := 0) dL_idle_109 (by decide) ?_
                  refine GW.callV (n := 5) (As := [.int 0, .int 0, .int 0, .int 0, .int 0]) (rest := []) (b := 0) (r_book1 l g pe ct  hI) sub_pCl_pAll rfl rfl ⟨by decide, rfl⟩ hs2 (q := (RX8, TX8, 13)) rfl mm_351 mm_352 mm_353 mm_52 mm_354 (by decide +kernel) ⟨Nat.le_of_ble_eq_true rfl, Nat.le_of_ble_eq_true rfl⟩ rfl (Nat.le_of_ble_eq_true rfl) dL_idle_110 (Nat.zero_le _) (Nat.zero_le _) rfl (fun ct40 rrr41 hBr41 hoff42 => ?_)
                  obtain ⟨r41, rfl, hr41, rfl⟩ := hBr41
                  refine GW.eq (S2 := [.int r41]) rfl rfl rfl ?_
                  obtain rfl := hr41
                  refine dv_iconst (v := (-1)) dL_idle_113 (by decide) ?_
                  refine dv_icmp_ne (tgt := 282) dL_idle_114 (by decide) (fun c43 => ?_) (fun c43 => ?_)
                  · skip
                    exact absurd c43 (by decide)
                  · skip
                    refine dv_aload_n dL_idle_117 rfl 2 rfl ?_
                    refine dv_iconst (v := 1) dL_idle_118 (by decide) ?_
                    refine dv_iload_n dL_idle_119 rfl 1 rfl ?_
                    refine dv_iconst (v := 0) dL_idle_120 (by decide) ?_
                    refine dv_iconst (v := 0) dL_idle_121 (by decide) ?_
                    refine dv_iconst (v := 0) dL_idle_122 (by decide) ?_
                    refine GW.callV (n := 5) (As := [.int 1, .int far, .int 0, .int 0, .int 0]) (rest := []) (b := 0) (r_book2 l g pe ct far hI (by first | omega | assumption | decide)) sub_pCl_pAll rfl rfl ⟨by decide, rfl⟩ hs2 (q := (RX8, TX8, 13)) rfl mm_351 mm_352 mm_353 mm_52 mm_354 (by decide +kernel) ⟨Nat.le_of_ble_eq_true rfl, Nat.le_of_ble_eq_true rfl⟩ rfl (Nat.le_of_ble_eq_true rfl) dL_idle_123 (Nat.zero_le _) (Nat.zero_le _) rfl (fun ct44 rrr45 hBr45 hoff46 => ?_)
                    obtain ⟨r45, rfl, hr45, rfl⟩ := hBr45
                    refine GW.eq (S2 := [.int r45]) rfl rfl rfl ?_
                    obtain rfl := hr45
                    refine dv_iconst (v := (-1)) dL_idle_126 (by decide) ?_
                    refine dv_icmp_ne (tgt := 282) dL_idle_127 (by decide) (fun c47 => ?_) (fun c47 => ?_)
                    · skip
                      exact absurd c47 (by decide)
                    · skip
                      refine dv_aload_n dL_idle_130 rfl 2 rfl ?_
                      refine dv_iload_n dL_idle_131 rfl 1 rfl ?_
                      refine dv_iconst (v := 0) dL_idle_132 (by decide) ?_
                      refine GW.callV (n := 2) (As := [.int far, .int 0]) (rest := []) (b := 0) (r_cut1 l g pe ct far hI (by first | omega | assumption | decide)) sub_pCl_pAll rfl rfl ⟨by decide, rfl⟩ hs2 (q := (RX8, TX8, 13)) rfl mm_644 mm_645 mm_646 mm_52 mm_647 (by decide +kernel) ⟨Nat.le_of_ble_eq_true rfl, Nat.le_of_ble_eq_true rfl⟩ rfl (Nat.le_of_ble_eq_true rfl) dL_idle_133 (Nat.zero_le _) (Nat.zero_le _) rfl (fun ct48 rrr49 hBr49 hoff50 => ?_)
                      obtain ⟨r49, rfl, hr49, rfl⟩ := hBr49
                      refine GW.eq (S2 := [.int r49]) rfl rfl rfl ?_
                      obtain rfl := hr49
                      refine dv_if_ne (tgt := 282) dL_idle_136 (by decide) (fun c51 => ?_) (fun c51 => ?_)
                      · skip
                        exact absurd c51 (by decide)
                      · skip
                        refine dv_aload_n dL_idle_139 rfl 2 rfl ?_
                        refine dv_iconst (v := 0) dL_idle_140 (by decide) ?_
                        refine dv_iload_n dL_idle_141 rfl 1 rfl ?_
                        refine GW.callV (n := 2) (As := [.int 0, .int far]) (rest := []) (b := 0) (r_cut2 l g pe ct far hI (by first | omega | assumption | decide)) sub_pCl_pAll rfl rfl ⟨by decide, rfl⟩ hs2 (q := (RX8, TX8, 13)) rfl mm_644 mm_645 mm_646 mm_52 mm_647 (by decide +kernel) ⟨Nat.le_of_ble_eq_true rfl, Nat.le_of_ble_eq_true rfl⟩ rfl (Nat.le_of_ble_eq_true rfl) dL_idle_142 (Nat.zero_le _) (Nat.zero_le _) rfl (fun ct52 rrr53 hBr53 hoff54 => ?_)
                        obtain ⟨r53, rfl, hr53, rfl⟩ := hBr53
                        refine GW.eq (S2 := [.int r53]) rfl rfl rfl ?_
                        obtain rfl := hr53
                        refine dv_if_ne (tgt := 282) dL_idle_145 (by decide) (fun c55 => ?_) (fun c55 => ?_)
                        · skip
                          exact absurd c55 (by decide)
                        · skip
                          refine dv_aload_n dL_idle_148 rfl 2 rfl ?_
                          refine dv_iconst (v := 0) dL_idle_149 (by decide) ?_
                          refine dv_iconst (v := 0) dL_idle_150 (by decide) ?_
                          refine dv_iconst (v := 0) dL_idle_151 (by decide) ?_
                          refine dv_iconst (v := 0) dL_idle_152 (by decide) ?_
                          refine GW.callV (n := 4) (As := [.int 0, .int 0, .int 0, .int 0]) (rest := []) (b := 0) (r_swap1 l g pe ct  hI) sub_pCl_pAll rfl rfl ⟨by decide, rfl⟩ hs2 (q := (RX8, TX8, 13)) rfl mm_648 mm_649 mm_650 mm_52 mm_651 (by decide +kernel) ⟨Nat.le_of_ble_eq_true rfl, Nat.le_of_ble_eq_true rfl⟩ rfl (Nat.le_of_ble_eq_true rfl) dL_idle_153 (Nat.zero_le _) (Nat.zero_le _) rfl (fun ct56 rrr57 hBr57 hoff58 => ?_)
                          obtain ⟨r57, rfl, hr57, rfl⟩ := hBr57
                          refine GW.eq (S2 := [.int r57]) rfl rfl rfl ?_
                          obtain rfl := hr57
                          refine dv_if_ne (tgt := 282) dL_idle_156 (by decide) (fun c59 => ?_) (fun c59 => ?_)
                          · skip
                            exact absurd c59 (by decide)
                          · skip
                            refine dv_aload_n dL_idle_159 rfl 2 rfl ?_
                            refine dv_iconst (v := 0) dL_idle_160 (by decide) ?_
                            refine dv_iload_n dL_idle_161 rfl 1 rfl ?_
                            refine dv_iconst (v := 0) dL_idle_162 (by decide) ?_
                            refine dv_iconst (v := 0) dL_idle_163 (by decide) ?_
                            refine GW.callV (n := 4) (As := [.int 0, .int far, .int 0, .int 0]) (rest := []) (b := 0) (r_swap2 l g pe ct far hI (by first | omega | assumption | decide)) sub_pCl_pAll rfl rfl ⟨by decide, rfl⟩ hs2 (q := (RX8, TX8, 13)) rfl mm_648 mm_649 mm_650 mm_52 mm_651 (by decide +kernel) ⟨Nat.le_of_ble_eq_true rfl, Nat.le_of_ble_eq_true rfl⟩ rfl (Nat.le_of_ble_eq_true rfl) dL_idle_164 (Nat.zero_le _) (Nat.zero_le _) rfl (fun ct60 rrr61 hBr61 hoff62 => ?_)
                            obtain ⟨r61, rfl, hr61, rfl⟩ := hBr61
                            refine GW.eq (S2 := [.int r61]) rfl rfl rfl ?_
                            obtain rfl := hr61
                            refine dv_if_ne (tgt := 282) dL_idle_167 (by decide) (fun c63 => ?_) (fun c63 => ?_)
                            · skip
                              exact absurd c63 (by decide)
                            · skip
                              refine dv_aload_n dL_idle_170 rfl 2 rfl ?_
                              refine dv_iload_n dL_idle_171 rfl 1 rfl ?_
                              refine dv_iconst (v := 1) dL_idle_172 (by decide) ?_
                              refine GW.callV (n := 2) (As := [.int far, .int 1]) (rest := []) (b := 0) (r_show l g pe ct far hI (by first | omega | assumption | decide)) sub_pCl_pAll rfl rfl ⟨by decide, rfl⟩ hs2 (q := (RX8, TX8, 13)) rfl mm_658 mm_659 mm_660 mm_52 mm_661 (by decide +kernel) ⟨Nat.le_of_ble_eq_true rfl, Nat.le_of_ble_eq_true rfl⟩ rfl (Nat.le_of_ble_eq_true rfl) dL_idle_173 (Nat.zero_le _) (Nat.zero_le _) rfl (fun ct64 rrr65 hBr65 hoff66 => ?_)
                              obtain ⟨r65, rfl, hr65, rfl⟩ := hBr65
                              refine GW.eq (S2 := [.int r65]) rfl rfl rfl ?_
                              obtain rfl := hr65
                              refine dv_if_ne (tgt := 282) dL_idle_176 (by decide) (fun c67 => ?_) (fun c67 => ?_)
                              · skip
                                exact absurd c67 (by decide)
                              · skip
                                refine dv_aload_n dL_idle_179 rfl 2 rfl ?_
                                refine dv_iconst (v := 0) dL_idle_180 (by decide) ?_
                                refine dv_iconst (v := 0) dL_idle_181 (by decide) ?_
                                refine dv_iconst (v := 0) dL_idle_182 (by decide) ?_
                                refine dv_iconst (v := 1) dL_idle_183 (by decide) ?_
                                refine GW.callV (n := 4) (As := [.int 0, .int 0, .int 0, .int 1]) (rest := []) (b := 0) (r_link1 l g pe ct  hI) sub_pCl_pAll rfl rfl ⟨by decide, rfl⟩ hs2 (q := (RX8, TX8, 13)) rfl mm_662 mm_663 mm_664 mm_52 mm_665 (by decide +kernel) ⟨Nat.le_of_ble_eq_true rfl, Nat.le_of_ble_eq_true rfl⟩ rfl (Nat.le_of_ble_eq_true rfl) dL_idle_184 (Nat.zero_le _) (Nat.zero_le _) rfl (fun ct68 rrr69 hBr69 hoff70 => ?_)
                                obtain ⟨r69, rfl, hr69, rfl⟩ := hBr69
                                refine GW.eq (S2 := [.int r69]) rfl rfl rfl ?_
                                obtain rfl := hr69
                                refine dv_iconst (v := (-1)) dL_idle_187 (by decide) ?_
                                refine dv_icmp_ne (tgt := 282) dL_idle_188 (by decide) (fun c71 => ?_) (fun c71 => ?_)
                                · skip
                                  exact absurd c71 (by decide)
                                · skip
                                  refine dv_aload_n dL_idle_191 rfl 2 rfl ?_
                                  refine dv_iload_n dL_idle_192 rfl 1 rfl ?_
                                  refine dv_iconst (v := 0) dL_idle_193 (by decide) ?_
                                  refine dv_iconst (v := 0) dL_idle_194 (by decide) ?_
                                  refine dv_iconst (v := 0) dL_idle_195 (by decide) ?_
                                  refine GW.callV (n := 4) (As := [.int far, .int 0, .int 0, .int 0]) (rest := []) (b := 0) (r_link2 l g pe ct far hI (by first | omega | assumption | decide)) sub_pCl_pAll rfl rfl ⟨by decide, rfl⟩ hs2 (q := (RX8, TX8, 13)) rfl mm_662 mm_663 mm_664 mm_52 mm_665 (by decide +kernel) ⟨Nat.le_of_ble_eq_true rfl, Nat.le_of_ble_eq_true rfl⟩ rfl (Nat.le_of_ble_eq_true rfl) dL_idle_196 (Nat.zero_le _) (Nat.zero_le _) rfl (fun ct72 rrr73 hBr73 hoff74 => ?_)
                                  obtain ⟨r73, rfl, hr73, rfl⟩ := hBr73
                                  refine GW.eq (S2 := [.int r73]) rfl rfl rfl ?_
                                  obtain rfl := hr73
                                  refine dv_iconst (v := (-1)) dL_idle_199 (by decide) ?_
                                  refine dv_icmp_ne (tgt := 282) dL_idle_200 (by decide) (fun c75 => ?_) (fun c75 => ?_)
                                  · skip
                                    exact absurd c75 (by decide)
                                  · skip
                                    refine dv_aload_n dL_idle_203 rfl 2 rfl ?_
                                    refine dv_iload_n dL_idle_204 rfl 1 rfl ?_
                                    refine dv_iconst (v := 0) dL_idle_205 (by decide) ?_
                                    refine dv_iconst (v := 0) dL_idle_206 (by decide) ?_
                                    refine dv_iconst (v := 1) dL_idle_207 (by decide) ?_
                                    refine GW.callV (n := 4) (As := [.int far, .int 0, .int 0, .int 1]) (rest := []) (b := 0) (r_gossip1 l g pe ct far hI (by first | omega | assumption | decide)) sub_pCl_pAll rfl rfl ⟨by decide, rfl⟩ hs2 (q := (RX8, TX8, 13)) rfl mm_671 mm_672 mm_673 mm_52 mm_674 (by decide +kernel) ⟨Nat.le_of_ble_eq_true rfl, Nat.le_of_ble_eq_true rfl⟩ rfl (Nat.le_of_ble_eq_true rfl) dL_idle_208 (Nat.zero_le _) (Nat.zero_le _) rfl (fun ct76 rrr77 hBr77 hoff78 => ?_)
                                    obtain ⟨r77, rfl, hr77, rfl⟩ := hBr77
                                    refine GW.eq (S2 := [.int r77]) rfl rfl rfl ?_
                                    obtain rfl := hr77
                                    refine dv_iconst (v := (-1)) dL_idle_211 (by decide) ?_
                                    refine dv_icmp_ne (tgt := 282) dL_idle_212 (by decide) (fun c79 => ?_) (fun c79 => ?_)
                                    · skip
                                      exact absurd c79 (by decide)
                                    · skip
                                      refine dv_aload_n dL_idle_215 rfl 2 rfl ?_
                                      refine dv_iconst (v := 0) dL_idle_216 (by decide) ?_
                                      refine dv_iconst (v := 0) dL_idle_217 (by decide) ?_
                                      refine dv_iconst (v := 0) dL_idle_218 (by decide) ?_
                                      refine dv_iconst (v := 0) dL_idle_219 (by decide) ?_
                                      refine GW.callV (n := 4) (As := [.int 0, .int 0, .int 0, .int 0]) (rest := []) (b := 0) (r_gossip2 l g pe ct  hI) sub_pCl_pAll rfl rfl ⟨by decide, rfl⟩ hs2 (q := (RX8, TX8, 13)) rfl mm_671 mm_672 mm_673 mm_52 mm_674 (by decide +kernel) ⟨Nat.le_of_ble_eq_true rfl, Nat.le_of_ble_eq_true rfl⟩ rfl (Nat.le_of_ble_eq_true rfl) dL_idle_220 (Nat.zero_le _) (Nat.zero_le _) rfl (fun ct80 rrr81 hBr81 hoff82 => ?_)
                                      obtain ⟨r81, rfl, hr81, rfl⟩ := hBr81
                                      refine GW.eq (S2 := [.int r81]) rfl rfl rfl ?_
                                      obtain rfl := hr81
                                      refine dv_iconst (v := (-1)) dL_idle_223 (by decide) ?_
                                      refine dv_icmp_ne (tgt := 282) dL_idle_224 (by decide) (fun c83 => ?_) (fun c83 => ?_)
                                      · skip
                                        exact absurd c83 (by decide)
                                      · skip
                                        refine dv_aload_n dL_idle_227 rfl 2 rfl ?_
                                        refine dv_iload_n dL_idle_228 rfl 1 rfl ?_
                                        refine dv_iconst (v := 0) dL_idle_229 (by decide) ?_
                                        refine dv_iconst (v := 0) dL_idle_230 (by decide) ?_
                                        refine GW.callV (n := 3) (As := [.int far, .int 0, .int 0]) (rest := []) (b := 0) (r_line l g pe ct far hI (by first | omega | assumption | decide)) sub_pCl_pAll rfl rfl ⟨by decide, rfl⟩ hs2 (q := (RX8, TX8, 13)) rfl mm_872 mm_873 mm_874 mm_52 mm_875 (by decide +kernel) ⟨Nat.le_of_ble_eq_true rfl, Nat.le_of_ble_eq_true rfl⟩ rfl (Nat.le_of_ble_eq_true rfl) dL_idle_231 (Nat.zero_le _) (Nat.zero_le _) rfl (fun ct84 rrr85 hBr85 hoff86 => ?_)
                                        obtain ⟨r85, rfl, hr85, rfl⟩ := hBr85
                                        refine GW.eq (S2 := [.int r85]) rfl rfl rfl ?_
                                        obtain rfl := hr85
                                        refine dv_iconst (v := (-1)) dL_idle_234 (by decide) ?_
                                        refine dv_icmp_ne (tgt := 282) dL_idle_235 (by decide) (fun c87 => ?_) (fun c87 => ?_)
                                        · skip
                                          exact absurd c87 (by decide)
                                        · skip
                                          refine dv_aload_n dL_idle_238 rfl 2 rfl ?_
                                          refine dv_iconst (v := 0) dL_idle_239 (by decide) ?_
                                          refine dv_iconst (v := 0) dL_idle_240 (by decide) ?_
                                          refine dv_iload_n dL_idle_241 rfl 1 rfl ?_
                                          refine GW.callV (n := 3) (As := [.int 0, .int 0, .int far]) (rest := []) (b := 0) (r_fits l g pe ct far hI (by first | omega | assumption | decide)) (fun _ h => h) rfl rfl ⟨by decide, rfl⟩ hs2 (q := (RX8, TX8, 13)) rfl mm_407 mm_408 mm_409 mm_52 mm_410 (by decide +kernel) ⟨Nat.le_of_ble_eq_true rfl, Nat.le_of_ble_eq_true rfl⟩ rfl (Nat.le_of_ble_eq_true rfl) dL_idle_242 (Nat.zero_le _) (Nat.zero_le _) rfl (fun ct88 rrr89 hBr89 hoff90 => ?_)
                                          obtain ⟨r89, rfl, hr89, hI, hcf91⟩ := hBr89
                                          have hof : ∀ k, ¬ dIn pM k → ct88 k = ct k := fun k hk => (hcf91 k hk).trans (hof k hk)
                                          refine GW.eq (S2 := [.int r89]) rfl rfl rfl ?_
                                          have hs92 : ct88 0 = .inr (8, [.ref 1, .ref 2, .ref 3, .ref 5, .ref 6, .ref 9, .ref 10, .ref 17, .ref 21, .ref 34, .ref (99 + 3 * dr3), .int pe, .int bk4]) := (hcf91 _ (pM_no (by decide))).trans hs2
                                          obtain rfl := hr89
                                          refine dv_iconst (v := (-1)) dL_idle_245 (by decide) ?_
                                          refine dv_icmp_ne (tgt := 282) dL_idle_246 (by decide) (fun c93 => ?_) (fun c93 => ?_)
                                          · skip
                                            exact absurd c93 (by decide)
                                          · skip
                                            refine dv_aload_n dL_idle_249 rfl 2 rfl ?_
                                            refine dv_iload_n dL_idle_250 rfl 1 rfl ?_
                                            refine dv_iconst (v := 0) dL_idle_251 (by decide) ?_
                                            refine GW.callV (n := 2) (As := [.int far, .int 0]) (rest := []) (b := 0) (r_givings l g pe ct88 far hI (by first | omega | assumption | decide)) (fun _ h => h) rfl rfl ⟨by decide, rfl⟩ hs92 (q := (RX8, TX8, 13)) rfl mm_473 mm_474 mm_475 mm_52 mm_476 (by decide +kernel) ⟨Nat.le_of_ble_eq_true rfl, Nat.le_of_ble_eq_true rfl⟩ rfl (Nat.le_of_ble_eq_true rfl) dL_idle_252 (Nat.zero_le _) (Nat.zero_le _) rfl (fun ct94 rrr95 hBr95 hoff96 => ?_)
                                            obtain ⟨r95, rfl, hr95, hI, hcf97⟩ := hBr95
                                            have hof : ∀ k, ¬ dIn pM k → ct94 k = ct k := fun k hk => (hcf97 k hk).trans (hof k hk)
                                            refine GW.eq (S2 := [.long r95]) rfl rfl rfl ?_
                                            have hs98 : ct94 0 = .inr (8, [.ref 1, .ref 2, .ref 3, .ref 5, .ref 6, .ref 9, .ref 10, .ref 17, .ref 21, .ref 34, .ref (99 + 3 * dr3), .int pe, .int bk4]) := (hcf97 _ (pM_no (by decide))).trans hs92
                                            obtain rfl := hr95
                                            refine dv_ldc2 mm_876 dL_idle_255 ?_
                                            refine dv_lcmp dL_idle_258 ?_
                                            refine dv_topi (fun x99 ex99 => ?_)
                                            obtain rfl : x99 = 0 := ex99.trans (by decide)
                                            refine dv_if_ne (tgt := 282) dL_idle_259 (by decide) (fun c100 => ?_) (fun c100 => ?_)
                                            · skip
                                              exact absurd c100 (by decide)
                                            · skip
                                              refine dv_aload_n dL_idle_262 rfl 2 rfl ?_
                                              refine dv_iconst (v := 0) dL_idle_263 (by decide) ?_
                                              refine dv_iconst (v := 0) dL_idle_264 (by decide) ?_
                                              refine dv_iload_n dL_idle_265 rfl 1 rfl ?_
                                              refine dv_iconst (v := 0) dL_idle_266 (by decide) ?_
                                              refine dv_iconst (v := 0) dL_idle_267 (by decide) ?_
                                              refine GW.callV (n := 5) (As := [.int 0, .int 0, .int far, .int 0, .int 0]) (rest := []) (b := 0) (r_odds l g pe ct94 far hI (by first | omega | assumption | decide)) (fun _ h => h) rfl rfl ⟨by decide, rfl⟩ hs98 (q := (RX8, TX8, 13)) rfl mm_695 mm_696 mm_697 mm_52 mm_698 (by decide +kernel) ⟨Nat.le_of_ble_eq_true rfl, Nat.le_of_ble_eq_true rfl⟩ rfl (Nat.le_of_ble_eq_true rfl) dL_idle_268 (Nat.zero_le _) (Nat.zero_le _) rfl (fun ct101 rrr102 hBr102 hoff103 => ?_)
                                              obtain ⟨r102, rfl, hr102, hI, hcf104⟩ := hBr102
                                              have hof : ∀ k, ¬ dIn pM k → ct101 k = ct k := fun k hk => (hcf104 k hk).trans (hof k hk)
                                              refine GW.eq (S2 := [.long r102]) rfl rfl rfl ?_
                                              have hs105 : ct101 0 = .inr (8, [.ref 1, .ref 2, .ref 3, .ref 5, .ref 6, .ref 9, .ref 10, .ref 17, .ref 21, .ref 34, .ref (99 + 3 * dr3), .int pe, .int bk4]) := (hcf104 _ (pM_no (by decide))).trans hs98
                                              obtain rfl := hr102
                                              refine dv_ldc2 mm_876 dL_idle_271 ?_
                                              refine dv_lcmp dL_idle_274 ?_
                                              refine dv_topi (fun x106 ex106 => ?_)
                                              obtain rfl : x106 = 0 := ex106.trans (by decide)
                                              refine dv_if_ne (tgt := 282) dL_idle_275 (by decide) (fun c107 => ?_) (fun c107 => ?_)
                                              · skip
                                                exact absurd c107 (by decide)
                                              · skip
                                                refine dv_iconst (v := 1) dL_idle_278 (by decide) ?_
                                                refine dv_goto (tgt := 283) dL_idle_279 (by decide) ?_
                                                refine dv_istore (lv' := [(4, .int 1), (3, .int r8), (2, .int far), (0, .ref 0), (1, .int x)]) dL_idle_283 (by decide) rfl ?_
                                                refine dv_iload dL_idle_285 0 rfl ?_
                                                refine dv_if_eq (tgt := 470) dL_idle_287 (by decide) (fun c108 => ?_) (fun c108 => ?_)
                                                · skip
                                                  exact absurd c108 (by decide)
                                                · skip
                                                  refine dv_aload_n dL_idle_290 rfl 3 rfl ?_
                                                  refine dv_iconst (v := 0) dL_idle_291 (by decide) ?_
                                                  refine dv_iload_n dL_idle_292 rfl 2 rfl ?_
                                                  refine dv_iconst (v := 0) dL_idle_293 (by decide) ?_
                                                  refine dv_iconst (v := 0) dL_idle_294 (by decide) ?_
                                                  refine GW.callV (n := 4) (As := [.int 0, .int far, .int 0, .int 0]) (rest := []) (b := 0) (r_mustBe l g pe ct101 far hI (by first | omega | assumption | decide)) (fun _ h => h) rfl rfl ⟨by decide, rfl⟩ hs105 (q := (RX8, TX8, 13)) rfl mm_486 mm_487 mm_488 mm_52 mm_489 (by decide +kernel) ⟨Nat.le_of_ble_eq_true rfl, Nat.le_of_ble_eq_true rfl⟩ rfl (Nat.le_of_ble_eq_true rfl) dL_idle_295 (Nat.zero_le _) (Nat.zero_le _) rfl (fun ct109 rrr110 hBr110 hoff111 => ?_)
                                                  obtain ⟨r110, rfl, hr110, hI, hcf112⟩ := hBr110
                                                  have hof : ∀ k, ¬ dIn pM k → ct109 k = ct k := fun k hk => (hcf112 k hk).trans (hof k hk)
                                                  refine GW.eq (S2 := [.int r110]) rfl rfl rfl ?_
                                                  have hs113 : ct109 0 = .inr (8, [.ref 1, .ref 2, .ref 3, .ref 5, .ref 6, .ref 9, .ref 10, .ref 17, .ref 21, .ref 34, .ref (99 + 3 * dr3), .int pe, .int bk4]) := (hcf112 _ (pM_no (by decide))).trans hs105
                                                  obtain rfl := hr110
                                                  refine dv_iconst (v := (-1)) dL_idle_298 (by decide) ?_
                                                  refine dv_icmp_ne (tgt := 470) dL_idle_299 (by decide) (fun c114 => ?_) (fun c114 => ?_)
                                                  · skip
                                                    exact absurd c114 (by decide)
                                                  · skip
                                                    refine dv_aload_n dL_idle_302 rfl 3 rfl ?_
                                                    refine dv_iload_n dL_idle_303 rfl 2 rfl ?_
                                                    refine dv_iconst (v := 0) dL_idle_304 (by decide) ?_
                                                    refine dv_iconst (v := 0) dL_idle_305 (by decide) ?_
                                                    refine GW.callV (n := 3) (As := [.int far, .int 0, .int 0]) (rest := []) (b := 0) (r_giving l g pe ct109 far hI (by first | omega | assumption | decide)) (fun _ h => h) rfl rfl ⟨by decide, rfl⟩ hs113 (q := (RX8, TX8, 13)) rfl mm_877 mm_878 mm_879 mm_52 mm_880 (by decide +kernel) ⟨Nat.le_of_ble_eq_true rfl, Nat.le_of_ble_eq_true rfl⟩ rfl (Nat.le_of_ble_eq_true rfl) dL_idle_306 (Nat.zero_le _) (Nat.zero_le _) rfl (fun ct115 rrr116 hBr116 hoff117 => ?_)
                                                    obtain ⟨r116, rfl, hr116, hI, hcf118⟩ := hBr116
                                                    have hof : ∀ k, ¬ dIn pM k → ct115 k = ct k := fun k hk => (hcf118 k hk).trans (hof k hk)
                                                    refine GW.eq (S2 := [.int r116]) rfl rfl rfl ?_
                                                    have hs119 : ct115 0 = .inr (8, [.ref 1, .ref 2, .ref 3, .ref 5, .ref 6, .ref 9, .ref 10, .ref 17, .ref 21, .ref 34, .ref (99 + 3 * dr3), .int pe, .int bk4]) := (hcf118 _ (pM_no (by decide))).trans hs113
                                                    obtain rfl := hr116
                                                    refine dv_iconst (v := (-1)) dL_idle_309 (by decide) ?_
                                                    refine dv_icmp_ne (tgt := 470) dL_idle_310 (by decide) (fun c120 => ?_) (fun c120 => ?_)
                                                    · skip
                                                      exact absurd c120 (by decide)
                                                    · skip
                                                      refine dv_aload_n dL_idle_313 rfl 3 rfl ?_
                                                      refine dv_iload_n dL_idle_314 rfl 2 rfl ?_
                                                      refine dv_iconst (v := 0) dL_idle_315 (by decide) ?_
                                                      refine GW.callV (n := 2) (As := [.int far, .int 0]) (rest := []) (b := 0) (r_tooFew l g pe ct115 far hI (by first | omega | assumption | decide)) (fun _ h => h) rfl rfl ⟨by decide, rfl⟩ hs119 (q := (RX8, TX8, 13)) rfl mm_505 mm_506 mm_507 mm_52 mm_508 (by decide +kernel) ⟨Nat.le_of_ble_eq_true rfl, Nat.le_of_ble_eq_true rfl⟩ rfl (Nat.le_of_ble_eq_true rfl) dL_idle_316 (Nat.zero_le _) (Nat.zero_le _) rfl (fun ct121 rrr122 hBr122 hoff123 => ?_)
                                                      obtain ⟨r122, rfl, hr122, hI, hcf124⟩ := hBr122
                                                      have hof : ∀ k, ¬ dIn pM k → ct121 k = ct k := fun k hk => (hcf124 k hk).trans (hof k hk)
                                                      refine GW.eq (S2 := [.int r122]) rfl rfl rfl ?_
                                                      have hs125 : ct121 0 = .inr (8, [.ref 1, .ref 2, .ref 3, .ref 5, .ref 6, .ref 9, .ref 10, .ref 17, .ref 21, .ref 34, .ref (99 + 3 * dr3), .int pe, .int bk4]) := (hcf124 _ (pM_no (by decide))).trans hs119
                                                      obtain rfl := hr122
                                                      refine dv_iconst (v := (-1)) dL_idle_319 (by decide) ?_
                                                      refine dv_icmp_ne (tgt := 470) dL_idle_320 (by decide) (fun c126 => ?_) (fun c126 => ?_)
                                                      · skip
                                                        exact absurd c126 (by decide)
                                                      · skip
                                                        refine dv_aload_n dL_idle_323 rfl 3 rfl ?_
                                                        refine dv_iconst (v := 0) dL_idle_324 (by decide) ?_
                                                        refine dv_iload_n dL_idle_325 rfl 2 rfl ?_
                                                        refine dv_iconst (v := (-1)) dL_idle_326 (by decide) ?_
                                                        refine GW.callV (n := 3) (As := [.int 0, .int far, .int (-1)]) (rest := []) (b := 0) (r_steps l g pe ct121 far hI (by first | omega | assumption | decide)) (fun _ h => h) rfl rfl ⟨by decide, rfl⟩ hs125 (q := (RX8, TX8, 13)) rfl mm_509 mm_510 mm_511 mm_52 mm_512 (by decide +kernel) ⟨Nat.le_of_ble_eq_true rfl, Nat.le_of_ble_eq_true rfl⟩ rfl (Nat.le_of_ble_eq_true rfl) dL_idle_327 (Nat.zero_le _) (Nat.zero_le _) rfl (fun ct127 rrr128 hBr128 hoff129 => ?_)
                                                        obtain ⟨r128, rfl, hr128, hI, hcf130⟩ := hBr128
                                                        have hof : ∀ k, ¬ dIn pM k → ct127 k = ct k := fun k hk => (hcf130 k hk).trans (hof k hk)
                                                        refine GW.eq (S2 := [.int r128]) rfl rfl rfl ?_
                                                        have hs131 : ct127 0 = .inr (8, [.ref 1, .ref 2, .ref 3, .ref 5, .ref 6, .ref 9, .ref 10, .ref 17, .ref 21, .ref 34, .ref (99 + 3 * dr3), .int pe, .int bk4]) := (hcf130 _ (pM_no (by decide))).trans hs125
                                                        obtain rfl := hr128
                                                        refine dv_iconst (v := (-1)) dL_idle_330 (by decide) ?_
                                                        refine dv_icmp_ne (tgt := 470) dL_idle_331 (by decide) (fun c132 => ?_) (fun c132 => ?_)
                                                        · skip
                                                          exact absurd c132 (by decide)
                                                        · skip
                                                          refine dv_aload_n dL_idle_334 rfl 3 rfl ?_
                                                          refine dv_iconst (v := 0) dL_idle_335 (by decide) ?_
                                                          refine dv_iconst (v := 0) dL_idle_336 (by decide) ?_
                                                          refine dv_iconst (v := 0) dL_idle_337 (by decide) ?_
                                                          refine GW.callV (n := 3) (As := [.int 0, .int 0, .int 0]) (rest := []) (b := 0) (r_safe l g pe ct127  hI) (fun _ h => h) rfl rfl ⟨by decide, rfl⟩ hs131 (q := (RX8, TX8, 13)) rfl mm_526 mm_527 mm_528 mm_52 mm_529 (by decide +kernel) ⟨Nat.le_of_ble_eq_true rfl, Nat.le_of_ble_eq_true rfl⟩ rfl (Nat.le_of_ble_eq_true rfl) dL_idle_338 (Nat.zero_le _) (Nat.zero_le _) rfl (fun ct133 rrr134 hBr134 hoff135 => ?_)
                                                          obtain ⟨r134, rfl, hr134, hI, hcf136⟩ := hBr134
                                                          have hof : ∀ k, ¬ dIn pM k → ct133 k = ct k := fun k hk => (hcf136 k hk).trans (hof k hk)
                                                          refine GW.eq (S2 := [.int r134]) rfl rfl rfl ?_
                                                          have hs137 : ct133 0 = .inr (8, [.ref 1, .ref 2, .ref 3, .ref 5, .ref 6, .ref 9, .ref 10, .ref 17, .ref 21, .ref 34, .ref (99 + 3 * dr3), .int pe, .int bk4]) := (hcf136 _ (pM_no (by decide))).trans hs131
                                                          obtain rfl := hr134
                                                          refine dv_iconst (v := (-1)) dL_idle_341 (by decide) ?_
                                                          refine dv_icmp_ne (tgt := 470) dL_idle_342 (by decide) (fun c138 => ?_) (fun c138 => ?_)
                                                          · skip
                                                            exact absurd c138 (by decide)
                                                          · skip
                                                            refine dv_aload_n dL_idle_345 rfl 3 rfl ?_
                                                            refine dv_iconst (v := 0) dL_idle_346 (by decide) ?_
                                                            refine dv_iconst (v := 0) dL_idle_347 (by decide) ?_
                                                            refine dv_iconst (v := 3) dL_idle_348 (by decide) ?_
                                                            refine GW.callV (n := 3) (As := [.int 0, .int 0, .int 3]) (rest := []) (b := 0) (r_fewest l g pe ct133  hI) (fun _ h => h) rfl rfl ⟨by decide, rfl⟩ hs137 (q := (RX8, TX8, 13)) rfl mm_703 mm_704 mm_705 mm_52 mm_706 (by decide +kernel) ⟨Nat.le_of_ble_eq_true rfl, Nat.le_of_ble_eq_true rfl⟩ rfl (Nat.le_of_ble_eq_true rfl) dL_idle_349 (Nat.zero_le _) (Nat.zero_le _) rfl (fun ct139 rrr140 hBr140 hoff141 => ?_)
                                                            obtain ⟨r140, rfl, hr140, hI, hcf142⟩ := hBr140
                                                            have hof : ∀ k, ¬ dIn pM k → ct139 k = ct k := fun k hk => (hcf142 k hk).trans (hof k hk)
                                                            refine GW.eq (S2 := [.int r140]) rfl rfl rfl ?_
                                                            have hs143 : ct139 0 = .inr (8, [.ref 1, .ref 2, .ref 3, .ref 5, .ref 6, .ref 9, .ref 10, .ref 17, .ref 21, .ref 34, .ref (99 + 3 * dr3), .int pe, .int bk4]) := (hcf142 _ (pM_no (by decide))).trans hs137
                                                            obtain rfl := hr140
                                                            refine dv_iconst (v := (-1)) dL_idle_352 (by decide) ?_
                                                            refine dv_icmp_ne (tgt := 470) dL_idle_353 (by decide) (fun c144 => ?_) (fun c144 => ?_)
                                                            · skip
                                                              exact absurd c144 (by decide)
                                                            · skip
                                                              refine dv_aload_n dL_idle_356 rfl 3 rfl ?_
                                                              refine dv_iload_n dL_idle_357 rfl 2 rfl ?_
                                                              refine dv_iconst (v := 0) dL_idle_358 (by decide) ?_
                                                              refine dv_iconst (v := 0) dL_idle_359 (by decide) ?_
                                                              refine dv_iconst (v := 0) dL_idle_360 (by decide) ?_
                                                              refine GW.callV (n := 4) (As := [.int far, .int 0, .int 0, .int 0]) (rest := []) (b := 0) (r_questions l g pe ct139 far hI (by first | omega | assumption | decide)) (fun _ h => h) rfl rfl ⟨by decide, rfl⟩ hs143 (q := (RX8, TX8, 13)) rfl mm_718 mm_719 mm_720 mm_52 mm_721 (by decide +kernel) ⟨Nat.le_of_ble_eq_true rfl, Nat.le_of_ble_eq_true rfl⟩ rfl (Nat.le_of_ble_eq_true rfl) dL_idle_361 (Nat.zero_le _) (Nat.zero_le _) rfl (fun ct145 rrr146 hBr146 hoff147 => ?_)
                                                              obtain ⟨r146, rfl, hr146, rfl⟩ := hBr146
                                                              refine GW.eq (S2 := [.int r146]) rfl rfl rfl ?_
                                                              obtain rfl := hr146
                                                              refine dv_iconst (v := (-1)) dL_idle_364 (by decide) ?_
                                                              refine dv_icmp_ne (tgt := 470) dL_idle_365 (by decide) (fun c148 => ?_) (fun c148 => ?_)
                                                              · skip
                                                                exact absurd c148 (by decide)
                                                              · skip
                                                                refine dv_aload_n dL_idle_368 rfl 3 rfl ?_
                                                                refine dv_iconst (v := 0) dL_idle_369 (by decide) ?_
                                                                refine dv_iconst (v := 1) dL_idle_370 (by decide) ?_
                                                                refine dv_iconst (v := 0) dL_idle_371 (by decide) ?_
                                                                refine dv_iconst (v := (-1)) dL_idle_372 (by decide) ?_
                                                                refine GW.callV (n := 4) (As := [.int 0, .int 1, .int 0, .int (-1)]) (rest := []) (b := 0) (r_blurring l g pe ct139  hI) sub_pCl_pAll rfl rfl ⟨by decide, rfl⟩ hs143 (q := (RX8, TX8, 13)) rfl mm_789 mm_790 mm_791 mm_52 mm_792 (by decide +kernel) ⟨Nat.le_of_ble_eq_true rfl, Nat.le_of_ble_eq_true rfl⟩ rfl (Nat.le_of_ble_eq_true rfl) dL_idle_373 (Nat.zero_le _) (Nat.zero_le _) rfl (fun ct149 rrr150 hBr150 hoff151 => ?_)
                                                                obtain ⟨r150, rfl, hr150, rfl⟩ := hBr150
                                                                refine GW.eq (S2 := [.int r150]) rfl rfl rfl ?_
                                                                obtain rfl := hr150
                                                                refine dv_bipush (v := (-3)) dL_idle_376 (by decide) ?_
                                                                refine dv_icmp_ne (tgt := 470) dL_idle_378 (by decide) (fun c152 => ?_) (fun c152 => ?_)
                                                                · skip
                                                                  exact absurd c152 (by decide)
                                                                · skip
                                                                  refine dv_aload_n dL_idle_381 rfl 3 rfl ?_
                                                                  refine dv_iconst (v := 0) dL_idle_382 (by decide) ?_
                                                                  refine dv_bipush (v := 17) dL_idle_383 (by decide) ?_
                                                                  refine dv_iconst (v := 0) dL_idle_385 (by decide) ?_
                                                                  refine GW.callV (n := 3) (As := [.int 0, .int 17, .int 0]) (rest := []) (b := 0) (r_bestSwap l g pe ct139  hI) (fun _ h => h) rfl rfl ⟨by decide, rfl⟩ hs143 (q := (RX8, TX8, 13)) rfl mm_772 mm_773 mm_774 mm_52 mm_775 (by decide +kernel) ⟨Nat.le_of_ble_eq_true rfl, Nat.le_of_ble_eq_true rfl⟩ rfl (Nat.le_of_ble_eq_true rfl) dL_idle_386 (Nat.zero_le _) (Nat.zero_le _) rfl (fun ct153 rrr154 hBr154 hoff155 => ?_)
                                                                  obtain ⟨r154, rfl, hr154, rfl⟩ := hBr154
                                                                  refine GW.eq (S2 := [.int r154]) rfl rfl rfl ?_
                                                                  obtain rfl := hr154
                                                                  refine dv_iconst (v := (-1)) dL_idle_389 (by decide) ?_
                                                                  refine dv_icmp_ne (tgt := 470) dL_idle_390 (by decide) (fun c156 => ?_) (fun c156 => ?_)
                                                                  · skip
                                                                    exact absurd c156 (by decide)
                                                                  · skip
                                                                    refine dv_aload_n dL_idle_393 rfl 3 rfl ?_
                                                                    refine dv_iconst (v := 0) dL_idle_394 (by decide) ?_
                                                                    refine dv_iconst (v := 0) dL_idle_395 (by decide) ?_
                                                                    refine GW.callV (n := 2) (As := [.int 0, .int 0]) (rest := []) (b := 0) (r_together l g pe ct139  hI) (fun _ h => h) rfl rfl ⟨by decide, rfl⟩ hs143 (q := (RX8, TX8, 13)) rfl mm_781 mm_782 mm_783 mm_52 mm_784 (by decide +kernel) ⟨Nat.le_of_ble_eq_true rfl, Nat.le_of_ble_eq_true rfl⟩ rfl (Nat.le_of_ble_eq_true rfl) dL_idle_396 (Nat.zero_le _) (Nat.zero_le _) rfl (fun ct157 rrr158 hBr158 hoff159 => ?_)
                                                                    obtain ⟨r158, rfl, hr158, hI, hcf160⟩ := hBr158
                                                                    have hof : ∀ k, ¬ dIn pM k → ct157 k = ct k := fun k hk => (hcf160 k hk).trans (hof k hk)
                                                                    refine GW.eq (S2 := [.int r158]) rfl rfl rfl ?_
                                                                    have hs161 : ct157 0 = .inr (8, [.ref 1, .ref 2, .ref 3, .ref 5, .ref 6, .ref 9, .ref 10, .ref 17, .ref 21, .ref 34, .ref (99 + 3 * dr3), .int pe, .int bk4]) := (hcf160 _ (pM_no (by decide))).trans hs143
                                                                    obtain rfl := hr158
                                                                    refine dv_iconst (v := (-1)) dL_idle_399 (by decide) ?_
                                                                    refine dv_icmp_ne (tgt := 470) dL_idle_400 (by decide) (fun c162 => ?_) (fun c162 => ?_)
                                                                    · skip
                                                                      exact absurd c162 (by decide)
                                                                    · skip
                                                                      refine dv_aload_n dL_idle_403 rfl 3 rfl ?_
                                                                      refine dv_iload_n dL_idle_404 rfl 2 rfl ?_
                                                                      refine GW.callV (n := 1) (As := [.int far]) (rest := []) (b := 0) (r_loss l g pe ct157 far hI (by first | omega | assumption | decide)) sub_pCl_pAll rfl rfl ⟨by decide, rfl⟩ hs161 (q := (RX8, TX8, 13)) rfl mm_887 mm_888 mm_889 mm_52 mm_890 (by decide +kernel) ⟨Nat.le_of_ble_eq_true rfl, Nat.le_of_ble_eq_true rfl⟩ rfl (Nat.le_of_ble_eq_true rfl) dL_idle_405 (Nat.zero_le _) (Nat.zero_le _) rfl (fun ct163 rrr164 hBr164 hoff165 => ?_)
                                                                      obtain ⟨r164, rfl, hr164, rfl⟩ := hBr164
                                                                      refine GW.eq (S2 := [.int r164]) rfl rfl rfl ?_
                                                                      obtain rfl := hr164
                                                                      refine dv_iconst (v := (-1)) dL_idle_408 (by decide) ?_
                                                                      refine dv_icmp_ne (tgt := 470) dL_idle_409 (by decide) (fun c166 => ?_) (fun c166 => ?_)
                                                                      · skip
                                                                        exact absurd c166 (by decide)
                                                                      · skip
                                                                        refine dv_aload_n dL_idle_412 rfl 3 rfl ?_
                                                                        refine dv_iconst (v := 0) dL_idle_413 (by decide) ?_
                                                                        refine dv_iload_n dL_idle_414 rfl 2 rfl ?_
                                                                        refine dv_iconst (v := 0) dL_idle_415 (by decide) ?_
                                                                        refine GW.callV (n := 3) (As := [.int 0, .int far, .int 0]) (rest := []) (b := 0) (r_linesOf l g pe ct157 far hI (by first | omega | assumption | decide)) (fun _ h => h) rfl rfl ⟨by decide, rfl⟩ hs161 (q := (RX8, TX8, 13)) rfl mm_895 mm_896 mm_897 mm_52 mm_898 (by decide +kernel) ⟨Nat.le_of_ble_eq_true rfl, Nat.le_of_ble_eq_true rfl⟩ rfl (Nat.le_of_ble_eq_true rfl) dL_idle_416 (Nat.zero_le _) (Nat.zero_le _) rfl (fun ct167 rrr168 hBr168 hoff169 => ?_)
                                                                        obtain ⟨r168, rfl, hr168, rfl⟩ := hBr168
                                                                        refine GW.eq (S2 := [.int r168]) rfl rfl rfl ?_
                                                                        obtain rfl := hr168
                                                                        refine dv_iconst (v := (-1)) dL_idle_419 (by decide) ?_
                                                                        refine dv_icmp_ne (tgt := 470) dL_idle_420 (by decide) (fun c170 => ?_) (fun c170 => ?_)
                                                                        · skip
                                                                          exact absurd c170 (by decide)
                                                                        · skip
                                                                          refine dv_aload_n dL_idle_423 rfl 3 rfl ?_
                                                                          refine dv_iload_n dL_idle_424 rfl 2 rfl ?_
                                                                          refine dv_iconst (v := 0) dL_idle_425 (by decide) ?_
                                                                          refine dv_iconst (v := 0) dL_idle_426 (by decide) ?_
                                                                          refine GW.callV (n := 3) (As := [.int far, .int 0, .int 0]) (rest := []) (b := 0) (r_check1 l g pe ct157 far hI (by first | omega | assumption | decide)) sub_pCl_pAll rfl rfl ⟨by decide, rfl⟩ hs161 (q := (RX8, TX8, 13)) rfl mm_899 mm_900 mm_901 mm_52 mm_902 (by decide +kernel) ⟨Nat.le_of_ble_eq_true rfl, Nat.le_of_ble_eq_true rfl⟩ rfl (Nat.le_of_ble_eq_true rfl) dL_idle_427 (Nat.zero_le _) (Nat.zero_le _) rfl (fun ct171 rrr172 hBr172 hoff173 => ?_)
                                                                          obtain ⟨r172, rfl, hr172, rfl⟩ := hBr172
                                                                          refine GW.eq (S2 := [.int r172]) rfl rfl rfl ?_
                                                                          obtain rfl := hr172
                                                                          refine dv_bipush (v := (-2)) dL_idle_430 (by decide) ?_
                                                                          refine dv_icmp_ne (tgt := 470) dL_idle_432 (by decide) (fun c174 => ?_) (fun c174 => ?_)
                                                                          · skip
                                                                            exact absurd c174 (by decide)
                                                                          · skip
                                                                            refine dv_aload_n dL_idle_435 rfl 3 rfl ?_
                                                                            refine dv_iconst (v := 0) dL_idle_436 (by decide) ?_
                                                                            refine dv_iconst (v := 0) dL_idle_437 (by decide) ?_
                                                                            refine dv_iconst (v := 5) dL_idle_438 (by decide) ?_
                                                                            refine GW.callV (n := 3) (As := [.int 0, .int 0, .int 5]) (rest := []) (b := 0) (r_check2 l g pe ct157  hI) sub_pCl_pAll rfl rfl ⟨by decide, rfl⟩ hs161 (q := (RX8, TX8, 13)) rfl mm_899 mm_900 mm_901 mm_52 mm_902 (by decide +kernel) ⟨Nat.le_of_ble_eq_true rfl, Nat.le_of_ble_eq_true rfl⟩ rfl (Nat.le_of_ble_eq_true rfl) dL_idle_439 (Nat.zero_le _) (Nat.zero_le _) rfl (fun ct175 rrr176 hBr176 hoff177 => ?_)
                                                                            obtain ⟨r176, rfl, hr176, rfl⟩ := hBr176
                                                                            refine GW.eq (S2 := [.int r176]) rfl rfl rfl ?_
                                                                            obtain rfl := hr176
                                                                            refine dv_bipush (v := (-2)) dL_idle_442 (by decide) ?_
                                                                            refine dv_icmp_ne (tgt := 470) dL_idle_444 (by decide) (fun c178 => ?_) (fun c178 => ?_)
                                                                            · skip
                                                                              exact absurd c178 (by decide)
                                                                            · skip
                                                                              refine dv_aload_n dL_idle_447 rfl 3 rfl ?_
                                                                              refine dv_bipush (v := 6) dL_idle_448 (by decide) ?_
                                                                              refine GW.callV (n := 1) (As := [.int 6]) (rest := []) (b := 0) (r_count l g pe ct157 (6 : Int32) hI (by first | omega | assumption | decide)) sub_pCl_pAll rfl rfl ⟨by decide, rfl⟩ hs161 (q := (RX8, TX8, 13)) rfl mm_851 mm_852 mm_853 mm_52 mm_854 (by decide +kernel) ⟨Nat.le_of_ble_eq_true rfl, Nat.le_of_ble_eq_true rfl⟩ rfl (Nat.le_of_ble_eq_true rfl) dL_idle_450 (Nat.zero_le _) (Nat.zero_le _) rfl (fun ct179 rrr180 hBr180 hoff181 => ?_)
                                                                              obtain ⟨r180, rfl, hr180, rfl⟩ := hBr180
                                                                              refine GW.eq (S2 := [.int r180]) rfl rfl rfl ?_
                                                                              obtain rfl := hr180
                                                                              refine dv_iconst (v := (-1)) dL_idle_453 (by decide) ?_
                                                                              refine dv_icmp_ne (tgt := 470) dL_idle_454 (by decide) (fun c182 => ?_) (fun c182 => ?_)
                                                                              · skip
                                                                                exact absurd c182 (by decide)
                                                                              · skip
                                                                                refine dv_aload_n dL_idle_457 rfl 3 rfl ?_
                                                                                refine dv_iload_n dL_idle_458 rfl 2 rfl ?_
                                                                                refine GW.callV (n := 1) (As := [.int far]) (rest := []) (b := 0) (r_count l g pe ct157 far hI (by first | omega | assumption | decide)) sub_pCl_pAll rfl rfl ⟨by decide, rfl⟩ hs161 (q := (RX8, TX8, 13)) rfl mm_851 mm_852 mm_853 mm_52 mm_854 (by decide +kernel) ⟨Nat.le_of_ble_eq_true rfl, Nat.le_of_ble_eq_true rfl⟩ rfl (Nat.le_of_ble_eq_true rfl) dL_idle_459 (Nat.zero_le _) (Nat.zero_le _) rfl (fun ct183 rrr184 hBr184 hoff185 => ?_)
                                                                                obtain ⟨r184, rfl, hr184, rfl⟩ := hBr184
                                                                                refine GW.eq (S2 := [.int r184]) rfl rfl rfl ?_
                                                                                obtain rfl := hr184
                                                                                refine dv_iconst (v := (-1)) dL_idle_462 (by decide) ?_
                                                                                refine dv_icmp_ne (tgt := 470) dL_idle_463 (by decide) (fun c186 => ?_) (fun c186 => ?_)
                                                                                · skip
                                                                                  exact absurd c186 (by decide)
                                                                                · skip
                                                                                  refine dv_iconst (v := 1) dL_idle_466 (by decide) ?_
                                                                                  refine dv_goto (tgt := 471) dL_idle_467 (by decide) ?_
                                                                                  refine dv_istore (lv' := [(4, .int 1), (3, .int r8), (2, .int far), (0, .ref 0), (1, .int x)]) dL_idle_471 (by decide) rfl ?_
                                                                                  refine dv_iload dL_idle_473 0 rfl ?_
                                                                                  refine dv_if_eq (tgt := 491) dL_idle_475 (by decide) (fun c187 => ?_) (fun c187 => ?_)
                                                                                  · skip
                                                                                    exact absurd c187 (by decide)
                                                                                  · skip
                                                                                    refine dv_aload_n dL_idle_478 rfl 3 rfl ?_
                                                                                    refine dv_iconst (v := 4) dL_idle_479 (by decide) ?_
                                                                                    refine GW.callV (n := 1) (As := [.int 4]) (rest := []) (b := 0) (eCount_s l g pe ct157 (4 : Int32) hI) sub_pCl_pAll rfl rfl ⟨by decide, rfl⟩ hs161 (q := (RX8, TX8, 13)) rfl mm_851 mm_852 mm_853 mm_52 mm_854 (by decide +kernel) ⟨Nat.le_of_ble_eq_true rfl, Nat.le_of_ble_eq_true rfl⟩ rfl (Nat.le_of_ble_eq_true rfl) dL_idle_480 (Nat.zero_le _) (Nat.zero_le _) rfl (fun ct188 rrr189 hBr189 hoff190 => ?_)
                                                                                    obtain ⟨r189, rfl, hr189, rfl⟩ := hBr189
                                                                                    refine GW.eq (S2 := [.int r189]) rfl rfl rfl ?_
                                                                                    obtain ⟨h191, h192⟩ := hr189
                                                                                    have h191 : r189 = eCount l g pe ct157 (4 : Int32) := h191
                                                                                    have h192 : True := h192
                                                                                    refine dv_iload_n dL_idle_483 rfl 1 rfl ?_
                                                                                    refine dv_icmp_ne (tgt := 491) dL_idle_484 (by decide) (fun c193 => ?_) (fun c193 => ?_)
                                                                                    · skip
                                                                                      have c193 : ¬ (r189.toInt = r8.toInt) := fun q => c193 ((z_eq rfl rfl).mpr q)
                                                                                      exact absurd (congrArg Int32.toInt (show r189 = r8 from h191.trans ((eCount_o hof).trans h10.symm))) c193
                                                                                    · skip
                                                                                      have c193 : r189.toInt = r8.toInt := (z_eq rfl rfl).mp c193
                                                                                      refine dv_iconst (v := 1) dL_idle_487 (by decide) ?_
                                                                                      refine dv_goto (tgt := 492) dL_idle_488 (by decide) ?_
                                                                                      have q194 : (1 : Int32).toInt = 1 := by decide
                                                                                      exact dv_zret dL_idle_492 rfl rfl (by first | exact Nat.zero_le _ | decide) (by first | exact Nat.zero_le _ | decide) (by subst hK; exact ⟨1, rfl, (rfl), hI, hof⟩)
  refine dv_iload_n dL_idle_0 rfl 1 rfl ?_
  refine dv_if_ge (tgt := 18) dL_idle_1 (by decide) (fun c195 => ?_) (fun c195 => ?_)
  · skip
    have c195 : 0 ≤ x.toInt := (z_le (by decide : (0 : Int32).toInt = 0) rfl).mp c195
    refine dv_iload_n dL_idle_18 rfl 1 rfl ?_
    refine dv_sipush (v := 512) dL_idle_19 (by decide) ?_
    refine dv_ior dL_idle_22 ?_
    refine dv_topi (fun x196 ex196 => ?_)
    exact hj x196 (by first | exact Or.inl (by omega) | exact Or.inr (z_or512 (by omega) ex196))
  · skip
    have c195 : ¬ (0 ≤ x.toInt) := fun q => c195 ((z_le (by decide : (0 : Int32).toInt = 0) rfl).mpr q)
    refine dv_iload_n dL_idle_4 rfl 1 rfl ?_
    refine dv_iconst (v := (-1)) dL_idle_5 (by decide) ?_
    refine dv_icmp_ne (tgt := 14) dL_idle_6 (by decide) (fun c197 => ?_) (fun c197 => ?_)
    · skip
      have c197 : ¬ (x.toInt = (-1)) := fun q => c197 ((z_eq rfl (by decide : ((-1) : Int32).toInt = (-1))).mpr q)
      refine dv_iload_n dL_idle_14 rfl 1 rfl ?_
      refine dv_goto (tgt := 23) dL_idle_15 (by decide) ?_
      exact hj x (by first | exact Or.inl (by omega) | exact Or.inr (z_or512 (by omega) ex))
    · skip
      have c197 : x.toInt = (-1) := (z_eq rfl (by decide : ((-1) : Int32).toInt = (-1))).mp c197
      refine dv_bipush (v := (-2)) dL_idle_9 (by decide) ?_
      refine dv_goto (tgt := 23) dL_idle_11 (by decide) ?_
      exact hj (-2) ((by decide))

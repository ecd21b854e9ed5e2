set_option maxHeartbeats 4000000 in
set_option maxRecDepth 100000 in
theorem k_X9_areTold (l : Launch) (g : zG) (ad : Nat → Nat) (me : Int32) (ct : Nat → va_E) (n : Int32) (hl_n : 1 ≤ n.toInt ∧ n.toInt ≤ 8) (hI : IR g ad me ct) : Met l yX9_areTold (zW yX9_areTold cX9_areTold 5 (some .boolean)) ({ frames := 1, cells := 0, slots := 0, locals := 21 }) (va_Pc [.ref (ad 0), .int n] (zR g (zw 32 ad ct))) (vp_Si (fun r : Int32 => (r = 1 ∧ (zTp (ct 11) n.toInt me)) ∨ (r = 0))) 0 0 (fun _ => False) := by
  refine Met.ofW (cc := cX9_areTold) (maxL := 5) (ret := (some .boolean)) (by decide) rfl ?_
  intro p e s m args below meth c s₁ B hml hv
  obtain ⟨rfl, hP, hK, hN⟩ := hv
  have hx := B.exec
  have hb := B.bytes
  have hr := B.returns
  have hg := zW.law (atoms_spec (ws := (zW yX9_areTold cX9_areTold 5 (some .boolean))) B.pre)
  have hown : s.vm.findClass RX9 = some m.cls := findClass_of_methodNamed B.named
  have hlocks := B.notSynchronized
  have hpe0 := hI.1.1
  have hl := lv_entry ([.ref (ad 0), .int n]) (n := 5) (Nat.le_of_ble_eq_true rfl)
  rw [lg_entry_eq]
  generalize (lg_sl ([.ref (ad 0), .int n]) ++ List.replicate (5 - (lg_sl ([.ref (ad 0), .int n])).length) Slot.unset).toArray = ls at hl ⊢
  have hl : lv_has ls 5 [(0, .ref (ad 0)), (1, .int n)] := hl
  refine lv_iconst (v := 0) hx hb dX9_areTold_0 (by decide) ?_
  refine lv_istore_n (lv' := [(2, .int 0), (0, .ref (ad 0)), (1, .int n)]) hx hb dX9_areTold_1 rfl hl (by decide) rfl (fun ls hl => ?_)
  refine lv_iconst (v := 0) hx hb dX9_areTold_2 (by decide) ?_
  refine lv_istore_n (lv' := [(3, .int 0), (2, .int 0), (0, .ref (ad 0)), (1, .int n)]) hx hb dX9_areTold_3 rfl hl (by decide) rfl (fun ls hl => ?_)
  have loop4 : ∀ (n4 : Nat) (v3_4 : Int32) (v2_4 : Int32) (ls : Array Slot), ((8 - v3_4.toInt : Int).toNat < n4) → (0 ≤ v3_4.toInt ∧ v3_4.toInt ≤ 8) → (zTp (ct 11) v3_4.toInt me) → (v3_4.toInt ≤ n.toInt) → lv_has ls 5 [(3, .int v3_4), (2, .int v2_4), (0, .ref (ad 0)), (1, .int n)] → W p l e (headSpec (zW yX9_areTold cX9_areTold 5 (some .boolean)) ({ frames := 1, cells := 0, slots := 0, locals := 21 })).room s m ([.ref (ad 0), .int n] : List Value).toArray below meth c s.heap [] 0 0 (MQ below (vp_Si (fun r : Int32 => (r = 1 ∧ (zTp (ct 11) n.toInt me)) ∨ (r = 0))) ([.ref (ad 0), .int n] : List Value).toArray s 0 0 (fun _ => False)) (F0 m 4 ls []) := by
    intro n4
    induction n4 with
    | zero =>
      intro v3_4 v2_4 ls hn4 b3_4 j0_4 j1_4 hl
      exact absurd hn4 (Nat.not_lt_zero _)
    | succ n4 ih4 =>
      intro v3_4 v2_4 ls hn4 b3_4 j0_4 j1_4 hl
      refine lv_iload_n hx hb dX9_areTold_4 rfl (lv_at hl 0 rfl) ?_
      refine lv_iload_n hx hb dX9_areTold_5 rfl (lv_at hl 3 rfl) ?_
      refine lv_icmp_ge (tgt := 51) hx hb dX9_areTold_6 (by decide) (fun c1 => ?_) (fun c1 => ?_)
      · skip
        have c1 : n.toInt ≤ v3_4.toInt := (z_le rfl rfl).mp c1
        refine lv_iconst (v := 1) hx hb dX9_areTold_51 (by decide) ?_
        have q2 : (1 : Int32).toInt = 1 := by decide
        exact W.zret (v := 1) hx hb hr rfl (fun t ht hW => ⟨1, rfl, by first | exact Or.inr rfl | exact Or.inl ⟨rfl, by rw [show n.toInt = v3_4.toInt by omega]; exact j0_4⟩, ht⟩) (fun q hq => by cases hq) dX9_areTold_52
      · skip
        have c1 : ¬ (n.toInt ≤ v3_4.toInt) := fun q => c1 ((z_le rfl rfl).mpr q)
        refine lv_aload_n hx hb dX9_areTold_9 rfl (lv_at hl 2 rfl) ?_
        obtain ⟨bks4, lks5, gos6, shn7, tpd8, pl09, ln010, flt11, opn12, cmy13, wtg14, nm015, mst16, sus17, cut18, h19, h20, h21, h22, h23, h24, h25, h26, h27, h28, h29, h30, h31, h32, h33, h34, h35, h36, h37, h38, hs3⟩ := a9_0 hI.1
        refine va_get (D := g.1) (ci := 9) (v := .ref (ad 11)) (C := RX9) (T := TX9) (N := 47) hx hb hg inG9 hown hK hP 0 (zw_at (by omega) hs3) rfl 15 (by decide) (hg _ mm_973) (fun _ h9 => h9) rfl dX9_areTold_10 ?_
        refine lv_iload_n hx hb dX9_areTold_13 rfl (lv_at hl 0 rfl) ?_
        obtain ⟨f40, hs39⟩ := a9_11 hI.1
        refine va_bald hx hb hK hP 11 2 (zw_at (by omega) hs39) rfl (z_in rfl (by omega) (by omega)) dX9_areTold_14 ?_
        refine lv_topi (fun y41 ey41 => ?_)
        refine lv_istore (lv' := [(4, .int y41), (3, .int v3_4), (2, .int v2_4), (0, .ref (ad 0)), (1, .int n)]) hx hb dX9_areTold_15 hl (by decide) rfl (fun ls hl => ?_)
        refine lv_aload_n hx hb dX9_areTold_17 rfl (lv_at hl 3 rfl) ?_
        refine lv_iload hx hb dX9_areTold_18 (lv_at hl 0 rfl) ?_
        refine zc_i (va_runV (As := [.int y41]) (rest := []) ⟨hx, hb, hml, hown, hg⟩ (k_X9_isPerson l g ad me ct y41 hI) (cwV 1 hg (z_gV mm_1124 mm_1126 mm_51 mm_117 mm_1127) rfl rfl rfl (by decide +kernel) ⟨Nat.le_of_ble_eq_true rfl, Nat.le_of_ble_eq_true rfl⟩) ⟨(zR.pre [.ref (ad 0), .int y41] hP hK hN).1, va_recv hK hP (ci := 9) (q0 := 0) rfl (zw_at (by omega) hs3), (zR.pre [.ref (ad 0), .int y41] hP hK hN).2⟩ rfl rfl hl.1 rfl (lv_room (Nat.le_of_ble_eq_true rfl)) dX9_areTold_20 ⟨Nat.le_of_ble_eq_true rfl, Nat.le_of_ble_eq_true rfl⟩) (fun r42 hr42 => ?_)
        rcases hr42 with hr42 | hr42
        · skip
          obtain ⟨rfl, h43, h44⟩ := hr42
          replace h43 : 0 ≤ y41.toInt := h43
          replace h44 : y41.toInt < me.toInt := h44
          refine lv_if_eq (tgt := 36) hx hb dX9_areTold_23 (by decide) (fun c45 => ?_) (fun c45 => ?_)
          · skip
            exact absurd c45 (by decide)
          · skip
            refine lv_iload_n hx hb dX9_areTold_26 rfl (lv_at hl 2 rfl) ?_
            refine lv_iload hx hb dX9_areTold_27 (lv_at hl 0 rfl) ?_
            refine lv_ishr hx hb dX9_areTold_29 ?_
            refine lv_topi (fun x46 ex46 => ?_)
            refine lv_iconst (v := 1) hx hb dX9_areTold_30 (by decide) ?_
            refine lv_iand hx hb dX9_areTold_31 ?_
            refine lv_topi (fun x47 ex47 => ?_)
            have tx47 := z_andr (x := x46) (y := 1) (by decide : (1 : Int32).toInt = 1) (by omega)
            rw [← ex47] at tx47
            refine lv_iconst (v := 1) hx hb dX9_areTold_32 (by decide) ?_
            refine lv_icmp_ne (tgt := 38) hx hb dX9_areTold_33 (by decide) (fun c48 => ?_) (fun c48 => ?_)
            · skip
              have c48 : ¬ (x47.toInt = 1) := fun q => c48 ((z_eq rfl (by decide : (1 : Int32).toInt = 1)).mpr q)
              refine lv_iload_n hx hb dX9_areTold_38 rfl (lv_at hl 2 rfl) ?_
              refine lv_iconst (v := 1) hx hb dX9_areTold_39 (by decide) ?_
              refine lv_iload hx hb dX9_areTold_40 (lv_at hl 0 rfl) ?_
              refine lv_ishl hx hb dX9_areTold_42 ?_
              refine lv_topi (fun x49 ex49 => ?_)
              have tx49 := z_shl1 (y := y41) rfl (by omega) (k := 15) (by decide) (by omega)
              rw [← ex49] at tx49
              refine lv_ior hx hb dX9_areTold_43 ?_
              refine lv_topi (fun x50 ex50 => ?_)
              refine lv_istore_n (lv' := [(2, .int x50), (4, .int y41), (3, .int v3_4), (0, .ref (ad 0)), (1, .int n)]) hx hb dX9_areTold_44 rfl hl (by decide) rfl (fun ls hl => ?_)
              have hT : zTp (ct 11) (v3_4.toInt + 1) me := zTp_step hs39 j0_4 rfl (by omega) ey41 (by omega) (by omega)
              obtain ⟨x51, ex51⟩ : ∃ y : Int32, y = v3_4 + 1 := ⟨_, rfl⟩
              have tx51 : x51.toInt = v3_4.toInt + 1 := by rw [ex51]; exact z_add rfl (by decide : (1 : Int32).toInt = 1) (by omega) (by omega)
              refine lv_iinc (v := x51) (lv' := [(3, .int x51), (2, .int x50), (4, .int y41), (0, .ref (ad 0)), (1, .int n)]) hx hb dX9_areTold_45 hl (k := 2) rfl (by rw [ex51]; rfl) (by decide) rfl (fun ls hl => ?_)
              rw [← tx51] at hT
              refine lv_goto (tgt := 4) hx hb dX9_areTold_48 (by decide) ?_
              exact ih4 x51 x50 ls (by omega) (by first | assumption | omega | decide) (by first | assumption | omega | decide) (by first | assumption | omega | decide) (lv_sub hl [0, 1, 3, 4] rfl)
            · skip
              have c48 : x47.toInt = 1 := (z_eq rfl (by decide : (1 : Int32).toInt = 1)).mp c48
              refine lv_iconst (v := 0) hx hb dX9_areTold_36 (by decide) ?_
              have q52 : (0 : Int32).toInt = 0 := by decide
              exact W.zret (v := 0) hx hb hr rfl (fun t ht hW => ⟨0, rfl, by first | exact Or.inr rfl | exact Or.inl ⟨rfl, by rw [show n.toInt = v3_4.toInt by omega]; exact j0_4⟩, ht⟩) (fun q hq => by cases hq) dX9_areTold_37
        · skip
          obtain ⟨rfl, h53⟩ := hr42
          replace h53 : ¬ (0 ≤ y41.toInt ∧ y41.toInt < me.toInt) := h53
          refine lv_if_eq (tgt := 36) hx hb dX9_areTold_23 (by decide) (fun c54 => ?_) (fun c54 => ?_)
          · skip
            refine lv_iconst (v := 0) hx hb dX9_areTold_36 (by decide) ?_
            have q55 : (0 : Int32).toInt = 0 := by decide
            exact W.zret (v := 0) hx hb hr rfl (fun t ht hW => ⟨0, rfl, by first | exact Or.inr rfl | exact Or.inl ⟨rfl, by rw [show n.toInt = v3_4.toInt by omega]; exact j0_4⟩, ht⟩) (fun q hq => by cases hq) dX9_areTold_37
          · skip
            exact absurd c54 (by decide)
  have q0 : ((0 : Int32)).toInt = 0 := by decide
  have hT0 : zTp (ct 11) ((0 : Int32)).toInt me := zTp_0 (by omega)
  exact loop4 ((8 - (0 : Int32).toInt : Int).toNat + 1) (0 : Int32) (0 : Int32) ls (by omega) (by first | assumption | omega | decide) (by first | assumption | omega | decide) (by first | assumption | omega | decide) (lv_sub hl [0, 1, 2, 3] rfl)

set_option maxHeartbeats 4000000 in
set_option maxRecDepth 100000 in
theorem k_X9_book (l : Launch) (g : zG) (sz : Nat) (ad : Nat → Nat) (me : Int32) (ct : Nat → va_E) (n : Int32) (l0 : Int32) (l1 : Int32) (l2 : Int32) (l3 : Int32) (hI : IR g ad me ct) : Met l yX9_book (zW yX9_book cX9_book 8 (some .int)) ({ frames := 2, cells := 0, slots := 0, locals := 45 }) (va_Pc [.ref (ad 0), .int n, .int l0, .int l1, .int l2, .int l3] (zA g (zw 32 ad ct) sz)) (va_Qi (fun (r : Int32) (_ : Unit) => (True)) (fun _ t => ∃ ct2 : Nat → va_E, zP g (zw 32 ad ct2) t.heap ∧ va_D (va_A (zw 32 ad ct) sz) (zw 32 ad ct2) ∧ IR g ad me ct2) (va_A (zw 32 ad ct) sz)) 0 0 (va_A (zw 32 ad ct) sz) := by
  refine Met.ofW (cc := cX9_book) (maxL := 8) (ret := (some .int)) (by decide) rfl ?_
  intro p e s m args below meth c s₁ B hml hv
  obtain ⟨rfl, hsz, hP, hK, hD0, hN⟩ := hv
  have hx := B.exec
  have hb := B.bytes
  have hr := B.returns
  have hg := zW.law (atoms_spec (ws := (zW yX9_book cX9_book 8 (some .int))) B.pre)
  have hown : s.vm.findClass RX9 = some m.cls := findClass_of_methodNamed B.named
  have hlocks := B.notSynchronized
  have hpe0 := hI.1.1
  subst hsz
  have hD := hD0.self (sz := s.heap.size)
  generalize hAe : va_A (zw 32 ad ct) s.heap.size = A at hD ⊢
  have hA : ∀ q : Nat, s.heap.size ≤ q → A q := fun q h => by rw [← hAe]; exact Or.inr h
  have hS : va_S A s.heap s.heap [] := va_S.rf
  have hl := lv_entry ([.ref (ad 0), .int n, .int l0, .int l1, .int l2, .int l3]) (n := 8) (Nat.le_of_ble_eq_true rfl)
  rw [lg_entry_eq]
  generalize (lg_sl ([.ref (ad 0), .int n, .int l0, .int l1, .int l2, .int l3]) ++ List.replicate (8 - (lg_sl ([.ref (ad 0), .int n, .int l0, .int l1, .int l2, .int l3])).length) Slot.unset).toArray = ls at hl ⊢
  have hl : lv_has ls 8 [(0, .ref (ad 0)), (1, .int n), (2, .int l0), (3, .int l1), (4, .int l2), (5, .int l3)] := hl
  have rg_n := z_rng n
  have rg_l0 := z_rng l0
  have rg_l1 := z_rng l1
  have rg_l2 := z_rng l2
  have rg_l3 := z_rng l3
  refine lv_iload_n hx hb dX9_book_0 rfl (lv_at hl 1 rfl) ?_
  refine lv_iconst (v := 1) hx hb dX9_book_1 (by decide) ?_
  refine lv_bipush (v := 8) hx hb dX9_book_2 (by decide) ?_
  refine zc_i (va_runS (As := [.int n, .int 1, .int 8]) (rest := []) ⟨hx, hb, hml, hown, hg⟩ (k_X9_in l g ad me ct n (1 : Int32) (8 : Int32) hI) (va_cwS 3 hg (z_gS mm_1109 mm_1110 mm_117 mm_1111) rfl rfl rfl (by decide +kernel) ⟨Nat.le_of_ble_eq_true rfl, Nat.le_of_ble_eq_true rfl⟩) (zR.pre [.int n, .int 1, .int 8] hP hK hN) rfl rfl hl.1 rfl (lv_room (Nat.le_of_ble_eq_true rfl)) dX9_book_4 ⟨Nat.le_of_ble_eq_true rfl, Nat.le_of_ble_eq_true rfl⟩) (fun r1 hr1 => ?_)
  rcases hr1 with hr1 | hr1
  · skip
    obtain ⟨rfl, h2, h3⟩ := hr1
    replace h2 : (1 : Int) ≤ n.toInt := h2
    replace h3 : n.toInt ≤ (8 : Int) := h3
    refine lv_if_eq (tgt := 56) hx hb dX9_book_7 (by decide) (fun c4 => ?_) (fun c4 => ?_)
    · skip
      exact absurd c4 (by decide)
    · skip
      refine lv_iload_n hx hb dX9_book_10 rfl (lv_at hl 2 rfl) ?_
      refine zc_i (va_runS (As := [.int l0]) (rest := []) ⟨hx, hb, hml, hown, hg⟩ (k_X9_isLevel l g ad me ct l0 hI) (va_cwS 1 hg (z_gS mm_1152 mm_1153 mm_117 mm_1154) rfl rfl rfl (by decide +kernel) ⟨Nat.le_of_ble_eq_true rfl, Nat.le_of_ble_eq_true rfl⟩) (zR.pre [.int l0] hP hK hN) rfl rfl hl.1 rfl (lv_room (Nat.le_of_ble_eq_true rfl)) dX9_book_11 ⟨Nat.le_of_ble_eq_true rfl, Nat.le_of_ble_eq_true rfl⟩) (fun r5 hr5 => ?_)
      rcases hr5 with hr5 | hr5
      · skip
        obtain ⟨rfl, h6, h7⟩ := hr5
        replace h6 : 0 ≤ l0.toInt := h6
        replace h7 : l0.toInt ≤ 4 := h7
        refine lv_if_eq (tgt := 56) hx hb dX9_book_14 (by decide) (fun c8 => ?_) (fun c8 => ?_)
        · skip
          exact absurd c8 (by decide)
        · skip
          refine lv_iload_n hx hb dX9_book_17 rfl (lv_at hl 3 rfl) ?_
          refine zc_i (va_runS (As := [.int l1]) (rest := []) ⟨hx, hb, hml, hown, hg⟩ (k_X9_isLevel l g ad me ct l1 hI) (va_cwS 1 hg (z_gS mm_1152 mm_1153 mm_117 mm_1154) rfl rfl rfl (by decide +kernel) ⟨Nat.le_of_ble_eq_true rfl, Nat.le_of_ble_eq_true rfl⟩) (zR.pre [.int l1] hP hK hN) rfl rfl hl.1 rfl (lv_room (Nat.le_of_ble_eq_true rfl)) dX9_book_18 ⟨Nat.le_of_ble_eq_true rfl, Nat.le_of_ble_eq_true rfl⟩) (fun r9 hr9 => ?_)
          rcases hr9 with hr9 | hr9
          · skip
            obtain ⟨rfl, h10, h11⟩ := hr9
            replace h10 : 0 ≤ l1.toInt := h10
            replace h11 : l1.toInt ≤ 4 := h11
            refine lv_if_eq (tgt := 56) hx hb dX9_book_21 (by decide) (fun c12 => ?_) (fun c12 => ?_)
            · skip
              exact absurd c12 (by decide)
            · skip
              refine lv_iload hx hb dX9_book_24 (lv_at hl 4 rfl) ?_
              refine zc_i (va_runS (As := [.int l2]) (rest := []) ⟨hx, hb, hml, hown, hg⟩ (k_X9_isLevel l g ad me ct l2 hI) (va_cwS 1 hg (z_gS mm_1152 mm_1153 mm_117 mm_1154) rfl rfl rfl (by decide +kernel) ⟨Nat.le_of_ble_eq_true rfl, Nat.le_of_ble_eq_true rfl⟩) (zR.pre [.int l2] hP hK hN) rfl rfl hl.1 rfl (lv_room (Nat.le_of_ble_eq_true rfl)) dX9_book_26 ⟨Nat.le_of_ble_eq_true rfl, Nat.le_of_ble_eq_true rfl⟩) (fun r13 hr13 => ?_)
              rcases hr13 with hr13 | hr13
              · skip
                obtain ⟨rfl, h14, h15⟩ := hr13
                replace h14 : 0 ≤ l2.toInt := h14
                replace h15 : l2.toInt ≤ 4 := h15
                refine lv_if_eq (tgt := 56) hx hb dX9_book_29 (by decide) (fun c16 => ?_) (fun c16 => ?_)
                · skip
                  exact absurd c16 (by decide)
                · skip
                  refine lv_iload hx hb dX9_book_32 (lv_at hl 5 rfl) ?_
                  refine zc_i (va_runS (As := [.int l3]) (rest := []) ⟨hx, hb, hml, hown, hg⟩ (k_X9_isLevel l g ad me ct l3 hI) (va_cwS 1 hg (z_gS mm_1152 mm_1153 mm_117 mm_1154) rfl rfl rfl (by decide +kernel) ⟨Nat.le_of_ble_eq_true rfl, Nat.le_of_ble_eq_true rfl⟩) (zR.pre [.int l3] hP hK hN) rfl rfl hl.1 rfl (lv_room (Nat.le_of_ble_eq_true rfl)) dX9_book_34 ⟨Nat.le_of_ble_eq_true rfl, Nat.le_of_ble_eq_true rfl⟩) (fun r17 hr17 => ?_)
                  rcases hr17 with hr17 | hr17
                  · skip
                    obtain ⟨rfl, h18, h19⟩ := hr17
                    replace h18 : 0 ≤ l3.toInt := h18
                    replace h19 : l3.toInt ≤ 4 := h19
                    refine lv_if_eq (tgt := 56) hx hb dX9_book_37 (by decide) (fun c20 => ?_) (fun c20 => ?_)
                    · skip
                      exact absurd c20 (by decide)
                    · skip
                      refine lv_aload_n hx hb dX9_book_40 rfl (lv_at hl 0 rfl) ?_
                      obtain ⟨bks22, lks23, gos24, shn25, tpd26, pl027, ln028, flt29, opn30, cmy31, wtg32, nm033, mst34, sus35, cut36, h37, h38, h39, h40, h41, h42, h43, h44, h45, h46, h47, h48, h49, h50, h51, h52, h53, h54, h55, h56, hs21⟩ := a9_0 hI.1
                      refine va_get (D := g.1) (ci := 9) (v := .int bks22) (C := RX9) (T := TX9) (N := 47) hx hb hg inG9 hown hK hP 0 (zw_at (by omega) hs21) rfl 5 (by decide) (hg _ mm_963) (fun _ h9 => h9) rfl dX9_book_41 ?_
                      refine lv_iconst (v := 4) hx hb dX9_book_44 (by decide) ?_
                      refine lv_icmp_eq (tgt := 56) hx hb dX9_book_45 (by decide) (fun c57 => ?_) (fun c57 => ?_)
                      · skip
                        have c57 : bks22.toInt = 4 := (z_eq rfl (by decide : (4 : Int32).toInt = 4)).mp c57
                        refine lv_iconst (v := (-1)) hx hb dX9_book_56 (by decide) ?_
                        have q58 : ((-1) : Int32).toInt = -1 := by decide
                        exact W.iret (v := (-1)) hx hb hr (fun t ht hW => ⟨⟨(-1), (), rfl, trivial, ct, by rw [ht]; exact hP, hD, hI⟩, hS.F ht⟩) hS.2.2 dX9_book_57
                      · skip
                        have c57 : ¬ (bks22.toInt = 4) := fun q => c57 ((z_eq rfl (by decide : (4 : Int32).toInt = 4)).mpr q)
                        refine lv_iload_n hx hb dX9_book_48 rfl (lv_at hl 1 rfl) ?_
                        refine lv_aload_n hx hb dX9_book_49 rfl (lv_at hl 0 rfl) ?_
                        refine va_get (D := g.1) (ci := 9) (v := .int tpd26) (C := RX9) (T := TX9) (N := 47) hx hb hg inG9 hown hK hP 0 (zw_at (by omega) hs21) rfl 16 (by decide) (hg _ mm_974) (fun _ h9 => h9) rfl dX9_book_50 ?_
                        refine lv_icmp_le (tgt := 58) hx hb dX9_book_53 (by decide) (fun c59 => ?_) (fun c59 => ?_)
                        · skip
                          have c59 : n.toInt ≤ tpd26.toInt := (z_le rfl rfl).mp c59
                          refine lv_aload_n hx hb dX9_book_58 rfl (lv_at hl 0 rfl) ?_
                          refine lv_iconst (v := 0) hx hb dX9_book_59 (by decide) ?_
                          refine va_put (D := g.1) (ci := 9) (v := .int 0) (ty := .int) (C := RX9) (T := TX9) (N := 47) hx hb hg inG9 tyX9 tyX9_ok nmX9 hown hK hP hD hS 0 (zw_at (by omega) hs21) rfl 16 (by decide) (hg _ mm_974) (fun _ h9 => h9) rfl (by decide +kernel) rfl rfl (Nat.le_of_ble_eq_true rfl) dX9_book_60 (fun H locs hP hD hS => ?_)
                          have hP : zP g ((zw 32 ad ct).set 0 (ad 0, .inr (9, [.int me, .ref (ad 1), .ref (ad 2), .ref (ad 3), .ref (ad 4), .int bks22, .int lks23, .int gos24, .int shn25, .ref (ad 5), .ref (ad 6), .ref (ad 7), .ref (ad 8), .ref (ad 9), .ref (ad 10), .ref (ad 11), .int 0, .int pl027, .int ln028, .int flt29, .int opn30, .int cmy31, .int wtg32, .int nm033, .ref (ad 12), .ref (ad 13), .ref (ad 14), .ref (ad 15), .ref (ad 16), .ref (ad 17), .ref (ad 18), .ref (ad 19), .ref (ad 20), .ref (ad 21), .ref (ad 22), .ref (ad 23), .ref (ad 24), .ref (ad 25), .ref (ad 26), .ref (ad 27), .int mst34, .int sus35, .ref (ad 28), .ref (ad 29), .ref (ad 30), .ref (ad 31), .int cut36]))) H := hP
                          have hD : va_D A ((zw 32 ad ct).set 0 (ad 0, .inr (9, [.int me, .ref (ad 1), .ref (ad 2), .ref (ad 3), .ref (ad 4), .int bks22, .int lks23, .int gos24, .int shn25, .ref (ad 5), .ref (ad 6), .ref (ad 7), .ref (ad 8), .ref (ad 9), .ref (ad 10), .ref (ad 11), .int 0, .int pl027, .int ln028, .int flt29, .int opn30, .int cmy31, .int wtg32, .int nm033, .ref (ad 12), .ref (ad 13), .ref (ad 14), .ref (ad 15), .ref (ad 16), .ref (ad 17), .ref (ad 18), .ref (ad 19), .ref (ad 20), .ref (ad 21), .ref (ad 22), .ref (ad 23), .ref (ad 24), .ref (ad 25), .ref (ad 26), .ref (ad 27), .int mst34, .int sus35, .ref (ad 28), .ref (ad 29), .ref (ad 30), .ref (ad 31), .int cut36]))) := hD
                          rw [zw_set (by omega)] at hP hD
                          obtain ⟨ct60, ec61⟩ : ∃ z : Nat → va_E, z = va_up ct 0 (.inr (9, [.int me, .ref (ad 1), .ref (ad 2), .ref (ad 3), .ref (ad 4), .int bks22, .int lks23, .int gos24, .int shn25, .ref (ad 5), .ref (ad 6), .ref (ad 7), .ref (ad 8), .ref (ad 9), .ref (ad 10), .ref (ad 11), .int 0, .int pl027, .int ln028, .int flt29, .int opn30, .int cmy31, .int wtg32, .int nm033, .ref (ad 12), .ref (ad 13), .ref (ad 14), .ref (ad 15), .ref (ad 16), .ref (ad 17), .ref (ad 18), .ref (ad 19), .ref (ad 20), .ref (ad 21), .ref (ad 22), .ref (ad 23), .ref (ad 24), .ref (ad 25), .ref (ad 26), .ref (ad 27), .int mst34, .int sus35, .ref (ad 28), .ref (ad 29), .ref (ad 30), .ref (ad 31), .int cut36])) := ⟨_, rfl⟩
                          rw [← ec61] at hP hD
                          have hI : IR g ad me ct60 := by rw [ec61]; exact upR hI (by decide) (i9_0 ⟨(bks22 : Int32), (lks23 : Int32), (gos24 : Int32), (shn25 : Int32), (0 : Int32), (pl027 : Int32), (ln028 : Int32), (flt29 : Int32), (opn30 : Int32), (cmy31 : Int32), (wtg32 : Int32), (nm033 : Int32), (mst34 : Int32), (sus35 : Int32), (cut36 : Int32), (by first | omega | decide), (by first | omega | decide), (by first | omega | decide), (by first | omega | decide), (by first | omega | decide), (by first | omega | decide), (by first | omega | decide), (by first | omega | decide), (by first | omega | decide), (by first | omega | decide), (by first | omega | decide), (by first | omega | decide), (by first | omega | decide), (by first | omega | decide), (by first | omega | decide), (by first | omega | decide), (by first | omega | decide), (by first | omega | decide), (by first | omega | decide), (by first | omega | decide), rfl⟩)
                          have hs62 : ct60 0 = .inr (9, [.int me, .ref (ad 1), .ref (ad 2), .ref (ad 3), .ref (ad 4), .int bks22, .int lks23, .int gos24, .int shn25, .ref (ad 5), .ref (ad 6), .ref (ad 7), .ref (ad 8), .ref (ad 9), .ref (ad 10), .ref (ad 11), .int 0, .int pl027, .int ln028, .int flt29, .int opn30, .int cmy31, .int wtg32, .int nm033, .ref (ad 12), .ref (ad 13), .ref (ad 14), .ref (ad 15), .ref (ad 16), .ref (ad 17), .ref (ad 18), .ref (ad 19), .ref (ad 20), .ref (ad 21), .ref (ad 22), .ref (ad 23), .ref (ad 24), .ref (ad 25), .ref (ad 26), .ref (ad 27), .int mst34, .int sus35, .ref (ad 28), .ref (ad 29), .ref (ad 30), .ref (ad 31), .int cut36]) := by rw [ec61]; exact va_up_self _ _ _
                          refine lv_aload_n hx hb dX9_book_63 rfl (lv_at hl 0 rfl) ?_
                          refine lv_iload_n hx hb dX9_book_64 rfl (lv_at hl 1 rfl) ?_
                          refine zc_i (va_runV (As := [.int n]) (rest := []) ⟨hx, hb, hml, hown, hg⟩ (k_X9_areTold l g ad me ct60 n (by first | omega | decide) hI) (cwV 1 hg (z_gV mm_1155 mm_1157 mm_55 mm_117 mm_1158) rfl rfl rfl (by decide +kernel) ⟨Nat.le_of_ble_eq_true rfl, Nat.le_of_ble_eq_true rfl⟩) ⟨(zR.pre [.ref (ad 0), .int n] hP hK hN).1, va_recv hK hP (ci := 9) (q0 := 0) rfl (zw_at (by omega) hs62), (zR.pre [.ref (ad 0), .int n] hP hK hN).2⟩ rfl rfl hl.1 rfl (lv_room (Nat.le_of_ble_eq_true rfl)) dX9_book_65 ⟨Nat.le_of_ble_eq_true rfl, Nat.le_of_ble_eq_true rfl⟩) (fun r63 hr63 => ?_)
                          rcases hr63 with hr63 | hr63
                          · skip
                            obtain ⟨rfl, h64⟩ := hr63
                            replace h64 : zTp (ct60 11) n.toInt me := h64
                            refine lv_if_ne (tgt := 74) hx hb dX9_book_68 (by decide) (fun c65 => ?_) (fun c65 => ?_)
                            · skip
                              obtain ⟨f67, hs66⟩ := a9_11 hI.1
                              have hTold := h64
                              rw [hs66] at hTold
                              refine lv_iconst (v := 0) hx hb dX9_book_74 (by decide) ?_
                              refine lv_istore (lv' := [(6, .int 0), (0, .ref (ad 0)), (1, .int n), (2, .int l0), (3, .int l1), (4, .int l2), (5, .int l3)]) hx hb dX9_book_75 hl (by decide) rfl (fun ls hl => ?_)
                              have loop77 : ∀ (n77 : Nat) (v6_77 : Int32) (ct68 : Nat → va_E) (H : Heap) (locs : List Loc) (ls : Array Slot), ((8 - v6_77.toInt : Int).toNat < n77) → (0 ≤ v6_77.toInt ∧ v6_77.toInt ≤ 8) → (ct68 0 = .inr (9, [.int me, .ref (ad 1), .ref (ad 2), .ref (ad 3), .ref (ad 4), .int bks22, .int lks23, .int gos24, .int shn25, .ref (ad 5), .ref (ad 6), .ref (ad 7), .ref (ad 8), .ref (ad 9), .ref (ad 10), .ref (ad 11), .int 0, .int pl027, .int ln028, .int flt29, .int opn30, .int cmy31, .int wtg32, .int nm033, .ref (ad 12), .ref (ad 13), .ref (ad 14), .ref (ad 15), .ref (ad 16), .ref (ad 17), .ref (ad 18), .ref (ad 19), .ref (ad 20), .ref (ad 21), .ref (ad 22), .ref (ad 23), .ref (ad 24), .ref (ad 25), .ref (ad 26), .ref (ad 27), .int mst34, .int sus35, .ref (ad 28), .ref (ad 29), .ref (ad 30), .ref (ad 31), .int cut36])) → (ct68 11 = .inl (g.2 2, 200, .inl f67)) → (IR g ad me ct68) → zP g (zw 32 ad ct68) H → va_D A (zw 32 ad ct68) → va_S A s.heap H locs → lv_has ls 8 [(6, .int v6_77), (0, .ref (ad 0)), (1, .int n), (2, .int l0), (3, .int l1), (4, .int l2), (5, .int l3)] → W p l e (headSpec (zW yX9_book cX9_book 8 (some .int)) ({ frames := 2, cells := 0, slots := 0, locals := 45 })).room s m ([.ref (ad 0), .int n, .int l0, .int l1, .int l2, .int l3] : List Value).toArray below meth c H locs 0 0 (MQ below (va_Qi (fun (r : Int32) (_ : Unit) => (True)) (fun _ t => ∃ ct2 : Nat → va_E, zP g (zw 32 ad ct2) t.heap ∧ va_D A (zw 32 ad ct2) ∧ IR g ad me ct2) A) ([.ref (ad 0), .int n, .int l0, .int l1, .int l2, .int l3] : List Value).toArray s 0 0 A) (F0 m 77 ls []) := by
                                intro n77
                                induction n77 with
                                | zero =>
                                  intro v6_77 ct68 H locs ls hn77 b6_77 kp0_77 kp11_77 hI hP hD hS hl
                                  exact absurd hn77 (Nat.not_lt_zero _)
                                | succ n77 ih77 =>
                                  intro v6_77 ct68 H locs ls hn77 b6_77 kp0_77 kp11_77 hI hP hD hS hl
                                  refine lv_iload hx hb dX9_book_77 (lv_at hl 0 rfl) ?_
                                  refine lv_iload_n hx hb dX9_book_79 rfl (lv_at hl 2 rfl) ?_
                                  refine lv_icmp_ge (tgt := 267) hx hb dX9_book_80 (by decide) (fun c69 => ?_) (fun c69 => ?_)
                                  · skip
                                    have c69 : n.toInt ≤ v6_77.toInt := (z_le rfl rfl).mp c69
                                    refine lv_aload_n hx hb dX9_book_267 rfl (lv_at hl 1 rfl) ?_
                                    refine va_get (D := g.1) (ci := 9) (v := .ref (ad 5)) (C := RX9) (T := TX9) (N := 47) hx hb hg inG9 hown hK hP 0 (zw_at (by omega) kp0_77) rfl 9 (by decide) (hg _ mm_967) (fun _ h9 => h9) rfl dX9_book_268 ?_
                                    refine lv_aload_n hx hb dX9_book_271 rfl (lv_at hl 1 rfl) ?_
                                    refine va_get (D := g.1) (ci := 9) (v := .int bks22) (C := RX9) (T := TX9) (N := 47) hx hb hg inG9 hown hK hP 0 (zw_at (by omega) kp0_77) rfl 5 (by decide) (hg _ mm_963) (fun _ h9 => h9) rfl dX9_book_272 ?_
                                    refine lv_iload_n hx hb dX9_book_275 rfl (lv_at hl 2 rfl) ?_
                                    obtain ⟨f71, hp72, hs70⟩ := a9_5 hI.1
                                    refine va_iast hx hb hK hP hD hS 5 0 (zw_at (by omega) hs70) rfl (z_in rfl (by omega) (by omega)) dX9_book_276 (fun H locs hP hD hS => ?_)
                                    have hp74 : ∀ j : Nat, j < 4 → (fun x : Int32 => 0 ≤ x.toInt ∧ x.toInt ≤ 8) ((upd f71 (Int32.toNatClampNeg bks22) n) j) := fun j hj => by
                                      unfold upd
                                      by_cases q : j = Int32.toNatClampNeg bks22
                                      · rw [if_pos q]; exact (show 0 ≤ (n : Int32).toInt ∧ (n : Int32).toInt ≤ 8 from (by first | omega | decide))
                                      · rw [if_neg q]; exact hp72 j hj
                                    have hP : zP g ((zw 32 ad ct68).set 5 (ad 5, .inl (g.2 0, 4, .inl (upd f71 (Int32.toNatClampNeg bks22) n)))) H := hP
                                    have hD : va_D A ((zw 32 ad ct68).set 5 (ad 5, .inl (g.2 0, 4, .inl (upd f71 (Int32.toNatClampNeg bks22) n)))) := hD
                                    rw [zw_set (by omega)] at hP hD
                                    obtain ⟨ct75, ec76⟩ : ∃ z : Nat → va_E, z = va_up ct68 5 (.inl (g.2 0, 4, .inl (upd f71 (Int32.toNatClampNeg bks22) n))) := ⟨_, rfl⟩
                                    rw [← ec76] at hP hD
                                    have hI : IR g ad me ct75 := by rw [ec76]; exact upR hI (by decide) (i9_5 ⟨_, hp74, rfl⟩)
                                    have hs77 : ct75 0 = .inr (9, [.int me, .ref (ad 1), .ref (ad 2), .ref (ad 3), .ref (ad 4), .int bks22, .int lks23, .int gos24, .int shn25, .ref (ad 5), .ref (ad 6), .ref (ad 7), .ref (ad 8), .ref (ad 9), .ref (ad 10), .ref (ad 11), .int 0, .int pl027, .int ln028, .int flt29, .int opn30, .int cmy31, .int wtg32, .int nm033, .ref (ad 12), .ref (ad 13), .ref (ad 14), .ref (ad 15), .ref (ad 16), .ref (ad 17), .ref (ad 18), .ref (ad 19), .ref (ad 20), .ref (ad 21), .ref (ad 22), .ref (ad 23), .ref (ad 24), .ref (ad 25), .ref (ad 26), .ref (ad 27), .int mst34, .int sus35, .ref (ad 28), .ref (ad 29), .ref (ad 30), .ref (ad 31), .int cut36]) := by rw [ec76, va_up_ne _ _ (by omega)]; exact kp0_77
                                    have hs78 : ct75 11 = .inl (g.2 2, 200, .inl f67) := by rw [ec76, va_up_ne _ _ (by omega)]; exact kp11_77
                                    have hs79 : ct75 5 = .inl (g.2 0, 4, .inl (upd f71 (Int32.toNatClampNeg bks22) n)) := by rw [ec76]; exact va_up_self _ _ _
                                    refine lv_aload_n hx hb dX9_book_277 rfl (lv_at hl 1 rfl) ?_
                                    refine lv_aload_n hx hb dX9_book_278 rfl (lv_at hl 1 rfl) ?_
                                    refine va_get (D := g.1) (ci := 9) (v := .int shn25) (C := RX9) (T := TX9) (N := 47) hx hb hg inG9 hown hK hP 0 (zw_at (by omega) hs77) rfl 8 (by decide) (hg _ mm_966) (fun _ h9 => h9) rfl dX9_book_279 ?_
                                    refine lv_iconst (v := 1) hx hb dX9_book_282 (by decide) ?_
                                    refine lv_aload_n hx hb dX9_book_283 rfl (lv_at hl 1 rfl) ?_
                                    refine va_get (D := g.1) (ci := 9) (v := .int bks22) (C := RX9) (T := TX9) (N := 47) hx hb hg inG9 hown hK hP 0 (zw_at (by omega) hs77) rfl 5 (by decide) (hg _ mm_963) (fun _ h9 => h9) rfl dX9_book_284 ?_
                                    refine lv_ishl hx hb dX9_book_287 ?_
                                    refine lv_topi (fun x80 ex80 => ?_)
                                    have tx80 := z_shl1 (y := bks22) rfl (by omega) (k := 3) (by decide) (by omega)
                                    rw [← ex80] at tx80
                                    refine lv_ior hx hb dX9_book_288 ?_
                                    refine lv_topi (fun x81 ex81 => ?_)
                                    have tx81 := z_or (x := shn25) (y := x80) rfl rfl (k := 4) (N := 16) (by decide) (by decide) (by omega) (by omega) (by omega) (by omega)
                                    rw [← ex81] at tx81
                                    refine va_put (D := g.1) (ci := 9) (v := .int x81) (ty := .int) (C := RX9) (T := TX9) (N := 47) hx hb hg inG9 tyX9 tyX9_ok nmX9 hown hK hP hD hS 0 (zw_at (by omega) hs77) rfl 8 (by decide) (hg _ mm_966) (fun _ h9 => h9) rfl (by decide +kernel) rfl rfl (Nat.le_of_ble_eq_true rfl) dX9_book_289 (fun H locs hP hD hS => ?_)
                                    have hP : zP g ((zw 32 ad ct75).set 0 (ad 0, .inr (9, [.int me, .ref (ad 1), .ref (ad 2), .ref (ad 3), .ref (ad 4), .int bks22, .int lks23, .int gos24, .int x81, .ref (ad 5), .ref (ad 6), .ref (ad 7), .ref (ad 8), .ref (ad 9), .ref (ad 10), .ref (ad 11), .int 0, .int pl027, .int ln028, .int flt29, .int opn30, .int cmy31, .int wtg32, .int nm033, .ref (ad 12), .ref (ad 13), .ref (ad 14), .ref (ad 15), .ref (ad 16), .ref (ad 17), .ref (ad 18), .ref (ad 19), .ref (ad 20), .ref (ad 21), .ref (ad 22), .ref (ad 23), .ref (ad 24), .ref (ad 25), .ref (ad 26), .ref (ad 27), .int mst34, .int sus35, .ref (ad 28), .ref (ad 29), .ref (ad 30), .ref (ad 31), .int cut36]))) H := hP
                                    have hD : va_D A ((zw 32 ad ct75).set 0 (ad 0, .inr (9, [.int me, .ref (ad 1), .ref (ad 2), .ref (ad 3), .ref (ad 4), .int bks22, .int lks23, .int gos24, .int x81, .ref (ad 5), .ref (ad 6), .ref (ad 7), .ref (ad 8), .ref (ad 9), .ref (ad 10), .ref (ad 11), .int 0, .int pl027, .int ln028, .int flt29, .int opn30, .int cmy31, .int wtg32, .int nm033, .ref (ad 12), .ref (ad 13), .ref (ad 14), .ref (ad 15), .ref (ad 16), .ref (ad 17), .ref (ad 18), .ref (ad 19), .ref (ad 20), .ref (ad 21), .ref (ad 22), .ref (ad 23), .ref (ad 24), .ref (ad 25), .ref (ad 26), .ref (ad 27), .int mst34, .int sus35, .ref (ad 28), .ref (ad 29), .ref (ad 30), .ref (ad 31), .int cut36]))) := hD
                                    rw [zw_set (by omega)] at hP hD
                                    obtain ⟨ct82, ec83⟩ : ∃ z : Nat → va_E, z = va_up ct75 0 (.inr (9, [.int me, .ref (ad 1), .ref (ad 2), .ref (ad 3), .ref (ad 4), .int bks22, .int lks23, .int gos24, .int x81, .ref (ad 5), .ref (ad 6), .ref (ad 7), .ref (ad 8), .ref (ad 9), .ref (ad 10), .ref (ad 11), .int 0, .int pl027, .int ln028, .int flt29, .int opn30, .int cmy31, .int wtg32, .int nm033, .ref (ad 12), .ref (ad 13), .ref (ad 14), .ref (ad 15), .ref (ad 16), .ref (ad 17), .ref (ad 18), .ref (ad 19), .ref (ad 20), .ref (ad 21), .ref (ad 22), .ref (ad 23), .ref (ad 24), .ref (ad 25), .ref (ad 26), .ref (ad 27), .int mst34, .int sus35, .ref (ad 28), .ref (ad 29), .ref (ad 30), .ref (ad 31), .int cut36])) := ⟨_, rfl⟩
                                    rw [← ec83] at hP hD
                                    have hI : IR g ad me ct82 := by rw [ec83]; exact upR hI (by decide) (i9_0 ⟨(bks22 : Int32), (lks23 : Int32), (gos24 : Int32), (x81 : Int32), (0 : Int32), (pl027 : Int32), (ln028 : Int32), (flt29 : Int32), (opn30 : Int32), (cmy31 : Int32), (wtg32 : Int32), (nm033 : Int32), (mst34 : Int32), (sus35 : Int32), (cut36 : Int32), (by first | omega | decide), (by first | omega | decide), (by first | omega | decide), (by first | omega | decide), (by first | omega | decide), (by first | omega | decide), (by first | omega | decide), (by first | omega | decide), (by first | omega | decide), (by first | omega | decide), (by first | omega | decide), (by first | omega | decide), (by first | omega | decide), (by first | omega | decide), (by first | omega | decide), (by first | omega | decide), (by first | omega | decide), (by first | omega | decide), (by first | omega | decide), (by first | omega | decide), rfl⟩)
                                    have hs84 : ct82 11 = .inl (g.2 2, 200, .inl f67) := by rw [ec83, va_up_ne _ _ (by omega)]; exact hs78
                                    have hs85 : ct82 5 = .inl (g.2 0, 4, .inl (upd f71 (Int32.toNatClampNeg bks22) n)) := by rw [ec83, va_up_ne _ _ (by omega)]; exact hs79
                                    have hs86 : ct82 0 = .inr (9, [.int me, .ref (ad 1), .ref (ad 2), .ref (ad 3), .ref (ad 4), .int bks22, .int lks23, .int gos24, .int x81, .ref (ad 5), .ref (ad 6), .ref (ad 7), .ref (ad 8), .ref (ad 9), .ref (ad 10), .ref (ad 11), .int 0, .int pl027, .int ln028, .int flt29, .int opn30, .int cmy31, .int wtg32, .int nm033, .ref (ad 12), .ref (ad 13), .ref (ad 14), .ref (ad 15), .ref (ad 16), .ref (ad 17), .ref (ad 18), .ref (ad 19), .ref (ad 20), .ref (ad 21), .ref (ad 22), .ref (ad 23), .ref (ad 24), .ref (ad 25), .ref (ad 26), .ref (ad 27), .int mst34, .int sus35, .ref (ad 28), .ref (ad 29), .ref (ad 30), .ref (ad 31), .int cut36]) := by rw [ec83]; exact va_up_self _ _ _
                                    refine lv_aload_n hx hb dX9_book_292 rfl (lv_at hl 1 rfl) ?_
                                    refine lv_aload_n hx hb dX9_book_293 rfl (lv_at hl 1 rfl) ?_
                                    refine va_get (D := g.1) (ci := 9) (v := .int bks22) (C := RX9) (T := TX9) (N := 47) hx hb hg inG9 hown hK hP 0 (zw_at (by omega) hs86) rfl 5 (by decide) (hg _ mm_963) (fun _ h9 => h9) rfl dX9_book_294 ?_
                                    refine lv_iconst (v := 1) hx hb dX9_book_297 (by decide) ?_
                                    refine lv_iadd hx hb dX9_book_298 ?_
                                    refine lv_topi (fun x87 ex87 => ?_)
                                    have tx87 : x87.toInt = bks22.toInt + 1 := by rw [ex87]; exact z_add rfl (by decide : (1 : Int32).toInt = 1) (by omega) (by omega)
                                    refine va_put (D := g.1) (ci := 9) (v := .int x87) (ty := .int) (C := RX9) (T := TX9) (N := 47) hx hb hg inG9 tyX9 tyX9_ok nmX9 hown hK hP hD hS 0 (zw_at (by omega) hs86) rfl 5 (by decide) (hg _ mm_963) (fun _ h9 => h9) rfl (by decide +kernel) rfl rfl (Nat.le_of_ble_eq_true rfl) dX9_book_299 (fun H locs hP hD hS => ?_)
                                    have hP : zP g ((zw 32 ad ct82).set 0 (ad 0, .inr (9, [.int me, .ref (ad 1), .ref (ad 2), .ref (ad 3), .ref (ad 4), .int x87, .int lks23, .int gos24, .int x81, .ref (ad 5), .ref (ad 6), .ref (ad 7), .ref (ad 8), .ref (ad 9), .ref (ad 10), .ref (ad 11), .int 0, .int pl027, .int ln028, .int flt29, .int opn30, .int cmy31, .int wtg32, .int nm033, .ref (ad 12), .ref (ad 13), .ref (ad 14), .ref (ad 15), .ref (ad 16), .ref (ad 17), .ref (ad 18), .ref (ad 19), .ref (ad 20), .ref (ad 21), .ref (ad 22), .ref (ad 23), .ref (ad 24), .ref (ad 25), .ref (ad 26), .ref (ad 27), .int mst34, .int sus35, .ref (ad 28), .ref (ad 29), .ref (ad 30), .ref (ad 31), .int cut36]))) H := hP
                                    have hD : va_D A ((zw 32 ad ct82).set 0 (ad 0, .inr (9, [.int me, .ref (ad 1), .ref (ad 2), .ref (ad 3), .ref (ad 4), .int x87, .int lks23, .int gos24, .int x81, .ref (ad 5), .ref (ad 6), .ref (ad 7), .ref (ad 8), .ref (ad 9), .ref (ad 10), .ref (ad 11), .int 0, .int pl027, .int ln028, .int flt29, .int opn30, .int cmy31, .int wtg32, .int nm033, .ref (ad 12), .ref (ad 13), .ref (ad 14), .ref (ad 15), .ref (ad 16), .ref (ad 17), .ref (ad 18), .ref (ad 19), .ref (ad 20), .ref (ad 21), .ref (ad 22), .ref (ad 23), .ref (ad 24), .ref (ad 25), .ref (ad 26), .ref (ad 27), .int mst34, .int sus35, .ref (ad 28), .ref (ad 29), .ref (ad 30), .ref (ad 31), .int cut36]))) := hD
                                    rw [zw_set (by omega)] at hP hD
                                    obtain ⟨ct88, ec89⟩ : ∃ z : Nat → va_E, z = va_up ct82 0 (.inr (9, [.int me, .ref (ad 1), .ref (ad 2), .ref (ad 3), .ref (ad 4), .int x87, .int lks23, .int gos24, .int x81, .ref (ad 5), .ref (ad 6), .ref (ad 7), .ref (ad 8), .ref (ad 9), .ref (ad 10), .ref (ad 11), .int 0, .int pl027, .int ln028, .int flt29, .int opn30, .int cmy31, .int wtg32, .int nm033, .ref (ad 12), .ref (ad 13), .ref (ad 14), .ref (ad 15), .ref (ad 16), .ref (ad 17), .ref (ad 18), .ref (ad 19), .ref (ad 20), .ref (ad 21), .ref (ad 22), .ref (ad 23), .ref (ad 24), .ref (ad 25), .ref (ad 26), .ref (ad 27), .int mst34, .int sus35, .ref (ad 28), .ref (ad 29), .ref (ad 30), .ref (ad 31), .int cut36])) := ⟨_, rfl⟩
                                    rw [← ec89] at hP hD
                                    have hI : IR g ad me ct88 := by rw [ec89]; exact upR hI (by decide) (i9_0 ⟨(x87 : Int32), (lks23 : Int32), (gos24 : Int32), (x81 : Int32), (0 : Int32), (pl027 : Int32), (ln028 : Int32), (flt29 : Int32), (opn30 : Int32), (cmy31 : Int32), (wtg32 : Int32), (nm033 : Int32), (mst34 : Int32), (sus35 : Int32), (cut36 : Int32), (by first | omega | decide), (by first | omega | decide), (by first | omega | decide), (by first | omega | decide), (by first | omega | decide), (by first | omega | decide), (by first | omega | decide), (by first | omega | decide), (by first | omega | decide), (by first | omega | decide), (by first | omega | decide), (by first | omega | decide), (by first | omega | decide), (by first | omega | decide), (by first | omega | decide), (by first | omega | decide), (by first | omega | decide), (by first | omega | decide), (by first | omega | decide), (by first | omega | decide), rfl⟩)
                                    have hs90 : ct88 11 = .inl (g.2 2, 200, .inl f67) := by rw [ec89, va_up_ne _ _ (by omega)]; exact hs84
                                    have hs91 : ct88 5 = .inl (g.2 0, 4, .inl (upd f71 (Int32.toNatClampNeg bks22) n)) := by rw [ec89, va_up_ne _ _ (by omega)]; exact hs85
                                    have hs92 : ct88 0 = .inr (9, [.int me, .ref (ad 1), .ref (ad 2), .ref (ad 3), .ref (ad 4), .int x87, .int lks23, .int gos24, .int x81, .ref (ad 5), .ref (ad 6), .ref (ad 7), .ref (ad 8), .ref (ad 9), .ref (ad 10), .ref (ad 11), .int 0, .int pl027, .int ln028, .int flt29, .int opn30, .int cmy31, .int wtg32, .int nm033, .ref (ad 12), .ref (ad 13), .ref (ad 14), .ref (ad 15), .ref (ad 16), .ref (ad 17), .ref (ad 18), .ref (ad 19), .ref (ad 20), .ref (ad 21), .ref (ad 22), .ref (ad 23), .ref (ad 24), .ref (ad 25), .ref (ad 26), .ref (ad 27), .int mst34, .int sus35, .ref (ad 28), .ref (ad 29), .ref (ad 30), .ref (ad 31), .int cut36]) := by rw [ec89]; exact va_up_self _ _ _
                                    refine lv_aload_n hx hb dX9_book_302 rfl (lv_at hl 1 rfl) ?_
                                    refine va_get (D := g.1) (ci := 9) (v := .int x87) (C := RX9) (T := TX9) (N := 47) hx hb hg inG9 hown hK hP 0 (zw_at (by omega) hs92) rfl 5 (by decide) (hg _ mm_963) (fun _ h9 => h9) rfl dX9_book_303 ?_
                                    refine lv_iconst (v := 1) hx hb dX9_book_306 (by decide) ?_
                                    refine lv_isub hx hb dX9_book_307 ?_
                                    refine lv_topi (fun x93 ex93 => ?_)
                                    have tx93 : x93.toInt = x87.toInt - 1 := by rw [ex93]; exact z_sub rfl (by decide : (1 : Int32).toInt = 1) (by omega) (by omega)
                                    exact W.iret (v := x93) hx hb hr (fun t ht hW => ⟨⟨x93, (), rfl, trivial, ct88, by rw [ht]; exact hP, hD, hI⟩, hS.F ht⟩) hS.2.2 dX9_book_308
                                  · skip
                                    have c69 : ¬ (n.toInt ≤ v6_77.toInt) := fun q => c69 ((z_le rfl rfl).mpr q)
                                    refine lv_aload_n hx hb dX9_book_83 rfl (lv_at hl 1 rfl) ?_
                                    refine va_get (D := g.1) (ci := 9) (v := .ref (ad 11)) (C := RX9) (T := TX9) (N := 47) hx hb hg inG9 hown hK hP 0 (zw_at (by omega) kp0_77) rfl 15 (by decide) (hg _ mm_973) (fun _ h9 => h9) rfl dX9_book_84 ?_
                                    refine lv_iload hx hb dX9_book_87 (lv_at hl 0 rfl) ?_
                                    refine va_bald hx hb hK hP 11 2 (zw_at (by omega) kp11_77) rfl (z_in rfl (by omega) (by omega)) dX9_book_89 ?_
                                    refine lv_topi (fun y94 ey94 => ?_)
                                    have hyy94 := zTp_use kp11_77 (show zTp (ct68 11) n.toInt me by rw [kp11_77]; exact hTold) (by omega) (by omega) ey94
                                    refine lv_istore (lv' := [(7, .int y94), (6, .int v6_77), (0, .ref (ad 0)), (1, .int n), (2, .int l0), (3, .int l1), (4, .int l2), (5, .int l3)]) hx hb dX9_book_90 hl (by decide) rfl (fun ls hl => ?_)
                                    refine lv_aload_n hx hb dX9_book_92 rfl (lv_at hl 2 rfl) ?_
                                    refine va_get (D := g.1) (ci := 9) (v := .ref (ad 6)) (C := RX9) (T := TX9) (N := 47) hx hb hg inG9 hown hK hP 0 (zw_at (by omega) kp0_77) rfl 10 (by decide) (hg _ mm_968) (fun _ h9 => h9) rfl dX9_book_93 ?_
                                    refine lv_aload_n hx hb dX9_book_96 rfl (lv_at hl 2 rfl) ?_
                                    refine va_get (D := g.1) (ci := 9) (v := .int bks22) (C := RX9) (T := TX9) (N := 47) hx hb hg inG9 hown hK hP 0 (zw_at (by omega) kp0_77) rfl 5 (by decide) (hg _ mm_963) (fun _ h9 => h9) rfl dX9_book_97 ?_
                                    refine lv_iload hx hb dX9_book_100 (lv_at hl 1 rfl) ?_
                                    refine zc_i (va_runS (As := [.int bks22, .int v6_77]) (rest := [.ref (ad 6)]) ⟨hx, hb, hml, hown, hg⟩ (k_X9_at l g ad me ct68 bks22 v6_77 (by first | omega | decide) (by first | omega | decide) hI) (va_cwS 2 hg (z_gS mm_1159 mm_1160 mm_117 mm_1161) rfl rfl rfl (by decide +kernel) ⟨Nat.le_of_ble_eq_true rfl, Nat.le_of_ble_eq_true rfl⟩) (zR.pre [.int bks22, .int v6_77] hP hK hN) rfl rfl hl.1 rfl (lv_room (Nat.le_of_ble_eq_true rfl)) dX9_book_102 ⟨Nat.le_of_ble_eq_true rfl, Nat.le_of_ble_eq_true rfl⟩) (fun r95 hr95 => ?_)
                                    have hr95_0 := hr95
                                    have hr95_0 : r95.toInt = 8 * bks22.toInt + v6_77.toInt := hr95_0
                                    refine lv_iload hx hb dX9_book_105 (lv_at hl 0 rfl) ?_
                                    obtain ⟨f97, hp98, hs96⟩ := a9_6 hI.1
                                    refine va_iast hx hb hK hP hD hS 6 0 (zw_at (by omega) hs96) rfl (z_in rfl (by omega) (by omega)) dX9_book_107 (fun H locs hP hD hS => ?_)
                                    have hp100 : ∀ j : Nat, j < 32 → (fun x : Int32 => 0 ≤ x.toInt ∧ x.toInt ≤ 15) ((upd f97 (Int32.toNatClampNeg r95) y94) j) := fun j hj => by
                                      unfold upd
                                      by_cases q : j = Int32.toNatClampNeg r95
                                      · rw [if_pos q]; exact (show 0 ≤ (y94 : Int32).toInt ∧ (y94 : Int32).toInt ≤ 15 from (by first | omega | decide))
                                      · rw [if_neg q]; exact hp98 j hj
                                    have hP : zP g ((zw 32 ad ct68).set 6 (ad 6, .inl (g.2 0, 32, .inl (upd f97 (Int32.toNatClampNeg r95) y94)))) H := hP
                                    have hD : va_D A ((zw 32 ad ct68).set 6 (ad 6, .inl (g.2 0, 32, .inl (upd f97 (Int32.toNatClampNeg r95) y94)))) := hD
                                    rw [zw_set (by omega)] at hP hD
                                    obtain ⟨ct101, ec102⟩ : ∃ z : Nat → va_E, z = va_up ct68 6 (.inl (g.2 0, 32, .inl (upd f97 (Int32.toNatClampNeg r95) y94))) := ⟨_, rfl⟩
                                    rw [← ec102] at hP hD
                                    have hI : IR g ad me ct101 := by rw [ec102]; exact upR hI (by decide) (i9_6 ⟨_, hp100, rfl⟩)
                                    have hs103 : ct101 0 = .inr (9, [.int me, .ref (ad 1), .ref (ad 2), .ref (ad 3), .ref (ad 4), .int bks22, .int lks23, .int gos24, .int shn25, .ref (ad 5), .ref (ad 6), .ref (ad 7), .ref (ad 8), .ref (ad 9), .ref (ad 10), .ref (ad 11), .int 0, .int pl027, .int ln028, .int flt29, .int opn30, .int cmy31, .int wtg32, .int nm033, .ref (ad 12), .ref (ad 13), .ref (ad 14), .ref (ad 15), .ref (ad 16), .ref (ad 17), .ref (ad 18), .ref (ad 19), .ref (ad 20), .ref (ad 21), .ref (ad 22), .ref (ad 23), .ref (ad 24), .ref (ad 25), .ref (ad 26), .ref (ad 27), .int mst34, .int sus35, .ref (ad 28), .ref (ad 29), .ref (ad 30), .ref (ad 31), .int cut36]) := by rw [ec102, va_up_ne _ _ (by omega)]; exact kp0_77
                                    have hs104 : ct101 11 = .inl (g.2 2, 200, .inl f67) := by rw [ec102, va_up_ne _ _ (by omega)]; exact kp11_77
                                    have hs105 : ct101 6 = .inl (g.2 0, 32, .inl (upd f97 (Int32.toNatClampNeg r95) y94)) := by rw [ec102]; exact va_up_self _ _ _
                                    refine lv_aload_n hx hb dX9_book_108 rfl (lv_at hl 2 rfl) ?_
                                    refine va_get (D := g.1) (ci := 9) (v := .ref (ad 10)) (C := RX9) (T := TX9) (N := 47) hx hb hg inG9 hown hK hP 0 (zw_at (by omega) hs103) rfl 14 (by decide) (hg _ mm_972) (fun _ h9 => h9) rfl dX9_book_109 ?_
                                    refine lv_aload_n hx hb dX9_book_112 rfl (lv_at hl 2 rfl) ?_
                                    refine va_get (D := g.1) (ci := 9) (v := .int bks22) (C := RX9) (T := TX9) (N := 47) hx hb hg inG9 hown hK hP 0 (zw_at (by omega) hs103) rfl 5 (by decide) (hg _ mm_963) (fun _ h9 => h9) rfl dX9_book_113 ?_
                                    refine lv_iload hx hb dX9_book_116 (lv_at hl 1 rfl) ?_
                                    refine zc_i (va_runS (As := [.int bks22, .int v6_77]) (rest := [.ref (ad 10)]) ⟨hx, hb, hml, hown, hg⟩ (k_X9_at l g ad me ct101 bks22 v6_77 (by first | omega | decide) (by first | omega | decide) hI) (va_cwS 2 hg (z_gS mm_1159 mm_1160 mm_117 mm_1161) rfl rfl rfl (by decide +kernel) ⟨Nat.le_of_ble_eq_true rfl, Nat.le_of_ble_eq_true rfl⟩) (zR.pre [.int bks22, .int v6_77] hP hK hN) rfl rfl hl.1 rfl (lv_room (Nat.le_of_ble_eq_true rfl)) dX9_book_118 ⟨Nat.le_of_ble_eq_true rfl, Nat.le_of_ble_eq_true rfl⟩) (fun r106 hr106 => ?_)
                                    have hr106_0 := hr106
                                    have hr106_0 : r106.toInt = 8 * bks22.toInt + v6_77.toInt := hr106_0
                                    refine lv_iconst (v := 0) hx hb dX9_book_121 (by decide) ?_
                                    obtain ⟨f108, hp109, hs107⟩ := a9_10 hI.1
                                    refine va_zast hx hb hK hP hD hS 10 3 (zw_at (by omega) hs107) rfl (z_in rfl (by omega) (by omega)) dX9_book_122 (fun H locs hP hD hS => ?_)
                                    have hp111 : ∀ j : Nat, j < 32 → (fun x : Int32 => x = 0 ∨ x = 1) ((upd f108 (Int32.toNatClampNeg r106) (vp_nar .boolean 0)) j) := fun j hj => by
                                      unfold upd
                                      by_cases q : j = Int32.toNatClampNeg r106
                                      · rw [if_pos q]; exact (show (vp_nar .boolean 0 : Int32) = 0 ∨ (vp_nar .boolean 0 : Int32) = 1 from (by decide))
                                      · rw [if_neg q]; exact hp109 j hj
                                    have hP : zP g ((zw 32 ad ct101).set 10 (ad 10, .inl (g.2 3, 32, .inl (upd f108 (Int32.toNatClampNeg r106) (vp_nar .boolean 0))))) H := hP
                                    have hD : va_D A ((zw 32 ad ct101).set 10 (ad 10, .inl (g.2 3, 32, .inl (upd f108 (Int32.toNatClampNeg r106) (vp_nar .boolean 0))))) := hD
                                    rw [zw_set (by omega)] at hP hD
                                    obtain ⟨ct112, ec113⟩ : ∃ z : Nat → va_E, z = va_up ct101 10 (.inl (g.2 3, 32, .inl (upd f108 (Int32.toNatClampNeg r106) (vp_nar .boolean 0)))) := ⟨_, rfl⟩
                                    rw [← ec113] at hP hD
                                    have hI : IR g ad me ct112 := by rw [ec113]; exact upR hI (by decide) (i9_10 ⟨_, hp111, rfl⟩)
                                    have hs114 : ct112 0 = .inr (9, [.int me, .ref (ad 1), .ref (ad 2), .ref (ad 3), .ref (ad 4), .int bks22, .int lks23, .int gos24, .int shn25, .ref (ad 5), .ref (ad 6), .ref (ad 7), .ref (ad 8), .ref (ad 9), .ref (ad 10), .ref (ad 11), .int 0, .int pl027, .int ln028, .int flt29, .int opn30, .int cmy31, .int wtg32, .int nm033, .ref (ad 12), .ref (ad 13), .ref (ad 14), .ref (ad 15), .ref (ad 16), .ref (ad 17), .ref (ad 18), .ref (ad 19), .ref (ad 20), .ref (ad 21), .ref (ad 22), .ref (ad 23), .ref (ad 24), .ref (ad 25), .ref (ad 26), .ref (ad 27), .int mst34, .int sus35, .ref (ad 28), .ref (ad 29), .ref (ad 30), .ref (ad 31), .int cut36]) := by rw [ec113, va_up_ne _ _ (by omega)]; exact hs103
                                    have hs115 : ct112 11 = .inl (g.2 2, 200, .inl f67) := by rw [ec113, va_up_ne _ _ (by omega)]; exact hs104
                                    have hs116 : ct112 6 = .inl (g.2 0, 32, .inl (upd f97 (Int32.toNatClampNeg r95) y94)) := by rw [ec113, va_up_ne _ _ (by omega)]; exact hs105
                                    have hs117 : ct112 10 = .inl (g.2 3, 32, .inl (upd f108 (Int32.toNatClampNeg r106) (vp_nar .boolean 0))) := by rw [ec113]; exact va_up_self _ _ _
                                    refine lv_aload_n hx hb dX9_book_123 rfl (lv_at hl 2 rfl) ?_
                                    refine va_get (D := g.1) (ci := 9) (v := .ref (ad 7)) (C := RX9) (T := TX9) (N := 47) hx hb hg inG9 hown hK hP 0 (zw_at (by omega) hs114) rfl 11 (by decide) (hg _ mm_969) (fun _ h9 => h9) rfl dX9_book_124 ?_
                                    refine lv_iconst (v := 4) hx hb dX9_book_127 (by decide) ?_
                                    refine lv_aload_n hx hb dX9_book_128 rfl (lv_at hl 2 rfl) ?_
                                    refine va_get (D := g.1) (ci := 9) (v := .int bks22) (C := RX9) (T := TX9) (N := 47) hx hb hg inG9 hown hK hP 0 (zw_at (by omega) hs114) rfl 5 (by decide) (hg _ mm_963) (fun _ h9 => h9) rfl dX9_book_129 ?_
                                    refine lv_iload hx hb dX9_book_132 (lv_at hl 1 rfl) ?_
                                    refine zc_i (va_runS (As := [.int bks22, .int v6_77]) (rest := [.int 4, .ref (ad 7)]) ⟨hx, hb, hml, hown, hg⟩ (k_X9_at l g ad me ct112 bks22 v6_77 (by first | omega | decide) (by first | omega | decide) hI) (va_cwS 2 hg (z_gS mm_1159 mm_1160 mm_117 mm_1161) rfl rfl rfl (by decide +kernel) ⟨Nat.le_of_ble_eq_true rfl, Nat.le_of_ble_eq_true rfl⟩) (zR.pre [.int bks22, .int v6_77] hP hK hN) rfl rfl hl.1 rfl (lv_room (Nat.le_of_ble_eq_true rfl)) dX9_book_134 ⟨Nat.le_of_ble_eq_true rfl, Nat.le_of_ble_eq_true rfl⟩) (fun r118 hr118 => ?_)
                                    have hr118_0 := hr118
                                    have hr118_0 : r118.toInt = 8 * bks22.toInt + v6_77.toInt := hr118_0
                                    refine lv_imul hx hb dX9_book_137 ?_
                                    refine lv_topi (fun x119 ex119 => ?_)
                                    have tx119 : x119.toInt = 4 * r118.toInt := by rw [ex119]; exact z_mul (by decide : (4 : Int32).toInt = 4) rfl (by omega) (by omega)
                                    refine lv_aload_n hx hb dX9_book_138 rfl (lv_at hl 2 rfl) ?_
                                    refine lv_iconst (v := 0) hx hb dX9_book_139 (by decide) ?_
                                    refine lv_aload_n hx hb dX9_book_140 rfl (lv_at hl 2 rfl) ?_
                                    refine va_get (D := g.1) (ci := 9) (v := .ref (ad 3)) (C := RX9) (T := TX9) (N := 47) hx hb hg inG9 hown hK hP 0 (zw_at (by omega) hs114) rfl 3 (by decide) (hg _ mm_961) (fun _ h9 => h9) rfl dX9_book_141 ?_
                                    refine lv_iconst (v := 4) hx hb dX9_book_144 (by decide) ?_
                                    refine lv_iload hx hb dX9_book_145 (lv_at hl 0 rfl) ?_
                                    refine lv_imul hx hb dX9_book_147 ?_
                                    refine lv_topi (fun x120 ex120 => ?_)
                                    have tx120 : x120.toInt = 4 * y94.toInt := by rw [ex120]; exact z_mul (by decide : (4 : Int32).toInt = 4) rfl (by omega) (by omega)
                                    obtain ⟨f122, hp123, hs121⟩ := a9_3 hI.1
                                    refine va_iald hx hb hK hP 3 0 (zw_at (by omega) hs121) rfl (z_in rfl (by omega) (by omega)) dX9_book_148 ?_
                                    refine lv_topi (fun y124 ey124 => ?_)
                                    have hy124 := hp123 _ (z_clt (x := x120) rfl (by omega) (by omega))
                                    rw [← ey124] at hy124
                                    have hy124 : 0 ≤ y124.toInt ∧ y124.toInt ≤ 15 := hy124
                                    refine lv_iload_n hx hb dX9_book_149 rfl (lv_at hl 4 rfl) ?_
                                    refine zc_i (va_runV (As := [.int 0, .int y124, .int l0]) (rest := [.int x119, .ref (ad 7)]) ⟨hx, hb, hml, hown, hg⟩ (k_X9_blurs l g ad me ct112 (0 : Int32) y124 l0 (by first | omega | decide) (by first | omega | decide) hI) (cwV 3 hg (z_gV mm_1132 mm_1134 mm_52 mm_117 mm_1135) rfl rfl rfl (by decide +kernel) ⟨Nat.le_of_ble_eq_true rfl, Nat.le_of_ble_eq_true rfl⟩) ⟨(zR.pre [.ref (ad 0), .int 0, .int y124, .int l0] hP hK hN).1, va_recv hK hP (ci := 9) (q0 := 0) rfl (zw_at (by omega) hs114), (zR.pre [.ref (ad 0), .int 0, .int y124, .int l0] hP hK hN).2⟩ rfl rfl hl.1 rfl (lv_room (Nat.le_of_ble_eq_true rfl)) dX9_book_150 ⟨Nat.le_of_ble_eq_true rfl, Nat.le_of_ble_eq_true rfl⟩) (fun r125 hr125 => ?_)
                                    obtain ⟨hr125_0, hr125_1, hr125_2⟩ := hr125
                                    have hr125_0 : 0 ≤ r125.toInt := hr125_0
                                    have hr125_1 : r125.toInt ≤ 32 := hr125_1
                                    have hr125_2 : r125.toInt = zrs (zTr ad (4000 + 32 * (0 : Int32).toInt.toNat)) l0.toInt.toNat y124.toInt := hr125_2
                                    obtain ⟨f127, hp128, hs126⟩ := a9_7 hI.1
                                    refine va_iast hx hb hK hP hD hS 7 0 (zw_at (by omega) hs126) rfl (z_in rfl (by omega) (by omega)) dX9_book_153 (fun H locs hP hD hS => ?_)
                                    have hp130 : ∀ j : Nat, j < 128 → (fun x : Int32 => 0 ≤ x.toInt ∧ x.toInt ≤ 32) ((upd f127 (Int32.toNatClampNeg x119) r125) j) := fun j hj => by
                                      unfold upd
                                      by_cases q : j = Int32.toNatClampNeg x119
                                      · rw [if_pos q]; exact (show 0 ≤ (r125 : Int32).toInt ∧ (r125 : Int32).toInt ≤ 32 from (by first | omega | decide))
                                      · rw [if_neg q]; exact hp128 j hj
                                    have hP : zP g ((zw 32 ad ct112).set 7 (ad 7, .inl (g.2 0, 128, .inl (upd f127 (Int32.toNatClampNeg x119) r125)))) H := hP
                                    have hD : va_D A ((zw 32 ad ct112).set 7 (ad 7, .inl (g.2 0, 128, .inl (upd f127 (Int32.toNatClampNeg x119) r125)))) := hD
                                    rw [zw_set (by omega)] at hP hD
                                    obtain ⟨ct131, ec132⟩ : ∃ z : Nat → va_E, z = va_up ct112 7 (.inl (g.2 0, 128, .inl (upd f127 (Int32.toNatClampNeg x119) r125))) := ⟨_, rfl⟩
                                    rw [← ec132] at hP hD
                                    have hI : IR g ad me ct131 := by rw [ec132]; exact upR hI (by decide) (i9_7 ⟨_, hp130, rfl⟩)
                                    have hs133 : ct131 0 = .inr (9, [.int me, .ref (ad 1), .ref (ad 2), .ref (ad 3), .ref (ad 4), .int bks22, .int lks23, .int gos24, .int shn25, .ref (ad 5), .ref (ad 6), .ref (ad 7), .ref (ad 8), .ref (ad 9), .ref (ad 10), .ref (ad 11), .int 0, .int pl027, .int ln028, .int flt29, .int opn30, .int cmy31, .int wtg32, .int nm033, .ref (ad 12), .ref (ad 13), .ref (ad 14), .ref (ad 15), .ref (ad 16), .ref (ad 17), .ref (ad 18), .ref (ad 19), .ref (ad 20), .ref (ad 21), .ref (ad 22), .ref (ad 23), .ref (ad 24), .ref (ad 25), .ref (ad 26), .ref (ad 27), .int mst34, .int sus35, .ref (ad 28), .ref (ad 29), .ref (ad 30), .ref (ad 31), .int cut36]) := by rw [ec132, va_up_ne _ _ (by omega)]; exact hs114
                                    have hs134 : ct131 11 = .inl (g.2 2, 200, .inl f67) := by rw [ec132, va_up_ne _ _ (by omega)]; exact hs115
                                    have hs135 : ct131 6 = .inl (g.2 0, 32, .inl (upd f97 (Int32.toNatClampNeg r95) y94)) := by rw [ec132, va_up_ne _ _ (by omega)]; exact hs116
                                    have hs136 : ct131 10 = .inl (g.2 3, 32, .inl (upd f108 (Int32.toNatClampNeg r106) (vp_nar .boolean 0))) := by rw [ec132, va_up_ne _ _ (by omega)]; exact hs117
                                    have hs137 : ct131 3 = .inl (g.2 0, 64, .inl f122) := by rw [ec132, va_up_ne _ _ (by omega)]; exact hs121
                                    have hs138 : ct131 7 = .inl (g.2 0, 128, .inl (upd f127 (Int32.toNatClampNeg x119) r125)) := by rw [ec132]; exact va_up_self _ _ _
                                    refine lv_aload_n hx hb dX9_book_154 rfl (lv_at hl 2 rfl) ?_
                                    refine va_get (D := g.1) (ci := 9) (v := .ref (ad 7)) (C := RX9) (T := TX9) (N := 47) hx hb hg inG9 hown hK hP 0 (zw_at (by omega) hs133) rfl 11 (by decide) (hg _ mm_969) (fun _ h9 => h9) rfl dX9_book_155 ?_
                                    refine lv_iconst (v := 4) hx hb dX9_book_158 (by decide) ?_
                                    refine lv_aload_n hx hb dX9_book_159 rfl (lv_at hl 2 rfl) ?_
                                    refine va_get (D := g.1) (ci := 9) (v := .int bks22) (C := RX9) (T := TX9) (N := 47) hx hb hg inG9 hown hK hP 0 (zw_at (by omega) hs133) rfl 5 (by decide) (hg _ mm_963) (fun _ h9 => h9) rfl dX9_book_160 ?_
                                    refine lv_iload hx hb dX9_book_163 (lv_at hl 1 rfl) ?_
                                    refine zc_i (va_runS (As := [.int bks22, .int v6_77]) (rest := [.int 4, .ref (ad 7)]) ⟨hx, hb, hml, hown, hg⟩ (k_X9_at l g ad me ct131 bks22 v6_77 (by first | omega | decide) (by first | omega | decide) hI) (va_cwS 2 hg (z_gS mm_1159 mm_1160 mm_117 mm_1161) rfl rfl rfl (by decide +kernel) ⟨Nat.le_of_ble_eq_true rfl, Nat.le_of_ble_eq_true rfl⟩) (zR.pre [.int bks22, .int v6_77] hP hK hN) rfl rfl hl.1 rfl (lv_room (Nat.le_of_ble_eq_true rfl)) dX9_book_165 ⟨Nat.le_of_ble_eq_true rfl, Nat.le_of_ble_eq_true rfl⟩) (fun r139 hr139 => ?_)
                                    have hr139_0 := hr139
                                    have hr139_0 : r139.toInt = 8 * bks22.toInt + v6_77.toInt := hr139_0
                                    refine lv_imul hx hb dX9_book_168 ?_
                                    refine lv_topi (fun x140 ex140 => ?_)
                                    have tx140 : x140.toInt = 4 * r139.toInt := by rw [ex140]; exact z_mul (by decide : (4 : Int32).toInt = 4) rfl (by omega) (by omega)
                                    refine lv_iconst (v := 1) hx hb dX9_book_169 (by decide) ?_
                                    refine lv_iadd hx hb dX9_book_170 ?_
                                    refine lv_topi (fun x141 ex141 => ?_)
                                    have tx141 : x141.toInt = x140.toInt + 1 := by rw [ex141]; exact z_add rfl (by decide : (1 : Int32).toInt = 1) (by omega) (by omega)
                                    refine lv_aload_n hx hb dX9_book_171 rfl (lv_at hl 2 rfl) ?_
                                    refine lv_iconst (v := 1) hx hb dX9_book_172 (by decide) ?_
                                    refine lv_aload_n hx hb dX9_book_173 rfl (lv_at hl 2 rfl) ?_
                                    refine va_get (D := g.1) (ci := 9) (v := .ref (ad 3)) (C := RX9) (T := TX9) (N := 47) hx hb hg inG9 hown hK hP 0 (zw_at (by omega) hs133) rfl 3 (by decide) (hg _ mm_961) (fun _ h9 => h9) rfl dX9_book_174 ?_
                                    refine lv_iconst (v := 4) hx hb dX9_book_177 (by decide) ?_
                                    refine lv_iload hx hb dX9_book_178 (lv_at hl 0 rfl) ?_
                                    refine lv_imul hx hb dX9_book_180 ?_
                                    refine lv_topi (fun x142 ex142 => ?_)
                                    obtain rfl : x120 = x142 := ex120.trans ex142.symm
                                    refine lv_iconst (v := 1) hx hb dX9_book_181 (by decide) ?_
                                    refine lv_iadd hx hb dX9_book_182 ?_
                                    refine lv_topi (fun x143 ex143 => ?_)
                                    have tx143 : x143.toInt = x120.toInt + 1 := by rw [ex143]; exact z_add rfl (by decide : (1 : Int32).toInt = 1) (by omega) (by omega)
                                    refine va_iald hx hb hK hP 3 0 (zw_at (by omega) hs137) rfl (z_in rfl (by omega) (by omega)) dX9_book_183 ?_
                                    refine lv_topi (fun y144 ey144 => ?_)
                                    have hy144 := hp123 _ (z_clt (x := x143) rfl (by omega) (by omega))
                                    rw [← ey144] at hy144
                                    have hy144 : 0 ≤ y144.toInt ∧ y144.toInt ≤ 15 := hy144
                                    refine lv_iload_n hx hb dX9_book_184 rfl (lv_at hl 5 rfl) ?_
                                    refine zc_i (va_runV (As := [.int 1, .int y144, .int l1]) (rest := [.int x141, .ref (ad 7)]) ⟨hx, hb, hml, hown, hg⟩ (k_X9_blurs l g ad me ct131 (1 : Int32) y144 l1 (by first | omega | decide) (by first | omega | decide) hI) (cwV 3 hg (z_gV mm_1132 mm_1134 mm_52 mm_117 mm_1135) rfl rfl rfl (by decide +kernel) ⟨Nat.le_of_ble_eq_true rfl, Nat.le_of_ble_eq_true rfl⟩) ⟨(zR.pre [.ref (ad 0), .int 1, .int y144, .int l1] hP hK hN).1, va_recv hK hP (ci := 9) (q0 := 0) rfl (zw_at (by omega) hs133), (zR.pre [.ref (ad 0), .int 1, .int y144, .int l1] hP hK hN).2⟩ rfl rfl hl.1 rfl (lv_room (Nat.le_of_ble_eq_true rfl)) dX9_book_185 ⟨Nat.le_of_ble_eq_true rfl, Nat.le_of_ble_eq_true rfl⟩) (fun r145 hr145 => ?_)
                                    obtain ⟨hr145_0, hr145_1, hr145_2⟩ := hr145
                                    have hr145_0 : 0 ≤ r145.toInt := hr145_0
                                    have hr145_1 : r145.toInt ≤ 32 := hr145_1
                                    have hr145_2 : r145.toInt = zrs (zTr ad (4000 + 32 * (1 : Int32).toInt.toNat)) l1.toInt.toNat y144.toInt := hr145_2
                                    refine va_iast hx hb hK hP hD hS 7 0 (zw_at (by omega) hs138) rfl (z_in rfl (by omega) (by omega)) dX9_book_188 (fun H locs hP hD hS => ?_)
                                    have hp147 : ∀ j : Nat, j < 128 → (fun x : Int32 => 0 ≤ x.toInt ∧ x.toInt ≤ 32) ((upd (upd f127 (Int32.toNatClampNeg x119) r125) (Int32.toNatClampNeg x141) r145) j) := fun j hj => by
                                      unfold upd
                                      by_cases q : j = Int32.toNatClampNeg x141
                                      · rw [if_pos q]; exact (show 0 ≤ (r145 : Int32).toInt ∧ (r145 : Int32).toInt ≤ 32 from (by first | omega | decide))
                                      · rw [if_neg q]; exact hp130 j hj
                                    have hP : zP g ((zw 32 ad ct131).set 7 (ad 7, .inl (g.2 0, 128, .inl (upd (upd f127 (Int32.toNatClampNeg x119) r125) (Int32.toNatClampNeg x141) r145)))) H := hP
                                    have hD : va_D A ((zw 32 ad ct131).set 7 (ad 7, .inl (g.2 0, 128, .inl (upd (upd f127 (Int32.toNatClampNeg x119) r125) (Int32.toNatClampNeg x141) r145)))) := hD
                                    rw [zw_set (by omega)] at hP hD
                                    obtain ⟨ct148, ec149⟩ : ∃ z : Nat → va_E, z = va_up ct131 7 (.inl (g.2 0, 128, .inl (upd (upd f127 (Int32.toNatClampNeg x119) r125) (Int32.toNatClampNeg x141) r145))) := ⟨_, rfl⟩
                                    rw [← ec149] at hP hD
                                    have hI : IR g ad me ct148 := by rw [ec149]; exact upR hI (by decide) (i9_7 ⟨_, hp147, rfl⟩)
                                    have hs150 : ct148 0 = .inr (9, [.int me, .ref (ad 1), .ref (ad 2), .ref (ad 3), .ref (ad 4), .int bks22, .int lks23, .int gos24, .int shn25, .ref (ad 5), .ref (ad 6), .ref (ad 7), .ref (ad 8), .ref (ad 9), .ref (ad 10), .ref (ad 11), .int 0, .int pl027, .int ln028, .int flt29, .int opn30, .int cmy31, .int wtg32, .int nm033, .ref (ad 12), .ref (ad 13), .ref (ad 14), .ref (ad 15), .ref (ad 16), .ref (ad 17), .ref (ad 18), .ref (ad 19), .ref (ad 20), .ref (ad 21), .ref (ad 22), .ref (ad 23), .ref (ad 24), .ref (ad 25), .ref (ad 26), .ref (ad 27), .int mst34, .int sus35, .ref (ad 28), .ref (ad 29), .ref (ad 30), .ref (ad 31), .int cut36]) := by rw [ec149, va_up_ne _ _ (by omega)]; exact hs133
                                    have hs151 : ct148 11 = .inl (g.2 2, 200, .inl f67) := by rw [ec149, va_up_ne _ _ (by omega)]; exact hs134
                                    have hs152 : ct148 6 = .inl (g.2 0, 32, .inl (upd f97 (Int32.toNatClampNeg r95) y94)) := by rw [ec149, va_up_ne _ _ (by omega)]; exact hs135
                                    have hs153 : ct148 10 = .inl (g.2 3, 32, .inl (upd f108 (Int32.toNatClampNeg r106) (vp_nar .boolean 0))) := by rw [ec149, va_up_ne _ _ (by omega)]; exact hs136
                                    have hs154 : ct148 3 = .inl (g.2 0, 64, .inl f122) := by rw [ec149, va_up_ne _ _ (by omega)]; exact hs137
                                    have hs155 : ct148 7 = .inl (g.2 0, 128, .inl (upd (upd f127 (Int32.toNatClampNeg x119) r125) (Int32.toNatClampNeg x141) r145)) := by rw [ec149]; exact va_up_self _ _ _
                                    refine lv_aload_n hx hb dX9_book_189 rfl (lv_at hl 2 rfl) ?_
                                    refine va_get (D := g.1) (ci := 9) (v := .ref (ad 7)) (C := RX9) (T := TX9) (N := 47) hx hb hg inG9 hown hK hP 0 (zw_at (by omega) hs150) rfl 11 (by decide) (hg _ mm_969) (fun _ h9 => h9) rfl dX9_book_190 ?_
                                    refine lv_iconst (v := 4) hx hb dX9_book_193 (by decide) ?_
                                    refine lv_aload_n hx hb dX9_book_194 rfl (lv_at hl 2 rfl) ?_
                                    refine va_get (D := g.1) (ci := 9) (v := .int bks22) (C := RX9) (T := TX9) (N := 47) hx hb hg inG9 hown hK hP 0 (zw_at (by omega) hs150) rfl 5 (by decide) (hg _ mm_963) (fun _ h9 => h9) rfl dX9_book_195 ?_
                                    refine lv_iload hx hb dX9_book_198 (lv_at hl 1 rfl) ?_
                                    refine zc_i (va_runS (As := [.int bks22, .int v6_77]) (rest := [.int 4, .ref (ad 7)]) ⟨hx, hb, hml, hown, hg⟩ (k_X9_at l g ad me ct148 bks22 v6_77 (by first | omega | decide) (by first | omega | decide) hI) (va_cwS 2 hg (z_gS mm_1159 mm_1160 mm_117 mm_1161) rfl rfl rfl (by decide +kernel) ⟨Nat.le_of_ble_eq_true rfl, Nat.le_of_ble_eq_true rfl⟩) (zR.pre [.int bks22, .int v6_77] hP hK hN) rfl rfl hl.1 rfl (lv_room (Nat.le_of_ble_eq_true rfl)) dX9_book_200 ⟨Nat.le_of_ble_eq_true rfl, Nat.le_of_ble_eq_true rfl⟩) (fun r156 hr156 => ?_)
                                    have hr156_0 := hr156
                                    have hr156_0 : r156.toInt = 8 * bks22.toInt + v6_77.toInt := hr156_0
                                    refine lv_imul hx hb dX9_book_203 ?_
                                    refine lv_topi (fun x157 ex157 => ?_)
                                    have tx157 : x157.toInt = 4 * r156.toInt := by rw [ex157]; exact z_mul (by decide : (4 : Int32).toInt = 4) rfl (by omega) (by omega)
                                    refine lv_iconst (v := 2) hx hb dX9_book_204 (by decide) ?_
                                    refine lv_iadd hx hb dX9_book_205 ?_
                                    refine lv_topi (fun x158 ex158 => ?_)
                                    have tx158 : x158.toInt = x157.toInt + 2 := by rw [ex158]; exact z_add rfl (by decide : (2 : Int32).toInt = 2) (by omega) (by omega)
                                    refine lv_aload_n hx hb dX9_book_206 rfl (lv_at hl 2 rfl) ?_
                                    refine lv_iconst (v := 2) hx hb dX9_book_207 (by decide) ?_
                                    refine lv_aload_n hx hb dX9_book_208 rfl (lv_at hl 2 rfl) ?_
                                    refine va_get (D := g.1) (ci := 9) (v := .ref (ad 3)) (C := RX9) (T := TX9) (N := 47) hx hb hg inG9 hown hK hP 0 (zw_at (by omega) hs150) rfl 3 (by decide) (hg _ mm_961) (fun _ h9 => h9) rfl dX9_book_209 ?_
                                    refine lv_iconst (v := 4) hx hb dX9_book_212 (by decide) ?_
                                    refine lv_iload hx hb dX9_book_213 (lv_at hl 0 rfl) ?_
                                    refine lv_imul hx hb dX9_book_215 ?_
                                    refine lv_topi (fun x159 ex159 => ?_)
                                    obtain rfl : x120 = x159 := ex120.trans ex159.symm
                                    refine lv_iconst (v := 2) hx hb dX9_book_216 (by decide) ?_
                                    refine lv_iadd hx hb dX9_book_217 ?_
                                    refine lv_topi (fun x160 ex160 => ?_)
                                    have tx160 : x160.toInt = x120.toInt + 2 := by rw [ex160]; exact z_add rfl (by decide : (2 : Int32).toInt = 2) (by omega) (by omega)
                                    refine va_iald hx hb hK hP 3 0 (zw_at (by omega) hs154) rfl (z_in rfl (by omega) (by omega)) dX9_book_218 ?_
                                    refine lv_topi (fun y161 ey161 => ?_)
                                    have hy161 := hp123 _ (z_clt (x := x160) rfl (by omega) (by omega))
                                    rw [← ey161] at hy161
                                    have hy161 : 0 ≤ y161.toInt ∧ y161.toInt ≤ 15 := hy161
                                    refine lv_iload hx hb dX9_book_219 (lv_at hl 6 rfl) ?_
                                    refine zc_i (va_runV (As := [.int 2, .int y161, .int l2]) (rest := [.int x158, .ref (ad 7)]) ⟨hx, hb, hml, hown, hg⟩ (k_X9_blurs l g ad me ct148 (2 : Int32) y161 l2 (by first | omega | decide) (by first | omega | decide) hI) (cwV 3 hg (z_gV mm_1132 mm_1134 mm_52 mm_117 mm_1135) rfl rfl rfl (by decide +kernel) ⟨Nat.le_of_ble_eq_true rfl, Nat.le_of_ble_eq_true rfl⟩) ⟨(zR.pre [.ref (ad 0), .int 2, .int y161, .int l2] hP hK hN).1, va_recv hK hP (ci := 9) (q0 := 0) rfl (zw_at (by omega) hs150), (zR.pre [.ref (ad 0), .int 2, .int y161, .int l2] hP hK hN).2⟩ rfl rfl hl.1 rfl (lv_room (Nat.le_of_ble_eq_true rfl)) dX9_book_221 ⟨Nat.le_of_ble_eq_true rfl, Nat.le_of_ble_eq_true rfl⟩) (fun r162 hr162 => ?_)
                                    obtain ⟨hr162_0, hr162_1, hr162_2⟩ := hr162
                                    have hr162_0 : 0 ≤ r162.toInt := hr162_0
                                    have hr162_1 : r162.toInt ≤ 32 := hr162_1
                                    have hr162_2 : r162.toInt = zrs (zTr ad (4000 + 32 * (2 : Int32).toInt.toNat)) l2.toInt.toNat y161.toInt := hr162_2
                                    refine va_iast hx hb hK hP hD hS 7 0 (zw_at (by omega) hs155) rfl (z_in rfl (by omega) (by omega)) dX9_book_224 (fun H locs hP hD hS => ?_)
                                    have hp164 : ∀ j : Nat, j < 128 → (fun x : Int32 => 0 ≤ x.toInt ∧ x.toInt ≤ 32) ((upd (upd (upd f127 (Int32.toNatClampNeg x119) r125) (Int32.toNatClampNeg x141) r145) (Int32.toNatClampNeg x158) r162) j) := fun j hj => by
                                      unfold upd
                                      by_cases q : j = Int32.toNatClampNeg x158
                                      · rw [if_pos q]; exact (show 0 ≤ (r162 : Int32).toInt ∧ (r162 : Int32).toInt ≤ 32 from (by first | omega | decide))
                                      · rw [if_neg q]; exact hp147 j hj
                                    have hP : zP g ((zw 32 ad ct148).set 7 (ad 7, .inl (g.2 0, 128, .inl (upd (upd (upd f127 (Int32.toNatClampNeg x119) r125) (Int32.toNatClampNeg x141) r145) (Int32.toNatClampNeg x158) r162)))) H := hP
                                    have hD : va_D A ((zw 32 ad ct148).set 7 (ad 7, .inl (g.2 0, 128, .inl (upd (upd (upd f127 (Int32.toNatClampNeg x119) r125) (Int32.toNatClampNeg x141) r145) (Int32.toNatClampNeg x158) r162)))) := hD
                                    rw [zw_set (by omega)] at hP hD
                                    obtain ⟨ct165, ec166⟩ : ∃ z : Nat → va_E, z = va_up ct148 7 (.inl (g.2 0, 128, .inl (upd (upd (upd f127 (Int32.toNatClampNeg x119) r125) (Int32.toNatClampNeg x141) r145) (Int32.toNatClampNeg x158) r162))) := ⟨_, rfl⟩
                                    rw [← ec166] at hP hD
                                    have hI : IR g ad me ct165 := by rw [ec166]; exact upR hI (by decide) (i9_7 ⟨_, hp164, rfl⟩)
                                    have hs167 : ct165 0 = .inr (9, [.int me, .ref (ad 1), .ref (ad 2), .ref (ad 3), .ref (ad 4), .int bks22, .int lks23, .int gos24, .int shn25, .ref (ad 5), .ref (ad 6), .ref (ad 7), .ref (ad 8), .ref (ad 9), .ref (ad 10), .ref (ad 11), .int 0, .int pl027, .int ln028, .int flt29, .int opn30, .int cmy31, .int wtg32, .int nm033, .ref (ad 12), .ref (ad 13), .ref (ad 14), .ref (ad 15), .ref (ad 16), .ref (ad 17), .ref (ad 18), .ref (ad 19), .ref (ad 20), .ref (ad 21), .ref (ad 22), .ref (ad 23), .ref (ad 24), .ref (ad 25), .ref (ad 26), .ref (ad 27), .int mst34, .int sus35, .ref (ad 28), .ref (ad 29), .ref (ad 30), .ref (ad 31), .int cut36]) := by rw [ec166, va_up_ne _ _ (by omega)]; exact hs150
                                    have hs168 : ct165 11 = .inl (g.2 2, 200, .inl f67) := by rw [ec166, va_up_ne _ _ (by omega)]; exact hs151
                                    have hs169 : ct165 6 = .inl (g.2 0, 32, .inl (upd f97 (Int32.toNatClampNeg r95) y94)) := by rw [ec166, va_up_ne _ _ (by omega)]; exact hs152
                                    have hs170 : ct165 10 = .inl (g.2 3, 32, .inl (upd f108 (Int32.toNatClampNeg r106) (vp_nar .boolean 0))) := by rw [ec166, va_up_ne _ _ (by omega)]; exact hs153
                                    have hs171 : ct165 3 = .inl (g.2 0, 64, .inl f122) := by rw [ec166, va_up_ne _ _ (by omega)]; exact hs154
                                    have hs172 : ct165 7 = .inl (g.2 0, 128, .inl (upd (upd (upd f127 (Int32.toNatClampNeg x119) r125) (Int32.toNatClampNeg x141) r145) (Int32.toNatClampNeg x158) r162)) := by rw [ec166]; exact va_up_self _ _ _
                                    refine lv_aload_n hx hb dX9_book_225 rfl (lv_at hl 2 rfl) ?_
                                    refine va_get (D := g.1) (ci := 9) (v := .ref (ad 7)) (C := RX9) (T := TX9) (N := 47) hx hb hg inG9 hown hK hP 0 (zw_at (by omega) hs167) rfl 11 (by decide) (hg _ mm_969) (fun _ h9 => h9) rfl dX9_book_226 ?_
                                    refine lv_iconst (v := 4) hx hb dX9_book_229 (by decide) ?_
                                    refine lv_aload_n hx hb dX9_book_230 rfl (lv_at hl 2 rfl) ?_
                                    refine va_get (D := g.1) (ci := 9) (v := .int bks22) (C := RX9) (T := TX9) (N := 47) hx hb hg inG9 hown hK hP 0 (zw_at (by omega) hs167) rfl 5 (by decide) (hg _ mm_963) (fun _ h9 => h9) rfl dX9_book_231 ?_
                                    refine lv_iload hx hb dX9_book_234 (lv_at hl 1 rfl) ?_
                                    refine zc_i (va_runS (As := [.int bks22, .int v6_77]) (rest := [.int 4, .ref (ad 7)]) ⟨hx, hb, hml, hown, hg⟩ (k_X9_at l g ad me ct165 bks22 v6_77 (by first | omega | decide) (by first | omega | decide) hI) (va_cwS 2 hg (z_gS mm_1159 mm_1160 mm_117 mm_1161) rfl rfl rfl (by decide +kernel) ⟨Nat.le_of_ble_eq_true rfl, Nat.le_of_ble_eq_true rfl⟩) (zR.pre [.int bks22, .int v6_77] hP hK hN) rfl rfl hl.1 rfl (lv_room (Nat.le_of_ble_eq_true rfl)) dX9_book_236 ⟨Nat.le_of_ble_eq_true rfl, Nat.le_of_ble_eq_true rfl⟩) (fun r173 hr173 => ?_)
                                    have hr173_0 := hr173
                                    have hr173_0 : r173.toInt = 8 * bks22.toInt + v6_77.toInt := hr173_0
                                    refine lv_imul hx hb dX9_book_239 ?_
                                    refine lv_topi (fun x174 ex174 => ?_)
                                    have tx174 : x174.toInt = 4 * r173.toInt := by rw [ex174]; exact z_mul (by decide : (4 : Int32).toInt = 4) rfl (by omega) (by omega)
                                    refine lv_iconst (v := 3) hx hb dX9_book_240 (by decide) ?_
                                    refine lv_iadd hx hb dX9_book_241 ?_
                                    refine lv_topi (fun x175 ex175 => ?_)
                                    have tx175 : x175.toInt = x174.toInt + 3 := by rw [ex175]; exact z_add rfl (by decide : (3 : Int32).toInt = 3) (by omega) (by omega)
                                    refine lv_aload_n hx hb dX9_book_242 rfl (lv_at hl 2 rfl) ?_
                                    refine lv_iconst (v := 3) hx hb dX9_book_243 (by decide) ?_
                                    refine lv_aload_n hx hb dX9_book_244 rfl (lv_at hl 2 rfl) ?_
                                    refine va_get (D := g.1) (ci := 9) (v := .ref (ad 3)) (C := RX9) (T := TX9) (N := 47) hx hb hg inG9 hown hK hP 0 (zw_at (by omega) hs167) rfl 3 (by decide) (hg _ mm_961) (fun _ h9 => h9) rfl dX9_book_245 ?_
                                    refine lv_iconst (v := 4) hx hb dX9_book_248 (by decide) ?_
                                    refine lv_iload hx hb dX9_book_249 (lv_at hl 0 rfl) ?_
                                    refine lv_imul hx hb dX9_book_251 ?_
                                    refine lv_topi (fun x176 ex176 => ?_)
                                    obtain rfl : x120 = x176 := ex120.trans ex176.symm
                                    refine lv_iconst (v := 3) hx hb dX9_book_252 (by decide) ?_
                                    refine lv_iadd hx hb dX9_book_253 ?_
                                    refine lv_topi (fun x177 ex177 => ?_)
                                    have tx177 : x177.toInt = x120.toInt + 3 := by rw [ex177]; exact z_add rfl (by decide : (3 : Int32).toInt = 3) (by omega) (by omega)
                                    refine va_iald hx hb hK hP 3 0 (zw_at (by omega) hs171) rfl (z_in rfl (by omega) (by omega)) dX9_book_254 ?_
                                    refine lv_topi (fun y178 ey178 => ?_)
                                    have hy178 := hp123 _ (z_clt (x := x177) rfl (by omega) (by omega))
                                    rw [← ey178] at hy178
                                    have hy178 : 0 ≤ y178.toInt ∧ y178.toInt ≤ 15 := hy178
                                    refine lv_iload hx hb dX9_book_255 (lv_at hl 7 rfl) ?_
                                    refine zc_i (va_runV (As := [.int 3, .int y178, .int l3]) (rest := [.int x175, .ref (ad 7)]) ⟨hx, hb, hml, hown, hg⟩ (k_X9_blurs l g ad me ct165 (3 : Int32) y178 l3 (by first | omega | decide) (by first | omega | decide) hI) (cwV 3 hg (z_gV mm_1132 mm_1134 mm_52 mm_117 mm_1135) rfl rfl rfl (by decide +kernel) ⟨Nat.le_of_ble_eq_true rfl, Nat.le_of_ble_eq_true rfl⟩) ⟨(zR.pre [.ref (ad 0), .int 3, .int y178, .int l3] hP hK hN).1, va_recv hK hP (ci := 9) (q0 := 0) rfl (zw_at (by omega) hs167), (zR.pre [.ref (ad 0), .int 3, .int y178, .int l3] hP hK hN).2⟩ rfl rfl hl.1 rfl (lv_room (Nat.le_of_ble_eq_true rfl)) dX9_book_257 ⟨Nat.le_of_ble_eq_true rfl, Nat.le_of_ble_eq_true rfl⟩) (fun r179 hr179 => ?_)
                                    obtain ⟨hr179_0, hr179_1, hr179_2⟩ := hr179
                                    have hr179_0 : 0 ≤ r179.toInt := hr179_0
                                    have hr179_1 : r179.toInt ≤ 32 := hr179_1
                                    have hr179_2 : r179.toInt = zrs (zTr ad (4000 + 32 * (3 : Int32).toInt.toNat)) l3.toInt.toNat y178.toInt := hr179_2
                                    refine va_iast hx hb hK hP hD hS 7 0 (zw_at (by omega) hs172) rfl (z_in rfl (by omega) (by omega)) dX9_book_260 (fun H locs hP hD hS => ?_)
                                    have hp181 : ∀ j : Nat, j < 128 → (fun x : Int32 => 0 ≤ x.toInt ∧ x.toInt ≤ 32) ((upd (upd (upd (upd f127 (Int32.toNatClampNeg x119) r125) (Int32.toNatClampNeg x141) r145) (Int32.toNatClampNeg x158) r162) (Int32.toNatClampNeg x175) r179) j) := fun j hj => by
                                      unfold upd
                                      by_cases q : j = Int32.toNatClampNeg x175
                                      · rw [if_pos q]; exact (show 0 ≤ (r179 : Int32).toInt ∧ (r179 : Int32).toInt ≤ 32 from (by first | omega | decide))
                                      · rw [if_neg q]; exact hp164 j hj
                                    have hP : zP g ((zw 32 ad ct165).set 7 (ad 7, .inl (g.2 0, 128, .inl (upd (upd (upd (upd f127 (Int32.toNatClampNeg x119) r125) (Int32.toNatClampNeg x141) r145) (Int32.toNatClampNeg x158) r162) (Int32.toNatClampNeg x175) r179)))) H := hP
                                    have hD : va_D A ((zw 32 ad ct165).set 7 (ad 7, .inl (g.2 0, 128, .inl (upd (upd (upd (upd f127 (Int32.toNatClampNeg x119) r125) (Int32.toNatClampNeg x141) r145) (Int32.toNatClampNeg x158) r162) (Int32.toNatClampNeg x175) r179)))) := hD
                                    rw [zw_set (by omega)] at hP hD
                                    obtain ⟨ct182, ec183⟩ : ∃ z : Nat → va_E, z = va_up ct165 7 (.inl (g.2 0, 128, .inl (upd (upd (upd (upd f127 (Int32.toNatClampNeg x119) r125) (Int32.toNatClampNeg x141) r145) (Int32.toNatClampNeg x158) r162) (Int32.toNatClampNeg x175) r179))) := ⟨_, rfl⟩
                                    rw [← ec183] at hP hD
                                    have hI : IR g ad me ct182 := by rw [ec183]; exact upR hI (by decide) (i9_7 ⟨_, hp181, rfl⟩)
                                    have hs184 : ct182 0 = .inr (9, [.int me, .ref (ad 1), .ref (ad 2), .ref (ad 3), .ref (ad 4), .int bks22, .int lks23, .int gos24, .int shn25, .ref (ad 5), .ref (ad 6), .ref (ad 7), .ref (ad 8), .ref (ad 9), .ref (ad 10), .ref (ad 11), .int 0, .int pl027, .int ln028, .int flt29, .int opn30, .int cmy31, .int wtg32, .int nm033, .ref (ad 12), .ref (ad 13), .ref (ad 14), .ref (ad 15), .ref (ad 16), .ref (ad 17), .ref (ad 18), .ref (ad 19), .ref (ad 20), .ref (ad 21), .ref (ad 22), .ref (ad 23), .ref (ad 24), .ref (ad 25), .ref (ad 26), .ref (ad 27), .int mst34, .int sus35, .ref (ad 28), .ref (ad 29), .ref (ad 30), .ref (ad 31), .int cut36]) := by rw [ec183, va_up_ne _ _ (by omega)]; exact hs167
                                    have hs185 : ct182 11 = .inl (g.2 2, 200, .inl f67) := by rw [ec183, va_up_ne _ _ (by omega)]; exact hs168
                                    have hs186 : ct182 6 = .inl (g.2 0, 32, .inl (upd f97 (Int32.toNatClampNeg r95) y94)) := by rw [ec183, va_up_ne _ _ (by omega)]; exact hs169
                                    have hs187 : ct182 10 = .inl (g.2 3, 32, .inl (upd f108 (Int32.toNatClampNeg r106) (vp_nar .boolean 0))) := by rw [ec183, va_up_ne _ _ (by omega)]; exact hs170
                                    have hs188 : ct182 3 = .inl (g.2 0, 64, .inl f122) := by rw [ec183, va_up_ne _ _ (by omega)]; exact hs171
                                    have hs189 : ct182 7 = .inl (g.2 0, 128, .inl (upd (upd (upd (upd f127 (Int32.toNatClampNeg x119) r125) (Int32.toNatClampNeg x141) r145) (Int32.toNatClampNeg x158) r162) (Int32.toNatClampNeg x175) r179)) := by rw [ec183]; exact va_up_self _ _ _
                                    obtain ⟨x190, ex190⟩ : ∃ y : Int32, y = v6_77 + 1 := ⟨_, rfl⟩
                                    have tx190 : x190.toInt = v6_77.toInt + 1 := by rw [ex190]; exact z_add rfl (by decide : (1 : Int32).toInt = 1) (by omega) (by omega)
                                    refine lv_iinc (v := x190) (lv' := [(6, .int x190), (7, .int y94), (0, .ref (ad 0)), (1, .int n), (2, .int l0), (3, .int l1), (4, .int l2), (5, .int l3)]) hx hb dX9_book_261 hl (k := 1) rfl (by rw [ex190]; rfl) (by decide) rfl (fun ls hl => ?_)
                                    refine lv_goto (tgt := 77) hx hb dX9_book_264 (by decide) ?_
                                    exact ih77 x190 ct182 _ _ ls (by omega) (by first | assumption | omega | decide) hs184 hs185 hI hP hD hS (lv_sub hl [0, 2, 3, 4, 5, 6, 7] rfl)
                              exact loop77 ((8 - (0 : Int32).toInt : Int).toNat + 1) (0 : Int32) ct60 _ _ ls (by omega) (by first | assumption | omega | decide) hs62 hs66 hI hP hD hS (lv_sub hl [0, 1, 2, 3, 4, 5, 6] rfl)
                            · skip
                              exact absurd c65 (by decide)
                          · skip
                            obtain rfl := hr63
                            refine lv_if_ne (tgt := 74) hx hb dX9_book_68 (by decide) (fun c191 => ?_) (fun c191 => ?_)
                            · skip
                              exact absurd c191 (by decide)
                            · skip
                              refine lv_bipush (v := (-2)) hx hb dX9_book_71 (by decide) ?_
                              have q192 : ((-2) : Int32).toInt = -2 := by decide
                              exact W.iret (v := (-2)) hx hb hr (fun t ht hW => ⟨⟨(-2), (), rfl, trivial, ct60, by rw [ht]; exact hP, hD, hI⟩, hS.F ht⟩) hS.2.2 dX9_book_73
                        · skip
                          have c59 : ¬ (n.toInt ≤ tpd26.toInt) := fun q => c59 ((z_le rfl rfl).mpr q)
                          refine lv_iconst (v := (-1)) hx hb dX9_book_56 (by decide) ?_
                          have q193 : ((-1) : Int32).toInt = -1 := by decide
                          exact W.iret (v := (-1)) hx hb hr (fun t ht hW => ⟨⟨(-1), (), rfl, trivial, ct, by rw [ht]; exact hP, hD, hI⟩, hS.F ht⟩) hS.2.2 dX9_book_57
                  · skip
                    obtain ⟨rfl, h194⟩ := hr17
                    replace h194 : ¬ (0 ≤ l3.toInt ∧ l3.toInt ≤ 4) := h194
                    refine lv_if_eq (tgt := 56) hx hb dX9_book_37 (by decide) (fun c195 => ?_) (fun c195 => ?_)
                    · skip
                      refine lv_iconst (v := (-1)) hx hb dX9_book_56 (by decide) ?_
                      have q196 : ((-1) : Int32).toInt = -1 := by decide
                      exact W.iret (v := (-1)) hx hb hr (fun t ht hW => ⟨⟨(-1), (), rfl, trivial, ct, by rw [ht]; exact hP, hD, hI⟩, hS.F ht⟩) hS.2.2 dX9_book_57
                    · skip
                      exact absurd c195 (by decide)
              · skip
                obtain ⟨rfl, h197⟩ := hr13
                replace h197 : ¬ (0 ≤ l2.toInt ∧ l2.toInt ≤ 4) := h197
                refine lv_if_eq (tgt := 56) hx hb dX9_book_29 (by decide) (fun c198 => ?_) (fun c198 => ?_)
                · skip
                  refine lv_iconst (v := (-1)) hx hb dX9_book_56 (by decide) ?_
                  have q199 : ((-1) : Int32).toInt = -1 := by decide
                  exact W.iret (v := (-1)) hx hb hr (fun t ht hW => ⟨⟨(-1), (), rfl, trivial, ct, by rw [ht]; exact hP, hD, hI⟩, hS.F ht⟩) hS.2.2 dX9_book_57
                · skip
                  exact absurd c198 (by decide)
          · skip
            obtain ⟨rfl, h200⟩ := hr9
            replace h200 : ¬ (0 ≤ l1.toInt ∧ l1.toInt ≤ 4) := h200
            refine lv_if_eq (tgt := 56) hx hb dX9_book_21 (by decide) (fun c201 => ?_) (fun c201 => ?_)
            · skip
              refine lv_iconst (v := (-1)) hx hb dX9_book_56 (by decide) ?_
              have q202 : ((-1) : Int32).toInt = -1 := by decide
              exact W.iret (v := (-1)) hx hb hr (fun t ht hW => ⟨⟨(-1), (), rfl, trivial, ct, by rw [ht]; exact hP, hD, hI⟩, hS.F ht⟩) hS.2.2 dX9_book_57
            · skip
              exact absurd c201 (by decide)
      · skip
        obtain ⟨rfl, h203⟩ := hr5
        replace h203 : ¬ (0 ≤ l0.toInt ∧ l0.toInt ≤ 4) := h203
        refine lv_if_eq (tgt := 56) hx hb dX9_book_14 (by decide) (fun c204 => ?_) (fun c204 => ?_)
        · skip
          refine lv_iconst (v := (-1)) hx hb dX9_book_56 (by decide) ?_
          have q205 : ((-1) : Int32).toInt = -1 := by decide
          exact W.iret (v := (-1)) hx hb hr (fun t ht hW => ⟨⟨(-1), (), rfl, trivial, ct, by rw [ht]; exact hP, hD, hI⟩, hS.F ht⟩) hS.2.2 dX9_book_57
        · skip
          exact absurd c204 (by decide)
  · skip
    obtain ⟨rfl, h206⟩ := hr1
    replace h206 : ¬ ((1 : Int) ≤ n.toInt ∧ n.toInt ≤ (8 : Int)) := h206
    refine lv_if_eq (tgt := 56) hx hb dX9_book_7 (by decide) (fun c207 => ?_) (fun c207 => ?_)
    · skip
      refine lv_iconst (v := (-1)) hx hb dX9_book_56 (by decide) ?_
      have q208 : ((-1) : Int32).toInt = -1 := by decide
      exact W.iret (v := (-1)) hx hb hr (fun t ht hW => ⟨⟨(-1), (), rfl, trivial, ct, by rw [ht]; exact hP, hD, hI⟩, hS.F ht⟩) hS.2.2 dX9_book_57
    · skip
      exact absurd c207 (by decide)

set_option maxHeartbeats 4000000 in
set_option maxRecDepth 100000 in
theorem k_X9_cut (l : Launch) (g : zG) (sz : Nat) (ad : Nat → Nat) (me : Int32) (ct : Nat → va_E) (b : Int32) (i : Int32) (hI : IR g ad me ct) : Met l yX9_cut (zW yX9_cut cX9_cut 3 (some .boolean)) ({ frames := 3, cells := 0, slots := 0, locals := 65 }) (va_Pc [.ref (ad 0), .int b, .int i] (zA g (zw 32 ad ct) sz)) (va_Qi (fun (r : Int32) (_ : Unit) => (r = 1) ∨ (r = 0)) (fun _ t => ∃ ct2 : Nat → va_E, zP g (zw 32 ad ct2) t.heap ∧ va_D (va_A (zw 32 ad ct) sz) (zw 32 ad ct2) ∧ IR g ad me ct2) (va_A (zw 32 ad ct) sz)) 0 0 (va_A (zw 32 ad ct) sz) := by
  refine Met.ofW (cc := cX9_cut) (maxL := 3) (ret := (some .boolean)) (by decide) rfl ?_
  intro p e s m args below meth c s₁ B hml hv
  obtain ⟨rfl, hsz, hP, hK, hD0, hN⟩ := hv
  have hx := B.exec
  have hb := B.bytes
  have hr := B.returns
  have hg := zW.law (atoms_spec (ws := (zW yX9_cut cX9_cut 3 (some .boolean))) B.pre)
  have hown : s.vm.findClass RX9 = some m.cls := findClass_of_methodNamed B.named
  have hlocks := B.notSynchronized
  have hpe0 := hI.1.1
  subst hsz
  have hD := hD0.self (sz := s.heap.size)
  generalize hAe : va_A (zw 32 ad ct) s.heap.size = A at hD ⊢
  have hA : ∀ q : Nat, s.heap.size ≤ q → A q := fun q h => by rw [← hAe]; exact Or.inr h
  have hS : va_S A s.heap s.heap [] := va_S.rf
  have hl := lv_entry ([.ref (ad 0), .int b, .int i]) (n := 3) (Nat.le_of_ble_eq_true rfl)
  rw [lg_entry_eq]
  generalize (lg_sl ([.ref (ad 0), .int b, .int i]) ++ List.replicate (3 - (lg_sl ([.ref (ad 0), .int b, .int i])).length) Slot.unset).toArray = ls at hl ⊢
  have hl : lv_has ls 3 [(0, .ref (ad 0)), (1, .int b), (2, .int i)] := hl
  have rg_b := z_rng b
  have rg_i := z_rng i
  refine lv_aload_n hx hb dX9_cut_0 rfl (lv_at hl 0 rfl) ?_
  refine lv_iload_n hx hb dX9_cut_1 rfl (lv_at hl 1 rfl) ?_
  refine lv_iload_n hx hb dX9_cut_2 rfl (lv_at hl 2 rfl) ?_
  obtain ⟨bks2, lks3, gos4, shn5, tpd6, pl07, ln08, flt9, opn10, cmy11, wtg12, nm013, mst14, sus15, cut16, h17, h18, h19, h20, h21, h22, h23, h24, h25, h26, h27, h28, h29, h30, h31, h32, h33, h34, h35, h36, hs1⟩ := a9_0 hI.1
  refine zc_i (va_runV (As := [.int b, .int i]) (rest := []) ⟨hx, hb, hml, hown, hg⟩ (k_X9_isThere l g ad me ct b i hI) (cwV 2 hg (z_gV mm_1166 mm_1168 mm_56 mm_117 mm_1169) rfl rfl rfl (by decide +kernel) ⟨Nat.le_of_ble_eq_true rfl, Nat.le_of_ble_eq_true rfl⟩) ⟨(zR.pre [.ref (ad 0), .int b, .int i] hP hK hN).1, va_recv hK hP (ci := 9) (q0 := 0) rfl (zw_at (by omega) hs1), (zR.pre [.ref (ad 0), .int b, .int i] hP hK hN).2⟩ rfl rfl hl.1 rfl (lv_room (Nat.le_of_ble_eq_true rfl)) dX9_cut_3 ⟨Nat.le_of_ble_eq_true rfl, Nat.le_of_ble_eq_true rfl⟩) (fun r37 hr37 => ?_)
  rcases hr37 with hr37 | hr37
  · skip
    obtain ⟨rfl, h38, h39⟩ := hr37
    replace h38 : 0 ≤ b.toInt ∧ b.toInt ≤ 3 := h38
    replace h39 : 0 ≤ i.toInt ∧ i.toInt ≤ 7 := h39
    refine lv_if_ne (tgt := 11) hx hb dX9_cut_6 (by decide) (fun c40 => ?_) (fun c40 => ?_)
    · skip
      refine lv_aload_n hx hb dX9_cut_11 rfl (lv_at hl 0 rfl) ?_
      refine va_get (D := g.1) (ci := 9) (v := .ref (ad 10)) (C := RX9) (T := TX9) (N := 47) hx hb hg inG9 hown hK hP 0 (zw_at (by omega) hs1) rfl 14 (by decide) (hg _ mm_972) (fun _ h9 => h9) rfl dX9_cut_12 ?_
      refine lv_iload_n hx hb dX9_cut_15 rfl (lv_at hl 1 rfl) ?_
      refine lv_iload_n hx hb dX9_cut_16 rfl (lv_at hl 2 rfl) ?_
      refine zc_i (va_runS (As := [.int b, .int i]) (rest := [.ref (ad 10)]) ⟨hx, hb, hml, hown, hg⟩ (k_X9_at l g ad me ct b i (by first | omega | decide) (by first | omega | decide) hI) (va_cwS 2 hg (z_gS mm_1159 mm_1160 mm_117 mm_1161) rfl rfl rfl (by decide +kernel) ⟨Nat.le_of_ble_eq_true rfl, Nat.le_of_ble_eq_true rfl⟩) (zR.pre [.int b, .int i] hP hK hN) rfl rfl hl.1 rfl (lv_room (Nat.le_of_ble_eq_true rfl)) dX9_cut_17 ⟨Nat.le_of_ble_eq_true rfl, Nat.le_of_ble_eq_true rfl⟩) (fun r41 hr41 => ?_)
      have hr41_0 := hr41
      have hr41_0 : r41.toInt = 8 * b.toInt + i.toInt := hr41_0
      refine lv_iconst (v := 1) hx hb dX9_cut_20 (by decide) ?_
      obtain ⟨f43, hp44, hs42⟩ := a9_10 hI.1
      refine va_zast hx hb hK hP hD hS 10 3 (zw_at (by omega) hs42) rfl (z_in rfl (by omega) (by omega)) dX9_cut_21 (fun H locs hP hD hS => ?_)
      have hp46 : ∀ j : Nat, j < 32 → (fun x : Int32 => x = 0 ∨ x = 1) ((upd f43 (Int32.toNatClampNeg r41) (vp_nar .boolean 1)) j) := fun j hj => by
        unfold upd
        by_cases q : j = Int32.toNatClampNeg r41
        · rw [if_pos q]; exact (show (vp_nar .boolean 1 : Int32) = 0 ∨ (vp_nar .boolean 1 : Int32) = 1 from (by decide))
        · rw [if_neg q]; exact hp44 j hj
      have hP : zP g ((zw 32 ad ct).set 10 (ad 10, .inl (g.2 3, 32, .inl (upd f43 (Int32.toNatClampNeg r41) (vp_nar .boolean 1))))) H := hP
      have hD : va_D A ((zw 32 ad ct).set 10 (ad 10, .inl (g.2 3, 32, .inl (upd f43 (Int32.toNatClampNeg r41) (vp_nar .boolean 1))))) := hD
      rw [zw_set (by omega)] at hP hD
      obtain ⟨ct47, ec48⟩ : ∃ z : Nat → va_E, z = va_up ct 10 (.inl (g.2 3, 32, .inl (upd f43 (Int32.toNatClampNeg r41) (vp_nar .boolean 1)))) := ⟨_, rfl⟩
      rw [← ec48] at hP hD
      have hI : IR g ad me ct47 := by rw [ec48]; exact upR hI (by decide) (i9_10 ⟨_, hp46, rfl⟩)
      have hs49 : ct47 0 = .inr (9, [.int me, .ref (ad 1), .ref (ad 2), .ref (ad 3), .ref (ad 4), .int bks2, .int lks3, .int gos4, .int shn5, .ref (ad 5), .ref (ad 6), .ref (ad 7), .ref (ad 8), .ref (ad 9), .ref (ad 10), .ref (ad 11), .int tpd6, .int pl07, .int ln08, .int flt9, .int opn10, .int cmy11, .int wtg12, .int nm013, .ref (ad 12), .ref (ad 13), .ref (ad 14), .ref (ad 15), .ref (ad 16), .ref (ad 17), .ref (ad 18), .ref (ad 19), .ref (ad 20), .ref (ad 21), .ref (ad 22), .ref (ad 23), .ref (ad 24), .ref (ad 25), .ref (ad 26), .ref (ad 27), .int mst14, .int sus15, .ref (ad 28), .ref (ad 29), .ref (ad 30), .ref (ad 31), .int cut16]) := by rw [ec48, va_up_ne _ _ (by omega)]; exact hs1
      have hs50 : ct47 10 = .inl (g.2 3, 32, .inl (upd f43 (Int32.toNatClampNeg r41) (vp_nar .boolean 1))) := by rw [ec48]; exact va_up_self _ _ _
      refine lv_iconst (v := 1) hx hb dX9_cut_22 (by decide) ?_
      have q51 : (1 : Int32).toInt = 1 := by decide
      exact W.zret (v := 1) hx hb hr rfl (fun t ht hW => ⟨⟨1, (), rfl, by first | exact Or.inl ⟨rfl, by omega⟩ | exact Or.inr ⟨rfl, by omega⟩ | exact Or.inl rfl | exact Or.inr rfl | exact Or.inl ⟨rfl, by omega, by omega⟩ | exact (z_01 (by omega) (by omega)).symm, ct47, by rw [ht]; exact hP, hD, hI⟩, hS.F ht⟩) hS.2.2 dX9_cut_23
    · skip
      exact absurd c40 (by decide)
  · skip
    obtain rfl := hr37
    refine lv_if_ne (tgt := 11) hx hb dX9_cut_6 (by decide) (fun c52 => ?_) (fun c52 => ?_)
    · skip
      exact absurd c52 (by decide)
    · skip
      refine lv_iconst (v := 0) hx hb dX9_cut_9 (by decide) ?_
      have q53 : (0 : Int32).toInt = 0 := by decide
      exact W.zret (v := 0) hx hb hr rfl (fun t ht hW => ⟨⟨0, (), rfl, by first | exact Or.inl ⟨rfl, by omega⟩ | exact Or.inr ⟨rfl, by omega⟩ | exact Or.inl rfl | exact Or.inr rfl | exact Or.inl ⟨rfl, by omega, by omega⟩ | exact (z_01 (by omega) (by omega)).symm, ct, by rw [ht]; exact hP, hD, hI⟩, hS.F ht⟩) hS.2.2 dX9_cut_10

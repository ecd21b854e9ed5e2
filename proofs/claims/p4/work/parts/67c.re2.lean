set_option maxHeartbeats 4000000 in
set_option maxRecDepth 100000 in
theorem k_X9_fitsOf (l : Launch) (g : zG) (sz : Nat) (ad : Nat → Nat) (me : Int32) (ct : Nat → va_E) (li : Int32) (kn : Int32) (hl_li : 0 ≤ li.toInt ∧ li.toInt ≤ 31) (hl_kn : 0 ≤ kn.toInt ∧ kn.toInt ≤ 255) (hI : IR g ad me ct) : Met l yX9_fitsOf (zW yX9_fitsOf cX9_fitsOf 7 (some .int)) ({ frames := 4, cells := 0, slots := 0, locals := 99 }) (va_Pc [.ref (ad 0), .int li, .int kn] (zA g (zw 32 ad ct) sz)) (va_Qi (fun (r : Int32) (_ : Unit) => ((0 ≤ r.toInt) ∧ (r.toInt ≤ 65535) ∧ (r.toInt < ((2 ^ me.toInt.toNat : Nat) : Int)))) (fun _ t => ∃ ct2 : Nat → va_E, zP g (zw 32 ad ct2) t.heap ∧ va_D (va_A (zw 32 ad ct) sz) (zw 32 ad ct2) ∧ IR g ad me ct2 ∧ (ct2 0 = ct 0) ∧ (ct2 5 = ct 5) ∧ (ct2 10 = ct 10)) (va_A (zw 32 ad ct) sz)) 0 0 (va_A (zw 32 ad ct) sz) := by
  refine Met.ofW (cc := cX9_fitsOf) (maxL := 7) (ret := (some .int)) (by decide) rfl ?_
  intro p e s m args below meth c s₁ B hml hv
  obtain ⟨rfl, hsz, hP, hK, hD0, hN⟩ := hv
  have hx := B.exec
  have hb := B.bytes
  have hr := B.returns
  have hg := zW.law (atoms_spec (ws := (zW yX9_fitsOf cX9_fitsOf 7 (some .int))) B.pre)
  have hown : s.vm.findClass RX9 = some m.cls := findClass_of_methodNamed B.named
  have hlocks := B.notSynchronized
  have hpe0 := hI.1.1
  subst hsz
  have hD := hD0.self (sz := s.heap.size)
  generalize hAe : va_A (zw 32 ad ct) s.heap.size = A at hD ⊢
  have hA : ∀ q : Nat, s.heap.size ≤ q → A q := fun q h => by rw [← hAe]; exact Or.inr h
  have hS : va_S A s.heap s.heap [] := va_S.rf
  have hl := lv_entry ([.ref (ad 0), .int li, .int kn]) (n := 7) (Nat.le_of_ble_eq_true rfl)
  rw [lg_entry_eq]
  generalize (lg_sl ([.ref (ad 0), .int li, .int kn]) ++ List.replicate (7 - (lg_sl ([.ref (ad 0), .int li, .int kn])).length) Slot.unset).toArray = ls at hl ⊢
  have hl : lv_has ls 7 [(0, .ref (ad 0)), (1, .int li), (2, .int kn)] := hl
  have hc0 : ct 0 = ct 0 := rfl
  have hc5 : ct 5 = ct 5 := rfl
  have hc10 : ct 10 = ct 10 := rfl
  have q0 : ((0 : Int32)).toInt = 0 := by decide
  have q1 : ((1 : Int32)).toInt = 1 := by decide
  refine lv_iload_n hx hb dX9_fitsOf_0 rfl (lv_at hl 1 rfl) ?_
  refine lv_bipush (v := 8) hx hb dX9_fitsOf_1 (by decide) ?_
  refine lv_idiv hx hb dX9_fitsOf_3 (by decide) ?_
  refine lv_topi (fun x1 ex1 => ?_)
  have tx1 := z_div (x := li) (y := 8) rfl (by decide : (8 : Int32).toInt = 8) (by omega) (by omega)
  rw [← ex1] at tx1
  refine lv_istore_n (lv' := [(3, .int x1), (0, .ref (ad 0)), (1, .int li), (2, .int kn)]) hx hb dX9_fitsOf_4 rfl hl (by decide) rfl (fun ls hl => ?_)
  refine lv_iconst (v := 0) hx hb dX9_fitsOf_5 (by decide) ?_
  refine lv_istore (lv' := [(4, .int 0), (3, .int x1), (0, .ref (ad 0)), (1, .int li), (2, .int kn)]) hx hb dX9_fitsOf_6 hl (by decide) rfl (fun ls hl => ?_)
  have loop8 : ∀ (n8 : Nat) (v4_8 : Int32) (ct2 : Nat → va_E) (H : Heap) (locs : List Loc) (ls : Array Slot), ((32 - v4_8.toInt : Int).toNat < n8) → (0 ≤ v4_8.toInt ∧ v4_8.toInt ≤ 32) → (ct2 0 = ct 0) → (ct2 5 = ct 5) → (ct2 10 = ct 10) → (IR g ad me ct2) → zP g (zw 32 ad ct2) H → va_D A (zw 32 ad ct2) → va_S A s.heap H locs → lv_has ls 7 [(4, .int v4_8), (3, .int x1), (0, .ref (ad 0)), (1, .int li), (2, .int kn)] → W p l e (headSpec (zW yX9_fitsOf cX9_fitsOf 7 (some .int)) ({ frames := 4, cells := 0, slots := 0, locals := 99 })).room s m ([.ref (ad 0), .int li, .int kn] : List Value).toArray below meth c H locs 0 0 (MQ below (va_Qi (fun (r : Int32) (_ : Unit) => ((0 ≤ r.toInt) ∧ (r.toInt ≤ 65535) ∧ (r.toInt < ((2 ^ me.toInt.toNat : Nat) : Int)))) (fun _ t => ∃ ct2 : Nat → va_E, zP g (zw 32 ad ct2) t.heap ∧ va_D A (zw 32 ad ct2) ∧ IR g ad me ct2 ∧ (ct2 0 = ct 0) ∧ (ct2 5 = ct 5) ∧ (ct2 10 = ct 10)) A) ([.ref (ad 0), .int li, .int kn] : List Value).toArray s 0 0 A) (F0 m 8 ls []) := by
    intro n8
    induction n8 with
    | zero =>
      intro v4_8 ct2 H locs ls hn8 b4_8 hc0 hc5 hc10 hI hP hD hS hl
      exact absurd hn8 (Nat.not_lt_zero _)
    | succ n8 ih8 =>
      intro v4_8 ct2 H locs ls hn8 b4_8 hc0 hc5 hc10 hI hP hD hS hl
      refine lv_iload hx hb dX9_fitsOf_8 (lv_at hl 0 rfl) ?_
      refine lv_bipush (v := 32) hx hb dX9_fitsOf_10 (by decide) ?_
      refine lv_icmp_ge (tgt := 39) hx hb dX9_fitsOf_12 (by decide) (fun c3 => ?_) (fun c3 => ?_)
      · skip
        have c3 : 32 ≤ v4_8.toInt := (z_le (by decide : (32 : Int32).toInt = 32) rfl).mp c3
        refine lv_iconst (v := 1) hx hb dX9_fitsOf_39 (by decide) ?_
        refine lv_istore (lv' := [(4, .int 1), (3, .int x1), (0, .ref (ad 0)), (1, .int li), (2, .int kn)]) hx hb dX9_fitsOf_40 hl (by decide) rfl (fun ls hl => ?_)
        obtain ⟨bks5, lks6, gos7, shn8, tpd9, pl010, ln011, flt12, opn13, cmy14, wtg15, nm016, mst17, sus18, cut19, h20, h21, h22, h23, h24, h25, h26, h27, h28, h29, h30, h31, h32, h33, h34, h35, h36, h37, h38, h39, hs4⟩ := a9_0 hI.1
        have loop42 : ∀ (n42 : Nat) (v4_42 : Int32) (ct40 : Nat → va_E) (H : Heap) (locs : List Loc) (ls : Array Slot), ((32 - zsum (zar (ct40 19)) 32 + v4_42.toInt : Int).toNat < n42) → (0 ≤ v4_42.toInt ∧ v4_42.toInt ≤ 1) → (ct40 0 = ct 0) → (ct40 5 = ct 5) → (ct40 10 = ct 10) → (IR g ad me ct40) → zP g (zw 32 ad ct40) H → va_D A (zw 32 ad ct40) → va_S A s.heap H locs → lv_has ls 7 [(4, .int v4_42), (3, .int x1), (0, .ref (ad 0)), (1, .int li), (2, .int kn)] → W p l e (headSpec (zW yX9_fitsOf cX9_fitsOf 7 (some .int)) ({ frames := 4, cells := 0, slots := 0, locals := 99 })).room s m ([.ref (ad 0), .int li, .int kn] : List Value).toArray below meth c H locs 0 0 (MQ below (va_Qi (fun (r : Int32) (_ : Unit) => ((0 ≤ r.toInt) ∧ (r.toInt ≤ 65535) ∧ (r.toInt < ((2 ^ me.toInt.toNat : Nat) : Int)))) (fun _ t => ∃ ct2 : Nat → va_E, zP g (zw 32 ad ct2) t.heap ∧ va_D A (zw 32 ad ct2) ∧ IR g ad me ct2 ∧ (ct2 0 = ct 0) ∧ (ct2 5 = ct 5) ∧ (ct2 10 = ct 10)) A) ([.ref (ad 0), .int li, .int kn] : List Value).toArray s 0 0 A) (F0 m 42 ls []) := by
          intro n42
          induction n42 with
          | zero =>
            intro v4_42 ct40 H locs ls hn42 b4_42 hc0 hc5 hc10 hI hP hD hS hl
            exact absurd hn42 (Nat.not_lt_zero _)
          | succ n42 ih42 =>
            intro v4_42 ct40 H locs ls hn42 b4_42 hc0 hc5 hc10 hI hP hD hS hl
            obtain ⟨f42, hp43, hs41⟩ := a9_19 hI.1
            have hz01 := zsum_01 (f := zar (ct40 19)) (n := 32) (fun k hk => by rw [zar_of hs41]; exact z_b01 (hp43 k hk))
            refine lv_iload hx hb dX9_fitsOf_42 (lv_at hl 0 rfl) ?_
            refine lv_if_eq (tgt := 160) hx hb dX9_fitsOf_44 (by decide) (fun c44 => ?_) (fun c44 => ?_)
            · skip
              have c44 : v4_42.toInt = 0 := (z_eq rfl (by decide : (0 : Int32).toInt = 0)).mp c44
              refine lv_iconst (v := 1) hx hb dX9_fitsOf_160 (by decide) ?_
              refine lv_aload_n hx hb dX9_fitsOf_161 rfl (lv_at hl 2 rfl) ?_
              obtain ⟨bks46, lks47, gos48, shn49, tpd50, pl051, ln052, flt53, opn54, cmy55, wtg56, nm057, mst58, sus59, cut60, h61, h62, h63, h64, h65, h66, h67, h68, h69, h70, h71, h72, h73, h74, h75, h76, h77, h78, h79, h80, hs45⟩ := a9_0 hI.1
              refine va_get (D := g.1) (ci := 9) (v := .int me) (C := RX9) (T := TX9) (N := 47) hx hb hg inG9 hown hK hP 0 (zw_at (by omega) hs45) rfl 0 (by decide) (hg _ mm_958) (fun _ h9 => h9) rfl dX9_fitsOf_162 ?_
              refine lv_ishl hx hb dX9_fitsOf_165 ?_
              refine lv_topi (fun x81 ex81 => ?_)
              have tx81 := z_shl1e (y := me) (by omega) (by omega)
              rw [← ex81] at tx81
              refine lv_iconst (v := 1) hx hb dX9_fitsOf_166 (by decide) ?_
              refine lv_isub hx hb dX9_fitsOf_167 ?_
              refine lv_topi (fun x82 ex82 => ?_)
              have tx82 : x82.toInt = x81.toInt - 1 := by rw [ex82]; exact z_sub rfl (by decide : (1 : Int32).toInt = 1) (by omega) (by omega)
              refine lv_istore (lv' := [(5, .int x82), (4, .int v4_42), (3, .int x1), (0, .ref (ad 0)), (1, .int li), (2, .int kn)]) hx hb dX9_fitsOf_168 hl (by decide) rfl (fun ls hl => ?_)
              refine lv_iconst (v := 0) hx hb dX9_fitsOf_170 (by decide) ?_
              refine lv_istore (lv' := [(6, .int 0), (5, .int x82), (4, .int v4_42), (3, .int x1), (0, .ref (ad 0)), (1, .int li), (2, .int kn)]) hx hb dX9_fitsOf_171 hl (by decide) rfl (fun ls hl => ?_)
              have loop173 : ∀ (n173 : Nat) (v6_173 : Int32) (v5_173 : Int32) (ct83 : Nat → va_E) (H : Heap) (locs : List Loc) (ls : Array Slot), ((32 - v6_173.toInt : Int).toNat < n173) → (0 ≤ v6_173.toInt ∧ v6_173.toInt ≤ 32) → (0 ≤ v5_173.toInt ∧ v5_173.toInt ≤ 65535) → (v5_173.toInt < ((2 ^ me.toInt.toNat : Nat) : Int)) → (ct83 0 = ct 0) → (ct83 5 = ct 5) → (ct83 10 = ct 10) → (IR g ad me ct83) → zP g (zw 32 ad ct83) H → va_D A (zw 32 ad ct83) → va_S A s.heap H locs → lv_has ls 7 [(6, .int v6_173), (5, .int v5_173), (4, .int v4_42), (3, .int x1), (0, .ref (ad 0)), (1, .int li), (2, .int kn)] → W p l e (headSpec (zW yX9_fitsOf cX9_fitsOf 7 (some .int)) ({ frames := 4, cells := 0, slots := 0, locals := 99 })).room s m ([.ref (ad 0), .int li, .int kn] : List Value).toArray below meth c H locs 0 0 (MQ below (va_Qi (fun (r : Int32) (_ : Unit) => ((0 ≤ r.toInt) ∧ (r.toInt ≤ 65535) ∧ (r.toInt < ((2 ^ me.toInt.toNat : Nat) : Int)))) (fun _ t => ∃ ct2 : Nat → va_E, zP g (zw 32 ad ct2) t.heap ∧ va_D A (zw 32 ad ct2) ∧ IR g ad me ct2 ∧ (ct2 0 = ct 0) ∧ (ct2 5 = ct 5) ∧ (ct2 10 = ct 10)) A) ([.ref (ad 0), .int li, .int kn] : List Value).toArray s 0 0 A) (F0 m 173 ls []) := by
                intro n173
                induction n173 with
                | zero =>
                  intro v6_173 v5_173 ct83 H locs ls hn173 b6_173 b5_173 j0_173 hc0 hc5 hc10 hI hP hD hS hl
                  exact absurd hn173 (Nat.not_lt_zero _)
                | succ n173 ih173 =>
                  intro v6_173 v5_173 ct83 H locs ls hn173 b6_173 b5_173 j0_173 hc0 hc5 hc10 hI hP hD hS hl
                  refine lv_iload hx hb dX9_fitsOf_173 (lv_at hl 0 rfl) ?_
                  refine lv_bipush (v := 32) hx hb dX9_fitsOf_175 (by decide) ?_
                  refine lv_icmp_ge (tgt := 208) hx hb dX9_fitsOf_177 (by decide) (fun c84 => ?_) (fun c84 => ?_)
                  · skip
                    have c84 : 32 ≤ v6_173.toInt := (z_le (by decide : (32 : Int32).toInt = 32) rfl).mp c84
                    refine lv_iload hx hb dX9_fitsOf_208 (lv_at hl 1 rfl) ?_
                    exact W.iret (v := v5_173) hx hb hr (fun t ht hW => ⟨⟨v5_173, (), rfl, ⟨by first | omega | decide, by first | omega | decide, by first | omega | decide⟩, ct83, by rw [ht]; exact hP, hD, hI, (by first | assumption | omega), (by first | assumption | omega), (by first | assumption | omega)⟩, hS.F ht⟩) hS.2.2 dX9_fitsOf_210
                  · skip
                    have c84 : ¬ (32 ≤ v6_173.toInt) := fun q => c84 ((z_le (by decide : (32 : Int32).toInt = 32) rfl).mpr q)
                    refine lv_aload_n hx hb dX9_fitsOf_180 rfl (lv_at hl 4 rfl) ?_
                    obtain ⟨bks86, lks87, gos88, shn89, tpd90, pl091, ln092, flt93, opn94, cmy95, wtg96, nm097, mst98, sus99, cut100, h101, h102, h103, h104, h105, h106, h107, h108, h109, h110, h111, h112, h113, h114, h115, h116, h117, h118, h119, h120, hs85⟩ := a9_0 hI.1
                    refine va_get (D := g.1) (ci := 9) (v := .ref (ad 19)) (C := RX9) (T := TX9) (N := 47) hx hb hg inG9 hown hK hP 0 (zw_at (by omega) hs85) rfl 31 (by decide) (hg _ mm_989) (fun _ h9 => h9) rfl dX9_fitsOf_181 ?_
                    refine lv_iload hx hb dX9_fitsOf_184 (lv_at hl 0 rfl) ?_
                    obtain ⟨f122, hp123, hs121⟩ := a9_19 hI.1
                    refine va_zald hx hb hK hP 19 3 (zw_at (by omega) hs121) rfl (z_in rfl (by omega) (by omega)) dX9_fitsOf_186 ?_
                    refine lv_topi (fun y124 ey124 => ?_)
                    have hy124 := hp123 _ (z_clt (x := v6_173) rfl (by omega) (by omega))
                    rw [← ey124] at hy124
                    have hy124 : y124 = 0 ∨ y124 = 1 := hy124
                    have by124 := z_b01 hy124
                    refine lv_if_eq (tgt := 202) hx hb dX9_fitsOf_187 (by decide) (fun c125 => ?_) (fun c125 => ?_)
                    · skip
                      have c125 : y124.toInt = 0 := (z_eq rfl (by decide : (0 : Int32).toInt = 0)).mp c125
                      obtain ⟨x126, ex126⟩ : ∃ y : Int32, y = v6_173 + 1 := ⟨_, rfl⟩
                      have tx126 : x126.toInt = v6_173.toInt + 1 := by rw [ex126]; exact z_add rfl (by decide : (1 : Int32).toInt = 1) (by omega) (by omega)
                      refine lv_iinc (v := x126) (lv' := [(6, .int x126), (5, .int v5_173), (4, .int v4_42), (3, .int x1), (0, .ref (ad 0)), (1, .int li), (2, .int kn)]) hx hb dX9_fitsOf_202 hl (k := 0) rfl (by rw [ex126]; rfl) (by decide) rfl (fun ls hl => ?_)
                      refine lv_goto (tgt := 173) hx hb dX9_fitsOf_205 (by decide) ?_
                      exact ih173 x126 v5_173 ct83 _ _ ls (by omega) (by first | assumption | omega | decide) (by first | assumption | omega | decide) (by first | assumption | omega | decide) (by first | assumption | omega | decide) (by first | assumption | omega | decide) (by first | assumption | omega | decide) hI hP hD hS (lv_sub hl [0, 1, 2, 3, 4, 5, 6] rfl)
                    · skip
                      have c125 : ¬ (y124.toInt = 0) := fun q => c125 ((z_eq rfl (by decide : (0 : Int32).toInt = 0)).mpr q)
                      refine lv_iload hx hb dX9_fitsOf_190 (lv_at hl 1 rfl) ?_
                      refine lv_aload_n hx hb dX9_fitsOf_192 rfl (lv_at hl 4 rfl) ?_
                      refine lv_iload hx hb dX9_fitsOf_193 (lv_at hl 0 rfl) ?_
                      refine lv_iload_n hx hb dX9_fitsOf_195 rfl (lv_at hl 6 rfl) ?_
                      have hFc := zw_free hD hS hA
                      refine va_calli (va_runV (As := [.int v6_173, .int kn]) (rest := [.int v5_173]) ⟨hx, hb, hml, hown, hg⟩ (k_X9_fitsAlone l g _ ad me ct83 v6_173 kn (by first | omega | decide) (by first | omega | decide) hI) (cwV 2 hg (z_gV mm_1305 mm_1307 mm_81 mm_117 mm_1308) rfl rfl rfl (by decide +kernel) ⟨Nat.le_of_ble_eq_true rfl, Nat.le_of_ble_eq_true rfl⟩) ⟨(zA.pre [.ref (ad 0), .int v6_173, .int kn] hP hK hD hN).1, va_recv hK hP (ci := 9) (q0 := 0) rfl (zw_at (by omega) hs85), (zA.pre [.ref (ad 0), .int v6_173, .int kn] hP hK hD hN).2⟩ rfl rfl hl.1 rfl (lv_room (Nat.le_of_ble_eq_true rfl)) dX9_fitsOf_196 ⟨Nat.le_of_ble_eq_true rfl, Nat.le_of_ble_eq_true rfl⟩) hS (fun q _ h => hFc q h) hFc (fun r127 _ t H1 locs ht hvm hr127 hB hz1 hk1 hS => ?_)
                      obtain ⟨ct128, hP1, hD1, hI, hk129, hk130, hk131, hk132⟩ := hB
                      rw [ht] at hP1
                      have hD := hD1.weaken (fun _ _ _ h => hFc _ h)
                      generalize H1 = H at hP1 hS ⊢
                      have hP := hP1
                      refine W.widen (k := 0) (n := 0) (Nat.le_refl _) (Nat.le_refl _) ?_
                      have hc0 : ct128 0 = ct 0 := hk129.trans hc0
                      have hc5 : ct128 5 = ct 5 := hk130.trans hc5
                      have hc10 : ct128 10 = ct 10 := hk131.trans hc10
                      have hs133 : ct128 0 = .inr (9, [.int me, .ref (ad 1), .ref (ad 2), .ref (ad 3), .ref (ad 4), .int bks86, .int lks87, .int gos88, .int shn89, .ref (ad 5), .ref (ad 6), .ref (ad 7), .ref (ad 8), .ref (ad 9), .ref (ad 10), .ref (ad 11), .int tpd90, .int pl091, .int ln092, .int flt93, .int opn94, .int cmy95, .int wtg96, .int nm097, .ref (ad 12), .ref (ad 13), .ref (ad 14), .ref (ad 15), .ref (ad 16), .ref (ad 17), .ref (ad 18), .ref (ad 19), .ref (ad 20), .ref (ad 21), .ref (ad 22), .ref (ad 23), .ref (ad 24), .ref (ad 25), .ref (ad 26), .ref (ad 27), .int mst98, .int sus99, .ref (ad 28), .ref (ad 29), .ref (ad 30), .ref (ad 31), .int cut100]) := hk129.trans hs85
                      have hs134 : ct128 19 = .inl (g.2 3, 32, .inl f122) := hk132.trans hs121
                      obtain ⟨hr127_0, hr127_1⟩ := hr127
                      have hr127_0 : 0 ≤ r127.toInt := hr127_0
                      have hr127_1 : r127.toInt ≤ 65535 := hr127_1
                      refine lv_iand hx hb dX9_fitsOf_199 ?_
                      refine lv_topi (fun x135 ex135 => ?_)
                      have tx135 := z_andl (x := v5_173) (y := r127) rfl (by omega)
                      rw [← ex135] at tx135
                      refine lv_istore (lv' := [(5, .int x135), (6, .int v6_173), (4, .int v4_42), (3, .int x1), (0, .ref (ad 0)), (1, .int li), (2, .int kn)]) hx hb dX9_fitsOf_200 hl (by decide) rfl (fun ls hl => ?_)
                      obtain ⟨x136, ex136⟩ : ∃ y : Int32, y = v6_173 + 1 := ⟨_, rfl⟩
                      have tx136 : x136.toInt = v6_173.toInt + 1 := by rw [ex136]; exact z_add rfl (by decide : (1 : Int32).toInt = 1) (by omega) (by omega)
                      refine lv_iinc (v := x136) (lv' := [(6, .int x136), (5, .int x135), (4, .int v4_42), (3, .int x1), (0, .ref (ad 0)), (1, .int li), (2, .int kn)]) hx hb dX9_fitsOf_202 hl (k := 1) rfl (by rw [ex136]; rfl) (by decide) rfl (fun ls hl => ?_)
                      refine lv_goto (tgt := 173) hx hb dX9_fitsOf_205 (by decide) ?_
                      exact ih173 x136 x135 ct128 _ _ ls (by omega) (by first | assumption | omega | decide) (by first | assumption | omega | decide) (by first | assumption | omega | decide) (by first | assumption | omega | decide) (by first | assumption | omega | decide) (by first | assumption | omega | decide) hI hP hD hS (lv_sub hl [0, 1, 2, 3, 4, 5, 6] rfl)
              exact loop173 ((32 - (0 : Int32).toInt : Int).toNat + 1) (0 : Int32) x82 ct40 _ _ ls (by omega) (by first | assumption | omega | decide) (by first | assumption | omega | decide) (by first | assumption | omega | decide) (by first | assumption | omega | decide) (by first | assumption | omega | decide) (by first | assumption | omega | decide) hI hP hD hS (lv_sub hl [0, 1, 2, 3, 4, 5, 6] rfl)
            · skip
              have c44 : ¬ (v4_42.toInt = 0) := fun q => c44 ((z_eq rfl (by decide : (0 : Int32).toInt = 0)).mpr q)
              refine lv_iconst (v := 0) hx hb dX9_fitsOf_47 (by decide) ?_
              refine lv_istore (lv' := [(4, .int 0), (3, .int x1), (0, .ref (ad 0)), (1, .int li), (2, .int kn)]) hx hb dX9_fitsOf_48 hl (by decide) rfl (fun ls hl => ?_)
              refine lv_iconst (v := 0) hx hb dX9_fitsOf_50 (by decide) ?_
              refine lv_istore (lv' := [(5, .int 0), (4, .int 0), (3, .int x1), (0, .ref (ad 0)), (1, .int li), (2, .int kn)]) hx hb dX9_fitsOf_51 hl (by decide) rfl (fun ls hl => ?_)
              obtain ⟨bks138, lks139, gos140, shn141, tpd142, pl0143, ln0144, flt145, opn146, cmy147, wtg148, nm0149, mst150, sus151, cut152, h153, h154, h155, h156, h157, h158, h159, h160, h161, h162, h163, h164, h165, h166, h167, h168, h169, h170, h171, h172, hs137⟩ := a9_0 hI.1
              have loop53 : ∀ (n53 : Nat) (v5_53 : Int32) (v4_53 : Int32) (ct173 : Nat → va_E) (H : Heap) (locs : List Loc) (ls : Array Slot), ((40 - v5_53.toInt : Int).toNat < n53) → (0 ≤ v4_53.toInt ∧ v4_53.toInt ≤ 1) → (0 ≤ v5_53.toInt ∧ v5_53.toInt ≤ 40) → (zsum (zar (ct40 19)) 32 + v4_53.toInt ≤ zsum (zar (ct173 19)) 32) → (ct173 0 = ct 0) → (ct173 5 = ct 5) → (ct173 10 = ct 10) → (IR g ad me ct173) → zP g (zw 32 ad ct173) H → va_D A (zw 32 ad ct173) → va_S A s.heap H locs → lv_has ls 7 [(5, .int v5_53), (4, .int v4_53), (3, .int x1), (0, .ref (ad 0)), (1, .int li), (2, .int kn)] → W p l e (headSpec (zW yX9_fitsOf cX9_fitsOf 7 (some .int)) ({ frames := 4, cells := 0, slots := 0, locals := 99 })).room s m ([.ref (ad 0), .int li, .int kn] : List Value).toArray below meth c H locs 0 0 (MQ below (va_Qi (fun (r : Int32) (_ : Unit) => ((0 ≤ r.toInt) ∧ (r.toInt ≤ 65535) ∧ (r.toInt < ((2 ^ me.toInt.toNat : Nat) : Int)))) (fun _ t => ∃ ct2 : Nat → va_E, zP g (zw 32 ad ct2) t.heap ∧ va_D A (zw 32 ad ct2) ∧ IR g ad me ct2 ∧ (ct2 0 = ct 0) ∧ (ct2 5 = ct 5) ∧ (ct2 10 = ct 10)) A) ([.ref (ad 0), .int li, .int kn] : List Value).toArray s 0 0 A) (F0 m 53 ls []) := by
                intro n53
                induction n53 with
                | zero =>
                  intro v5_53 v4_53 ct173 H locs ls hn53 b4_53 b5_53 j0_53 hc0 hc5 hc10 hI hP hD hS hl
                  exact absurd hn53 (Nat.not_lt_zero _)
                | succ n53 ih53 =>
                  intro v5_53 v4_53 ct173 H locs ls hn53 b4_53 b5_53 j0_53 hc0 hc5 hc10 hI hP hD hS hl
                  refine lv_iload hx hb dX9_fitsOf_53 (lv_at hl 0 rfl) ?_
                  refine lv_aload_n hx hb dX9_fitsOf_55 rfl (lv_at hl 3 rfl) ?_
                  obtain ⟨bks175, lks176, gos177, shn178, tpd179, pl0180, ln0181, flt182, opn183, cmy184, wtg185, nm0186, mst187, sus188, cut189, h190, h191, h192, h193, h194, h195, h196, h197, h198, h199, h200, h201, h202, h203, h204, h205, h206, h207, h208, h209, hs174⟩ := a9_0 hI.1
                  refine va_get (D := g.1) (ci := 9) (v := .int lks176) (C := RX9) (T := TX9) (N := 47) hx hb hg inG9 hown hK hP 0 (zw_at (by omega) hs174) rfl 6 (by decide) (hg _ mm_964) (fun _ h9 => h9) rfl dX9_fitsOf_56 ?_
                  refine lv_icmp_ge (tgt := 157) hx hb dX9_fitsOf_59 (by decide) (fun c210 => ?_) (fun c210 => ?_)
                  · skip
                    have c210 : lks176.toInt ≤ v5_53.toInt := (z_le rfl rfl).mp c210
                    refine lv_goto (tgt := 42) hx hb dX9_fitsOf_157 (by decide) ?_
                    exact ih42 v4_53 ct173 _ _ ls (by omega) (by first | assumption | omega | decide) (by first | assumption | omega | decide) (by first | assumption | omega | decide) (by first | assumption | omega | decide) hI hP hD hS (lv_sub hl [1, 2, 3, 4, 5] rfl)
                  · skip
                    have c210 : ¬ (lks176.toInt ≤ v5_53.toInt) := fun q => c210 ((z_le rfl rfl).mpr q)
                    refine lv_aload_n hx hb dX9_fitsOf_62 rfl (lv_at hl 3 rfl) ?_
                    refine lv_aload_n hx hb dX9_fitsOf_63 rfl (lv_at hl 3 rfl) ?_
                    refine va_get (D := g.1) (ci := 9) (v := .ref (ad 8)) (C := RX9) (T := TX9) (N := 47) hx hb hg inG9 hown hK hP 0 (zw_at (by omega) hs174) rfl 12 (by decide) (hg _ mm_970) (fun _ h9 => h9) rfl dX9_fitsOf_64 ?_
                    refine lv_iload hx hb dX9_fitsOf_67 (lv_at hl 0 rfl) ?_
                    obtain ⟨f212, hp213, hs211⟩ := a9_8 hI.1
                    refine va_iald hx hb hK hP 8 0 (zw_at (by omega) hs211) rfl (z_in rfl (by omega) (by omega)) dX9_fitsOf_69 ?_
                    refine lv_topi (fun y214 ey214 => ?_)
                    have hy214 := hp213 _ (z_clt (x := v5_53) rfl (by omega) (by omega))
                    rw [← ey214] at hy214
                    have hy214 : 0 ≤ y214.toInt ∧ y214.toInt ≤ 31 := hy214
                    refine lv_iload_n hx hb dX9_fitsOf_70 rfl (lv_at hl 2 rfl) ?_
                    refine zc_i (va_runV (As := [.int y214, .int x1]) (rest := []) ⟨hx, hb, hml, hown, hg⟩ (k_X9_mayLead l g ad me ct173 y214 x1 (by first | omega | decide) (by first | omega | decide) hI) (cwV 2 hg (z_gV mm_1301 mm_1303 mm_80 mm_117 mm_1304) rfl rfl rfl (by decide +kernel) ⟨Nat.le_of_ble_eq_true rfl, Nat.le_of_ble_eq_true rfl⟩) ⟨(zR.pre [.ref (ad 0), .int y214, .int x1] hP hK hN).1, va_recv hK hP (ci := 9) (q0 := 0) rfl (zw_at (by omega) hs174), (zR.pre [.ref (ad 0), .int y214, .int x1] hP hK hN).2⟩ rfl rfl hl.1 rfl (lv_room (Nat.le_of_ble_eq_true rfl)) dX9_fitsOf_71 ⟨Nat.le_of_ble_eq_true rfl, Nat.le_of_ble_eq_true rfl⟩) (fun r215 hr215 => ?_)
                    rcases hr215 with hr215 | hr215
                    · skip
                      obtain rfl := hr215
                      refine lv_if_eq (tgt := 151) hx hb dX9_fitsOf_74 (by decide) (fun c216 => ?_) (fun c216 => ?_)
                      · skip
                        exact absurd c216 (by decide)
                      · skip
                        refine lv_aload_n hx hb dX9_fitsOf_77 rfl (lv_at hl 3 rfl) ?_
                        refine lv_aload_n hx hb dX9_fitsOf_78 rfl (lv_at hl 3 rfl) ?_
                        refine va_get (D := g.1) (ci := 9) (v := .ref (ad 9)) (C := RX9) (T := TX9) (N := 47) hx hb hg inG9 hown hK hP 0 (zw_at (by omega) hs174) rfl 13 (by decide) (hg _ mm_971) (fun _ h9 => h9) rfl dX9_fitsOf_79 ?_
                        refine lv_iload hx hb dX9_fitsOf_82 (lv_at hl 0 rfl) ?_
                        obtain ⟨f218, hp219, hs217⟩ := a9_9 hI.1
                        refine va_iald hx hb hK hP 9 0 (zw_at (by omega) hs217) rfl (z_in rfl (by omega) (by omega)) dX9_fitsOf_84 ?_
                        refine lv_topi (fun y220 ey220 => ?_)
                        have hy220 := hp219 _ (z_clt (x := v5_53) rfl (by omega) (by omega))
                        rw [← ey220] at hy220
                        have hy220 : 0 ≤ y220.toInt ∧ y220.toInt ≤ 31 := hy220
                        refine lv_iload_n hx hb dX9_fitsOf_85 rfl (lv_at hl 2 rfl) ?_
                        refine zc_i (va_runV (As := [.int y220, .int x1]) (rest := []) ⟨hx, hb, hml, hown, hg⟩ (k_X9_mayLead l g ad me ct173 y220 x1 (by first | omega | decide) (by first | omega | decide) hI) (cwV 2 hg (z_gV mm_1301 mm_1303 mm_80 mm_117 mm_1304) rfl rfl rfl (by decide +kernel) ⟨Nat.le_of_ble_eq_true rfl, Nat.le_of_ble_eq_true rfl⟩) ⟨(zR.pre [.ref (ad 0), .int y220, .int x1] hP hK hN).1, va_recv hK hP (ci := 9) (q0 := 0) rfl (zw_at (by omega) hs174), (zR.pre [.ref (ad 0), .int y220, .int x1] hP hK hN).2⟩ rfl rfl hl.1 rfl (lv_room (Nat.le_of_ble_eq_true rfl)) dX9_fitsOf_86 ⟨Nat.le_of_ble_eq_true rfl, Nat.le_of_ble_eq_true rfl⟩) (fun r221 hr221 => ?_)
                        rcases hr221 with hr221 | hr221
                        · skip
                          obtain rfl := hr221
                          refine lv_if_eq (tgt := 151) hx hb dX9_fitsOf_89 (by decide) (fun c222 => ?_) (fun c222 => ?_)
                          · skip
                            exact absurd c222 (by decide)
                          · skip
                            refine lv_aload_n hx hb dX9_fitsOf_92 rfl (lv_at hl 3 rfl) ?_
                            refine va_get (D := g.1) (ci := 9) (v := .ref (ad 19)) (C := RX9) (T := TX9) (N := 47) hx hb hg inG9 hown hK hP 0 (zw_at (by omega) hs174) rfl 31 (by decide) (hg _ mm_989) (fun _ h9 => h9) rfl dX9_fitsOf_93 ?_
                            refine lv_aload_n hx hb dX9_fitsOf_96 rfl (lv_at hl 3 rfl) ?_
                            refine va_get (D := g.1) (ci := 9) (v := .ref (ad 8)) (C := RX9) (T := TX9) (N := 47) hx hb hg inG9 hown hK hP 0 (zw_at (by omega) hs174) rfl 12 (by decide) (hg _ mm_970) (fun _ h9 => h9) rfl dX9_fitsOf_97 ?_
                            refine lv_iload hx hb dX9_fitsOf_100 (lv_at hl 0 rfl) ?_
                            refine va_iald hx hb hK hP 8 0 (zw_at (by omega) hs211) rfl (z_in rfl (by omega) (by omega)) dX9_fitsOf_102 ?_
                            refine lv_topi (fun y223 ey223 => ?_)
                            obtain rfl : y214 = y223 := ey214.trans ey223.symm
                            obtain ⟨f225, hp226, hs224⟩ := a9_19 hI.1
                            refine va_zald hx hb hK hP 19 3 (zw_at (by omega) hs224) rfl (z_in rfl (by omega) (by omega)) dX9_fitsOf_103 ?_
                            refine lv_topi (fun y227 ey227 => ?_)
                            have hy227 := hp226 _ (z_clt (x := y214) rfl (by omega) (by omega))
                            rw [← ey227] at hy227
                            have hy227 : y227 = 0 ∨ y227 = 1 := hy227
                            have by227 := z_b01 hy227
                            refine lv_aload_n hx hb dX9_fitsOf_104 rfl (lv_at hl 3 rfl) ?_
                            refine va_get (D := g.1) (ci := 9) (v := .ref (ad 19)) (C := RX9) (T := TX9) (N := 47) hx hb hg inG9 hown hK hP 0 (zw_at (by omega) hs174) rfl 31 (by decide) (hg _ mm_989) (fun _ h9 => h9) rfl dX9_fitsOf_105 ?_
                            refine lv_aload_n hx hb dX9_fitsOf_108 rfl (lv_at hl 3 rfl) ?_
                            refine va_get (D := g.1) (ci := 9) (v := .ref (ad 9)) (C := RX9) (T := TX9) (N := 47) hx hb hg inG9 hown hK hP 0 (zw_at (by omega) hs174) rfl 13 (by decide) (hg _ mm_971) (fun _ h9 => h9) rfl dX9_fitsOf_109 ?_
                            refine lv_iload hx hb dX9_fitsOf_112 (lv_at hl 0 rfl) ?_
                            refine va_iald hx hb hK hP 9 0 (zw_at (by omega) hs217) rfl (z_in rfl (by omega) (by omega)) dX9_fitsOf_114 ?_
                            refine lv_topi (fun y228 ey228 => ?_)
                            obtain rfl : y220 = y228 := ey220.trans ey228.symm
                            refine va_zald hx hb hK hP 19 3 (zw_at (by omega) hs224) rfl (z_in rfl (by omega) (by omega)) dX9_fitsOf_115 ?_
                            refine lv_topi (fun y229 ey229 => ?_)
                            have hy229 := hp226 _ (z_clt (x := y220) rfl (by omega) (by omega))
                            rw [← ey229] at hy229
                            have hy229 : y229 = 0 ∨ y229 = 1 := hy229
                            have by229 := z_b01 hy229
                            refine lv_icmp_ne (tgt := 122) hx hb dX9_fitsOf_116 (by decide) (fun c230 => ?_) (fun c230 => ?_)
                            · skip
                              have c230 : ¬ (y227.toInt = y229.toInt) := fun q => c230 ((z_eq rfl rfl).mpr q)
                              refine lv_aload_n hx hb dX9_fitsOf_122 rfl (lv_at hl 3 rfl) ?_
                              refine va_get (D := g.1) (ci := 9) (v := .ref (ad 19)) (C := RX9) (T := TX9) (N := 47) hx hb hg inG9 hown hK hP 0 (zw_at (by omega) hs174) rfl 31 (by decide) (hg _ mm_989) (fun _ h9 => h9) rfl dX9_fitsOf_123 ?_
                              refine lv_aload_n hx hb dX9_fitsOf_126 rfl (lv_at hl 3 rfl) ?_
                              refine va_get (D := g.1) (ci := 9) (v := .ref (ad 8)) (C := RX9) (T := TX9) (N := 47) hx hb hg inG9 hown hK hP 0 (zw_at (by omega) hs174) rfl 12 (by decide) (hg _ mm_970) (fun _ h9 => h9) rfl dX9_fitsOf_127 ?_
                              refine lv_iload hx hb dX9_fitsOf_130 (lv_at hl 0 rfl) ?_
                              refine va_iald hx hb hK hP 8 0 (zw_at (by omega) hs211) rfl (z_in rfl (by omega) (by omega)) dX9_fitsOf_132 ?_
                              refine lv_topi (fun y231 ey231 => ?_)
                              obtain rfl : y214 = y231 := ey214.trans ey231.symm
                              refine lv_iconst (v := 1) hx hb dX9_fitsOf_133 (by decide) ?_
                              refine va_zast hx hb hK hP hD hS 19 3 (zw_at (by omega) hs224) rfl (z_in rfl (by omega) (by omega)) dX9_fitsOf_134 (fun H locs hP hD hS => ?_)
                              have hp233 : ∀ j : Nat, j < 32 → (fun x : Int32 => x = 0 ∨ x = 1) ((upd f225 (Int32.toNatClampNeg y214) (vp_nar .boolean 1)) j) := fun j hj => by
                                unfold upd
                                by_cases q : j = Int32.toNatClampNeg y214
                                · rw [if_pos q]; exact (show (vp_nar .boolean 1 : Int32) = 0 ∨ (vp_nar .boolean 1 : Int32) = 1 from (by decide))
                                · rw [if_neg q]; exact hp226 j hj
                              have hP : zP g ((zw 32 ad ct173).set 19 (ad 19, .inl (g.2 3, 32, .inl (upd f225 (Int32.toNatClampNeg y214) (vp_nar .boolean 1))))) H := hP
                              have hD : va_D A ((zw 32 ad ct173).set 19 (ad 19, .inl (g.2 3, 32, .inl (upd f225 (Int32.toNatClampNeg y214) (vp_nar .boolean 1))))) := hD
                              rw [zw_set (by omega)] at hP hD
                              obtain ⟨ct234, ec235⟩ : ∃ z : Nat → va_E, z = va_up ct173 19 (.inl (g.2 3, 32, .inl (upd f225 (Int32.toNatClampNeg y214) (vp_nar .boolean 1)))) := ⟨_, rfl⟩
                              rw [← ec235] at hP hD
                              have hI : IR g ad me ct234 := by rw [ec235]; exact upR hI (by decide) (i9_19 ⟨_, hp233, rfl⟩)
                              have hc0 : ct234 0 = ct 0 := by rw [ec235]; exact (va_up_ne _ _ (by omega)).trans hc0
                              have hc5 : ct234 5 = ct 5 := by rw [ec235]; exact (va_up_ne _ _ (by omega)).trans hc5
                              have hc10 : ct234 10 = ct 10 := by rw [ec235]; exact (va_up_ne _ _ (by omega)).trans hc10
                              have hs236 : ct234 0 = .inr (9, [.int me, .ref (ad 1), .ref (ad 2), .ref (ad 3), .ref (ad 4), .int bks175, .int lks176, .int gos177, .int shn178, .ref (ad 5), .ref (ad 6), .ref (ad 7), .ref (ad 8), .ref (ad 9), .ref (ad 10), .ref (ad 11), .int tpd179, .int pl0180, .int ln0181, .int flt182, .int opn183, .int cmy184, .int wtg185, .int nm0186, .ref (ad 12), .ref (ad 13), .ref (ad 14), .ref (ad 15), .ref (ad 16), .ref (ad 17), .ref (ad 18), .ref (ad 19), .ref (ad 20), .ref (ad 21), .ref (ad 22), .ref (ad 23), .ref (ad 24), .ref (ad 25), .ref (ad 26), .ref (ad 27), .int mst187, .int sus188, .ref (ad 28), .ref (ad 29), .ref (ad 30), .ref (ad 31), .int cut189]) := by rw [ec235, va_up_ne _ _ (by omega)]; exact hs174
                              have hs237 : ct234 8 = .inl (g.2 0, 40, .inl f212) := by rw [ec235, va_up_ne _ _ (by omega)]; exact hs211
                              have hs238 : ct234 9 = .inl (g.2 0, 40, .inl f218) := by rw [ec235, va_up_ne _ _ (by omega)]; exact hs217
                              have hs239 : ct234 19 = .inl (g.2 3, 32, .inl (upd f225 (Int32.toNatClampNeg y214) (vp_nar .boolean 1))) := by rw [ec235]; exact va_up_self _ _ _
                              refine lv_aload_n hx hb dX9_fitsOf_135 rfl (lv_at hl 3 rfl) ?_
                              refine va_get (D := g.1) (ci := 9) (v := .ref (ad 19)) (C := RX9) (T := TX9) (N := 47) hx hb hg inG9 hown hK hP 0 (zw_at (by omega) hs236) rfl 31 (by decide) (hg _ mm_989) (fun _ h9 => h9) rfl dX9_fitsOf_136 ?_
                              refine lv_aload_n hx hb dX9_fitsOf_139 rfl (lv_at hl 3 rfl) ?_
                              refine va_get (D := g.1) (ci := 9) (v := .ref (ad 9)) (C := RX9) (T := TX9) (N := 47) hx hb hg inG9 hown hK hP 0 (zw_at (by omega) hs236) rfl 13 (by decide) (hg _ mm_971) (fun _ h9 => h9) rfl dX9_fitsOf_140 ?_
                              refine lv_iload hx hb dX9_fitsOf_143 (lv_at hl 0 rfl) ?_
                              refine va_iald hx hb hK hP 9 0 (zw_at (by omega) hs238) rfl (z_in rfl (by omega) (by omega)) dX9_fitsOf_145 ?_
                              refine lv_topi (fun y240 ey240 => ?_)
                              obtain rfl : y220 = y240 := ey220.trans ey240.symm
                              refine lv_iconst (v := 1) hx hb dX9_fitsOf_146 (by decide) ?_
                              refine va_zast hx hb hK hP hD hS 19 3 (zw_at (by omega) hs239) rfl (z_in rfl (by omega) (by omega)) dX9_fitsOf_147 (fun H locs hP hD hS => ?_)
                              have hp242 : ∀ j : Nat, j < 32 → (fun x : Int32 => x = 0 ∨ x = 1) ((upd (upd f225 (Int32.toNatClampNeg y214) (vp_nar .boolean 1)) (Int32.toNatClampNeg y220) (vp_nar .boolean 1)) j) := fun j hj => by
                                unfold upd
                                by_cases q : j = Int32.toNatClampNeg y220
                                · rw [if_pos q]; exact (show (vp_nar .boolean 1 : Int32) = 0 ∨ (vp_nar .boolean 1 : Int32) = 1 from (by decide))
                                · rw [if_neg q]; exact hp233 j hj
                              have hP : zP g ((zw 32 ad ct234).set 19 (ad 19, .inl (g.2 3, 32, .inl (upd (upd f225 (Int32.toNatClampNeg y214) (vp_nar .boolean 1)) (Int32.toNatClampNeg y220) (vp_nar .boolean 1))))) H := hP
                              have hD : va_D A ((zw 32 ad ct234).set 19 (ad 19, .inl (g.2 3, 32, .inl (upd (upd f225 (Int32.toNatClampNeg y214) (vp_nar .boolean 1)) (Int32.toNatClampNeg y220) (vp_nar .boolean 1))))) := hD
                              rw [zw_set (by omega)] at hP hD
                              obtain ⟨ct243, ec244⟩ : ∃ z : Nat → va_E, z = va_up ct234 19 (.inl (g.2 3, 32, .inl (upd (upd f225 (Int32.toNatClampNeg y214) (vp_nar .boolean 1)) (Int32.toNatClampNeg y220) (vp_nar .boolean 1)))) := ⟨_, rfl⟩
                              rw [← ec244] at hP hD
                              have hI : IR g ad me ct243 := by rw [ec244]; exact upR hI (by decide) (i9_19 ⟨_, hp242, rfl⟩)
                              have hc0 : ct243 0 = ct 0 := by rw [ec244]; exact (va_up_ne _ _ (by omega)).trans hc0
                              have hc5 : ct243 5 = ct 5 := by rw [ec244]; exact (va_up_ne _ _ (by omega)).trans hc5
                              have hc10 : ct243 10 = ct 10 := by rw [ec244]; exact (va_up_ne _ _ (by omega)).trans hc10
                              have hs245 : ct243 0 = .inr (9, [.int me, .ref (ad 1), .ref (ad 2), .ref (ad 3), .ref (ad 4), .int bks175, .int lks176, .int gos177, .int shn178, .ref (ad 5), .ref (ad 6), .ref (ad 7), .ref (ad 8), .ref (ad 9), .ref (ad 10), .ref (ad 11), .int tpd179, .int pl0180, .int ln0181, .int flt182, .int opn183, .int cmy184, .int wtg185, .int nm0186, .ref (ad 12), .ref (ad 13), .ref (ad 14), .ref (ad 15), .ref (ad 16), .ref (ad 17), .ref (ad 18), .ref (ad 19), .ref (ad 20), .ref (ad 21), .ref (ad 22), .ref (ad 23), .ref (ad 24), .ref (ad 25), .ref (ad 26), .ref (ad 27), .int mst187, .int sus188, .ref (ad 28), .ref (ad 29), .ref (ad 30), .ref (ad 31), .int cut189]) := by rw [ec244, va_up_ne _ _ (by omega)]; exact hs236
                              have hs246 : ct243 8 = .inl (g.2 0, 40, .inl f212) := by rw [ec244, va_up_ne _ _ (by omega)]; exact hs237
                              have hs247 : ct243 9 = .inl (g.2 0, 40, .inl f218) := by rw [ec244, va_up_ne _ _ (by omega)]; exact hs238
                              have hs248 : ct243 19 = .inl (g.2 3, 32, .inl (upd (upd f225 (Int32.toNatClampNeg y214) (vp_nar .boolean 1)) (Int32.toNatClampNeg y220) (vp_nar .boolean 1))) := by rw [ec244]; exact va_up_self _ _ _
                              have hzs := zsum_set (R := f225) (a := Int32.toNatClampNeg y214) (b := Int32.toNatClampNeg y220) (v := vp_nar .boolean 1) (by decide) (fun k hk => z_b01 (hp226 k hk)) (z_clt (x := y214) rfl (by omega) (by omega)) (z_clt (x := y220) rfl (by omega) (by omega)) (by rw [← ey227, ← ey229]; omega)
                              have hzt : zsum (zar (ct173 19)) 32 < zsum (zar (ct243 19)) 32 := by rw [zar_of hs224, zar_of hs248]; exact hzs
                              refine lv_iconst (v := 1) hx hb dX9_fitsOf_148 (by decide) ?_
                              refine lv_istore (lv' := [(4, .int 1), (5, .int v5_53), (3, .int x1), (0, .ref (ad 0)), (1, .int li), (2, .int kn)]) hx hb dX9_fitsOf_149 hl (by decide) rfl (fun ls hl => ?_)
                              obtain ⟨x249, ex249⟩ : ∃ y : Int32, y = v5_53 + 1 := ⟨_, rfl⟩
                              have tx249 : x249.toInt = v5_53.toInt + 1 := by rw [ex249]; exact z_add rfl (by decide : (1 : Int32).toInt = 1) (by omega) (by omega)
                              refine lv_iinc (v := x249) (lv' := [(5, .int x249), (4, .int 1), (3, .int x1), (0, .ref (ad 0)), (1, .int li), (2, .int kn)]) hx hb dX9_fitsOf_151 hl (k := 1) rfl (by rw [ex249]; rfl) (by decide) rfl (fun ls hl => ?_)
                              refine lv_goto (tgt := 53) hx hb dX9_fitsOf_154 (by decide) ?_
                              exact ih53 x249 (1 : Int32) ct243 _ _ ls (by omega) (by first | assumption | omega | decide) (by first | assumption | omega | decide) (by first | assumption | omega | decide) (by first | assumption | omega | decide) (by first | assumption | omega | decide) (by first | assumption | omega | decide) hI hP hD hS (lv_sub hl [0, 1, 2, 3, 4, 5] rfl)
                            · skip
                              have c230 : y227.toInt = y229.toInt := (z_eq rfl rfl).mp c230
                              refine lv_goto (tgt := 151) hx hb dX9_fitsOf_119 (by decide) ?_
                              obtain ⟨x250, ex250⟩ : ∃ y : Int32, y = v5_53 + 1 := ⟨_, rfl⟩
                              have tx250 : x250.toInt = v5_53.toInt + 1 := by rw [ex250]; exact z_add rfl (by decide : (1 : Int32).toInt = 1) (by omega) (by omega)
                              refine lv_iinc (v := x250) (lv' := [(5, .int x250), (4, .int v4_53), (3, .int x1), (0, .ref (ad 0)), (1, .int li), (2, .int kn)]) hx hb dX9_fitsOf_151 hl (k := 0) rfl (by rw [ex250]; rfl) (by decide) rfl (fun ls hl => ?_)
                              refine lv_goto (tgt := 53) hx hb dX9_fitsOf_154 (by decide) ?_
                              exact ih53 x250 v4_53 ct173 _ _ ls (by omega) (by first | assumption | omega | decide) (by first | assumption | omega | decide) (by first | assumption | omega | decide) (by first | assumption | omega | decide) (by first | assumption | omega | decide) (by first | assumption | omega | decide) hI hP hD hS (lv_sub hl [0, 1, 2, 3, 4, 5] rfl)
                        · skip
                          obtain rfl := hr221
                          refine lv_if_eq (tgt := 151) hx hb dX9_fitsOf_89 (by decide) (fun c251 => ?_) (fun c251 => ?_)
                          · skip
                            obtain ⟨x252, ex252⟩ : ∃ y : Int32, y = v5_53 + 1 := ⟨_, rfl⟩
                            have tx252 : x252.toInt = v5_53.toInt + 1 := by rw [ex252]; exact z_add rfl (by decide : (1 : Int32).toInt = 1) (by omega) (by omega)
                            refine lv_iinc (v := x252) (lv' := [(5, .int x252), (4, .int v4_53), (3, .int x1), (0, .ref (ad 0)), (1, .int li), (2, .int kn)]) hx hb dX9_fitsOf_151 hl (k := 0) rfl (by rw [ex252]; rfl) (by decide) rfl (fun ls hl => ?_)
                            refine lv_goto (tgt := 53) hx hb dX9_fitsOf_154 (by decide) ?_
                            exact ih53 x252 v4_53 ct173 _ _ ls (by omega) (by first | assumption | omega | decide) (by first | assumption | omega | decide) (by first | assumption | omega | decide) (by first | assumption | omega | decide) (by first | assumption | omega | decide) (by first | assumption | omega | decide) hI hP hD hS (lv_sub hl [0, 1, 2, 3, 4, 5] rfl)
                          · skip
                            exact absurd c251 (by decide)
                    · skip
                      obtain rfl := hr215
                      refine lv_if_eq (tgt := 151) hx hb dX9_fitsOf_74 (by decide) (fun c253 => ?_) (fun c253 => ?_)
                      · skip
                        obtain ⟨x254, ex254⟩ : ∃ y : Int32, y = v5_53 + 1 := ⟨_, rfl⟩
                        have tx254 : x254.toInt = v5_53.toInt + 1 := by rw [ex254]; exact z_add rfl (by decide : (1 : Int32).toInt = 1) (by omega) (by omega)
                        refine lv_iinc (v := x254) (lv' := [(5, .int x254), (4, .int v4_53), (3, .int x1), (0, .ref (ad 0)), (1, .int li), (2, .int kn)]) hx hb dX9_fitsOf_151 hl (k := 0) rfl (by rw [ex254]; rfl) (by decide) rfl (fun ls hl => ?_)
                        refine lv_goto (tgt := 53) hx hb dX9_fitsOf_154 (by decide) ?_
                        exact ih53 x254 v4_53 ct173 _ _ ls (by omega) (by first | assumption | omega | decide) (by first | assumption | omega | decide) (by first | assumption | omega | decide) (by first | assumption | omega | decide) (by first | assumption | omega | decide) (by first | assumption | omega | decide) hI hP hD hS (lv_sub hl [0, 1, 2, 3, 4, 5] rfl)
                      · skip
                        exact absurd c253 (by decide)
              have hzz : zsum (zar (ct40 19)) 32 + ((0 : Int32)).toInt ≤ zsum (zar (ct40 19)) 32 := by rw [show ((0 : Int32)).toInt = 0 by decide]; omega
              exact loop53 ((40 - (0 : Int32).toInt : Int).toNat + 1) (0 : Int32) (0 : Int32) ct40 _ _ ls (by omega) (by first | assumption | omega | decide) (by first | assumption | omega | decide) (by first | assumption | omega | decide) (by first | assumption | omega | decide) (by first | assumption | omega | decide) (by first | assumption | omega | decide) hI hP hD hS (lv_sub hl [0, 1, 2, 3, 4, 5] rfl)
        exact loop42 ((32 - zsum (zar (ct2 19)) 32 + (1 : Int32).toInt : Int).toNat + 1) (1 : Int32) ct2 _ _ ls (by omega) (by first | assumption | omega | decide) (by first | assumption | omega | decide) (by first | assumption | omega | decide) (by first | assumption | omega | decide) hI hP hD hS (lv_sub hl [0, 1, 2, 3, 4] rfl)
      · skip
        have c3 : ¬ (32 ≤ v4_8.toInt) := fun q => c3 ((z_le (by decide : (32 : Int32).toInt = 32) rfl).mpr q)
        refine lv_aload_n hx hb dX9_fitsOf_15 rfl (lv_at hl 2 rfl) ?_
        obtain ⟨bks256, lks257, gos258, shn259, tpd260, pl0261, ln0262, flt263, opn264, cmy265, wtg266, nm0267, mst268, sus269, cut270, h271, h272, h273, h274, h275, h276, h277, h278, h279, h280, h281, h282, h283, h284, h285, h286, h287, h288, h289, h290, hs255⟩ := a9_0 hI.1
        refine va_get (D := g.1) (ci := 9) (v := .ref (ad 19)) (C := RX9) (T := TX9) (N := 47) hx hb hg inG9 hown hK hP 0 (zw_at (by omega) hs255) rfl 31 (by decide) (hg _ mm_989) (fun _ h9 => h9) rfl dX9_fitsOf_16 ?_
        refine lv_iload hx hb dX9_fitsOf_19 (lv_at hl 0 rfl) ?_
        refine lv_iload hx hb dX9_fitsOf_21 (lv_at hl 0 rfl) ?_
        refine lv_iload_n hx hb dX9_fitsOf_23 rfl (lv_at hl 3 rfl) ?_
        refine lv_icmp_ne (tgt := 31) hx hb dX9_fitsOf_24 (by decide) (fun c291 => ?_) (fun c291 => ?_)
        · skip
          have c291 : ¬ (v4_8.toInt = li.toInt) := fun q => c291 ((z_eq rfl rfl).mpr q)
          refine lv_iconst (v := 0) hx hb dX9_fitsOf_31 (by decide) ?_
          obtain ⟨f293, hp294, hs292⟩ := a9_19 hI.1
          refine va_zast hx hb hK hP hD hS 19 3 (zw_at (by omega) hs292) rfl (z_in rfl (by omega) (by omega)) dX9_fitsOf_32 (fun H locs hP hD hS => ?_)
          have hp296 : ∀ j : Nat, j < 32 → (fun x : Int32 => x = 0 ∨ x = 1) ((upd f293 (Int32.toNatClampNeg v4_8) (vp_nar .boolean 0)) j) := fun j hj => by
            unfold upd
            by_cases q : j = Int32.toNatClampNeg v4_8
            · rw [if_pos q]; exact (show (vp_nar .boolean 0 : Int32) = 0 ∨ (vp_nar .boolean 0 : Int32) = 1 from (by decide))
            · rw [if_neg q]; exact hp294 j hj
          have hP : zP g ((zw 32 ad ct2).set 19 (ad 19, .inl (g.2 3, 32, .inl (upd f293 (Int32.toNatClampNeg v4_8) (vp_nar .boolean 0))))) H := hP
          have hD : va_D A ((zw 32 ad ct2).set 19 (ad 19, .inl (g.2 3, 32, .inl (upd f293 (Int32.toNatClampNeg v4_8) (vp_nar .boolean 0))))) := hD
          rw [zw_set (by omega)] at hP hD
          obtain ⟨ct297, ec298⟩ : ∃ z : Nat → va_E, z = va_up ct2 19 (.inl (g.2 3, 32, .inl (upd f293 (Int32.toNatClampNeg v4_8) (vp_nar .boolean 0)))) := ⟨_, rfl⟩
          rw [← ec298] at hP hD
          have hI : IR g ad me ct297 := by rw [ec298]; exact upR hI (by decide) (i9_19 ⟨_, hp296, rfl⟩)
          have hc0 : ct297 0 = ct 0 := by rw [ec298]; exact (va_up_ne _ _ (by omega)).trans hc0
          have hc5 : ct297 5 = ct 5 := by rw [ec298]; exact (va_up_ne _ _ (by omega)).trans hc5
          have hc10 : ct297 10 = ct 10 := by rw [ec298]; exact (va_up_ne _ _ (by omega)).trans hc10
          have hs299 : ct297 0 = .inr (9, [.int me, .ref (ad 1), .ref (ad 2), .ref (ad 3), .ref (ad 4), .int bks256, .int lks257, .int gos258, .int shn259, .ref (ad 5), .ref (ad 6), .ref (ad 7), .ref (ad 8), .ref (ad 9), .ref (ad 10), .ref (ad 11), .int tpd260, .int pl0261, .int ln0262, .int flt263, .int opn264, .int cmy265, .int wtg266, .int nm0267, .ref (ad 12), .ref (ad 13), .ref (ad 14), .ref (ad 15), .ref (ad 16), .ref (ad 17), .ref (ad 18), .ref (ad 19), .ref (ad 20), .ref (ad 21), .ref (ad 22), .ref (ad 23), .ref (ad 24), .ref (ad 25), .ref (ad 26), .ref (ad 27), .int mst268, .int sus269, .ref (ad 28), .ref (ad 29), .ref (ad 30), .ref (ad 31), .int cut270]) := by rw [ec298, va_up_ne _ _ (by omega)]; exact hs255
          have hs300 : ct297 19 = .inl (g.2 3, 32, .inl (upd f293 (Int32.toNatClampNeg v4_8) (vp_nar .boolean 0))) := by rw [ec298]; exact va_up_self _ _ _
          obtain ⟨x301, ex301⟩ : ∃ y : Int32, y = v4_8 + 1 := ⟨_, rfl⟩
          have tx301 : x301.toInt = v4_8.toInt + 1 := by rw [ex301]; exact z_add rfl (by decide : (1 : Int32).toInt = 1) (by omega) (by omega)
          refine lv_iinc (v := x301) (lv' := [(4, .int x301), (3, .int x1), (0, .ref (ad 0)), (1, .int li), (2, .int kn)]) hx hb dX9_fitsOf_33 hl (k := 0) rfl (by rw [ex301]; rfl) (by decide) rfl (fun ls hl => ?_)
          refine lv_goto (tgt := 8) hx hb dX9_fitsOf_36 (by decide) ?_
          exact ih8 x301 ct297 _ _ ls (by omega) (by first | assumption | omega | decide) (by first | assumption | omega | decide) (by first | assumption | omega | decide) (by first | assumption | omega | decide) hI hP hD hS (lv_sub hl [0, 1, 2, 3, 4] rfl)
        · skip
          have c291 : v4_8.toInt = li.toInt := (z_eq rfl rfl).mp c291
          refine lv_iconst (v := 1) hx hb dX9_fitsOf_27 (by decide) ?_
          refine lv_goto (tgt := 32) hx hb dX9_fitsOf_28 (by decide) ?_
          obtain ⟨f303, hp304, hs302⟩ := a9_19 hI.1
          refine va_zast hx hb hK hP hD hS 19 3 (zw_at (by omega) hs302) rfl (z_in rfl (by omega) (by omega)) dX9_fitsOf_32 (fun H locs hP hD hS => ?_)
          have hp306 : ∀ j : Nat, j < 32 → (fun x : Int32 => x = 0 ∨ x = 1) ((upd f303 (Int32.toNatClampNeg v4_8) (vp_nar .boolean 1)) j) := fun j hj => by
            unfold upd
            by_cases q : j = Int32.toNatClampNeg v4_8
            · rw [if_pos q]; exact (show (vp_nar .boolean 1 : Int32) = 0 ∨ (vp_nar .boolean 1 : Int32) = 1 from (by decide))
            · rw [if_neg q]; exact hp304 j hj
          have hP : zP g ((zw 32 ad ct2).set 19 (ad 19, .inl (g.2 3, 32, .inl (upd f303 (Int32.toNatClampNeg v4_8) (vp_nar .boolean 1))))) H := hP
          have hD : va_D A ((zw 32 ad ct2).set 19 (ad 19, .inl (g.2 3, 32, .inl (upd f303 (Int32.toNatClampNeg v4_8) (vp_nar .boolean 1))))) := hD
          rw [zw_set (by omega)] at hP hD
          obtain ⟨ct307, ec308⟩ : ∃ z : Nat → va_E, z = va_up ct2 19 (.inl (g.2 3, 32, .inl (upd f303 (Int32.toNatClampNeg v4_8) (vp_nar .boolean 1)))) := ⟨_, rfl⟩
          rw [← ec308] at hP hD
          have hI : IR g ad me ct307 := by rw [ec308]; exact upR hI (by decide) (i9_19 ⟨_, hp306, rfl⟩)
          have hc0 : ct307 0 = ct 0 := by rw [ec308]; exact (va_up_ne _ _ (by omega)).trans hc0
          have hc5 : ct307 5 = ct 5 := by rw [ec308]; exact (va_up_ne _ _ (by omega)).trans hc5
          have hc10 : ct307 10 = ct 10 := by rw [ec308]; exact (va_up_ne _ _ (by omega)).trans hc10
          have hs309 : ct307 0 = .inr (9, [.int me, .ref (ad 1), .ref (ad 2), .ref (ad 3), .ref (ad 4), .int bks256, .int lks257, .int gos258, .int shn259, .ref (ad 5), .ref (ad 6), .ref (ad 7), .ref (ad 8), .ref (ad 9), .ref (ad 10), .ref (ad 11), .int tpd260, .int pl0261, .int ln0262, .int flt263, .int opn264, .int cmy265, .int wtg266, .int nm0267, .ref (ad 12), .ref (ad 13), .ref (ad 14), .ref (ad 15), .ref (ad 16), .ref (ad 17), .ref (ad 18), .ref (ad 19), .ref (ad 20), .ref (ad 21), .ref (ad 22), .ref (ad 23), .ref (ad 24), .ref (ad 25), .ref (ad 26), .ref (ad 27), .int mst268, .int sus269, .ref (ad 28), .ref (ad 29), .ref (ad 30), .ref (ad 31), .int cut270]) := by rw [ec308, va_up_ne _ _ (by omega)]; exact hs255
          have hs310 : ct307 19 = .inl (g.2 3, 32, .inl (upd f303 (Int32.toNatClampNeg v4_8) (vp_nar .boolean 1))) := by rw [ec308]; exact va_up_self _ _ _
          obtain ⟨x311, ex311⟩ : ∃ y : Int32, y = v4_8 + 1 := ⟨_, rfl⟩
          have tx311 : x311.toInt = v4_8.toInt + 1 := by rw [ex311]; exact z_add rfl (by decide : (1 : Int32).toInt = 1) (by omega) (by omega)
          refine lv_iinc (v := x311) (lv' := [(4, .int x311), (3, .int x1), (0, .ref (ad 0)), (1, .int li), (2, .int kn)]) hx hb dX9_fitsOf_33 hl (k := 0) rfl (by rw [ex311]; rfl) (by decide) rfl (fun ls hl => ?_)
          refine lv_goto (tgt := 8) hx hb dX9_fitsOf_36 (by decide) ?_
          exact ih8 x311 ct307 _ _ ls (by omega) (by first | assumption | omega | decide) (by first | assumption | omega | decide) (by first | assumption | omega | decide) (by first | assumption | omega | decide) hI hP hD hS (lv_sub hl [0, 1, 2, 3, 4] rfl)
  exact loop8 ((32 - (0 : Int32).toInt : Int).toNat + 1) (0 : Int32) ct _ _ ls (by omega) (by first | assumption | omega | decide) (by first | assumption | omega | decide) (by first | assumption | omega | decide) (by first | assumption | omega | decide) hI hP hD hS (lv_sub hl [0, 1, 2, 3, 4] rfl)

set_option maxHeartbeats 4000000 in
set_option maxRecDepth 100000 in
theorem k_X9_laysFitting (l : Launch) (g : zG) (sz : Nat) (ad : Nat → Nat) (me : Int32) (ct : Nat → va_E) (b : Int32) (kn : Int32) (hl_b : 0 ≤ b.toInt ∧ b.toInt ≤ 3) (hl_kn : 0 ≤ kn.toInt ∧ kn.toInt ≤ 255) (hI : IR g ad me ct) : Met l yX9_laysFitting (zW yX9_laysFitting cX9_laysFitting 4 none) ({ frames := 5, cells := 0, slots := 0, locals := 125 }) (va_Pc [.ref (ad 0), .int b, .int kn] (zA g (zw 32 ad ct) sz)) (va_Qv (fun (_ : Unit) => True) (fun _ t => ∃ ct2 : Nat → va_E, zP g (zw 32 ad ct2) t.heap ∧ va_D (va_A (zw 32 ad ct) sz) (zw 32 ad ct2) ∧ IR g ad me ct2 ∧ (ct2 0 = ct 0) ∧ (ct2 5 = ct 5) ∧ (ct2 10 = ct 10)) (va_A (zw 32 ad ct) sz)) 0 0 (va_A (zw 32 ad ct) sz) := by
  refine Met.ofW (cc := cX9_laysFitting) (maxL := 4) (ret := none) (by decide) rfl ?_
  intro p e s m args below meth c s₁ B hml hv
  obtain ⟨rfl, hsz, hP, hK, hD0, hN⟩ := hv
  have hx := B.exec
  have hb := B.bytes
  have hr := B.returns
  have hg := zW.law (atoms_spec (ws := (zW yX9_laysFitting cX9_laysFitting 4 none)) B.pre)
  have hown : s.vm.findClass RX9 = some m.cls := findClass_of_methodNamed B.named
  have hlocks := B.notSynchronized
  have hpe0 := hI.1.1
  subst hsz
  have hD := hD0.self (sz := s.heap.size)
  generalize hAe : va_A (zw 32 ad ct) s.heap.size = A at hD ⊢
  have hA : ∀ q : Nat, s.heap.size ≤ q → A q := fun q h => by rw [← hAe]; exact Or.inr h
  have hS : va_S A s.heap s.heap [] := va_S.rf
  have hl := lv_entry ([.ref (ad 0), .int b, .int kn]) (n := 4) (Nat.le_of_ble_eq_true rfl)
  rw [lg_entry_eq]
  generalize (lg_sl ([.ref (ad 0), .int b, .int kn]) ++ List.replicate (4 - (lg_sl ([.ref (ad 0), .int b, .int kn])).length) Slot.unset).toArray = ls at hl ⊢
  have hl : lv_has ls 4 [(0, .ref (ad 0)), (1, .int b), (2, .int kn)] := hl
  have hc0 : ct 0 = ct 0 := rfl
  have hc5 : ct 5 = ct 5 := rfl
  have hc10 : ct 10 = ct 10 := rfl
  refine lv_iconst (v := 0) hx hb dX9_laysFitting_0 (by decide) ?_
  refine lv_istore_n (lv' := [(3, .int 0), (0, .ref (ad 0)), (1, .int b), (2, .int kn)]) hx hb dX9_laysFitting_1 rfl hl (by decide) rfl (fun ls hl => ?_)
  have loop2 : ∀ (n2 : Nat) (v3_2 : Int32) (ct1 : Nat → va_E) (H : Heap) (locs : List Loc) (ls : Array Slot), ((8 - v3_2.toInt : Int).toNat < n2) → (0 ≤ v3_2.toInt ∧ v3_2.toInt ≤ 8) → (ct1 0 = ct 0) → (ct1 5 = ct 5) → (ct1 10 = ct 10) → (IR g ad me ct1) → zP g (zw 32 ad ct1) H → va_D A (zw 32 ad ct1) → va_S A s.heap H locs → lv_has ls 4 [(3, .int v3_2), (0, .ref (ad 0)), (1, .int b), (2, .int kn)] → W p l e (headSpec (zW yX9_laysFitting cX9_laysFitting 4 none) ({ frames := 5, cells := 0, slots := 0, locals := 125 })).room s m ([.ref (ad 0), .int b, .int kn] : List Value).toArray below meth c H locs 0 0 (MQ below (va_Qv (fun (_ : Unit) => True) (fun _ t => ∃ ct2 : Nat → va_E, zP g (zw 32 ad ct2) t.heap ∧ va_D A (zw 32 ad ct2) ∧ IR g ad me ct2 ∧ (ct2 0 = ct 0) ∧ (ct2 5 = ct 5) ∧ (ct2 10 = ct 10)) A) ([.ref (ad 0), .int b, .int kn] : List Value).toArray s 0 0 A) (F0 m 2 ls []) := by
    intro n2
    induction n2 with
    | zero =>
      intro v3_2 ct1 H locs ls hn2 b3_2 hc0 hc5 hc10 hI hP hD hS hl
      exact absurd hn2 (Nat.not_lt_zero _)
    | succ n2 ih2 =>
      intro v3_2 ct1 H locs ls hn2 b3_2 hc0 hc5 hc10 hI hP hD hS hl
      refine lv_iload_n hx hb dX9_laysFitting_2 rfl (lv_at hl 0 rfl) ?_
      refine lv_aload_n hx hb dX9_laysFitting_3 rfl (lv_at hl 1 rfl) ?_
      obtain ⟨bks3, lks4, gos5, shn6, tpd7, pl08, ln09, flt10, opn11, cmy12, wtg13, nm014, mst15, sus16, cut17, h18, h19, h20, h21, h22, h23, h24, h25, h26, h27, h28, h29, h30, h31, h32, h33, h34, h35, h36, h37, hs2⟩ := a9_0 hI.1
      refine va_get (D := g.1) (ci := 9) (v := .ref (ad 5)) (C := RX9) (T := TX9) (N := 47) hx hb hg inG9 hown hK hP 0 (zw_at (by omega) hs2) rfl 9 (by decide) (hg _ mm_967) (fun _ h9 => h9) rfl dX9_laysFitting_4 ?_
      refine lv_iload_n hx hb dX9_laysFitting_7 rfl (lv_at hl 2 rfl) ?_
      obtain ⟨f39, hp40, hs38⟩ := a9_5 hI.1
      refine va_iald hx hb hK hP 5 0 (zw_at (by omega) hs38) rfl (z_in rfl (by omega) (by omega)) dX9_laysFitting_8 ?_
      refine lv_topi (fun y41 ey41 => ?_)
      have hy41 := hp40 _ (z_clt (x := b) rfl (by omega) (by omega))
      rw [← ey41] at hy41
      have hy41 : 0 ≤ y41.toInt ∧ y41.toInt ≤ 8 := hy41
      refine lv_icmp_ge (tgt := 51) hx hb dX9_laysFitting_9 (by decide) (fun c42 => ?_) (fun c42 => ?_)
      · skip
        have c42 : y41.toInt ≤ v3_2.toInt := (z_le rfl rfl).mp c42
        exact W.vret hx hb hr (fun t ht hW => ⟨⟨(), rfl, trivial, ct1, by rw [ht]; exact hP, hD, hI, (by first | assumption | omega), (by first | assumption | omega), (by first | assumption | omega)⟩, hS.F ht⟩) hS.2.2 dX9_laysFitting_51
      · skip
        have c42 : ¬ (y41.toInt ≤ v3_2.toInt) := fun q => c42 ((z_le rfl rfl).mpr q)
        refine lv_aload_n hx hb dX9_laysFitting_12 rfl (lv_at hl 1 rfl) ?_
        refine va_get (D := g.1) (ci := 9) (v := .ref (ad 20)) (C := RX9) (T := TX9) (N := 47) hx hb hg inG9 hown hK hP 0 (zw_at (by omega) hs2) rfl 32 (by decide) (hg _ mm_990) (fun _ h9 => h9) rfl dX9_laysFitting_13 ?_
        refine lv_iload_n hx hb dX9_laysFitting_16 rfl (lv_at hl 0 rfl) ?_
        refine lv_aload_n hx hb dX9_laysFitting_17 rfl (lv_at hl 1 rfl) ?_
        refine va_get (D := g.1) (ci := 9) (v := .ref (ad 10)) (C := RX9) (T := TX9) (N := 47) hx hb hg inG9 hown hK hP 0 (zw_at (by omega) hs2) rfl 14 (by decide) (hg _ mm_972) (fun _ h9 => h9) rfl dX9_laysFitting_18 ?_
        refine lv_iload_n hx hb dX9_laysFitting_21 rfl (lv_at hl 2 rfl) ?_
        refine lv_iload_n hx hb dX9_laysFitting_22 rfl (lv_at hl 0 rfl) ?_
        refine zc_i (va_runS (As := [.int b, .int v3_2]) (rest := [.ref (ad 10), .int v3_2, .ref (ad 20)]) ⟨hx, hb, hml, hown, hg⟩ (k_X9_at l g ad me ct1 b v3_2 (by first | omega | decide) (by first | omega | decide) hI) (va_cwS 2 hg (z_gS mm_1159 mm_1160 mm_117 mm_1161) rfl rfl rfl (by decide +kernel) ⟨Nat.le_of_ble_eq_true rfl, Nat.le_of_ble_eq_true rfl⟩) (zR.pre [.int b, .int v3_2] hP hK hN) rfl rfl hl.1 rfl (lv_room (Nat.le_of_ble_eq_true rfl)) dX9_laysFitting_23 ⟨Nat.le_of_ble_eq_true rfl, Nat.le_of_ble_eq_true rfl⟩) (fun r43 hr43 => ?_)
        have hr43_0 := hr43
        have hr43_0 : r43.toInt = 8 * b.toInt + v3_2.toInt := hr43_0
        obtain ⟨f45, hp46, hs44⟩ := a9_10 hI.1
        refine va_zald hx hb hK hP 10 3 (zw_at (by omega) hs44) rfl (z_in rfl (by omega) (by omega)) dX9_laysFitting_26 ?_
        refine lv_topi (fun y47 ey47 => ?_)
        have hy47 := hp46 _ (z_clt (x := r43) rfl (by omega) (by omega))
        rw [← ey47] at hy47
        have hy47 : y47 = 0 ∨ y47 = 1 := hy47
        have by47 := z_b01 hy47
        refine lv_if_eq (tgt := 34) hx hb dX9_laysFitting_27 (by decide) (fun c48 => ?_) (fun c48 => ?_)
        · skip
          have c48 : y47.toInt = 0 := (z_eq rfl (by decide : (0 : Int32).toInt = 0)).mp c48
          refine lv_aload_n hx hb dX9_laysFitting_34 rfl (lv_at hl 1 rfl) ?_
          refine lv_iload_n hx hb dX9_laysFitting_35 rfl (lv_at hl 2 rfl) ?_
          refine lv_iload_n hx hb dX9_laysFitting_36 rfl (lv_at hl 0 rfl) ?_
          refine zc_i (va_runS (As := [.int b, .int v3_2]) (rest := [.ref (ad 0), .int v3_2, .ref (ad 20)]) ⟨hx, hb, hml, hown, hg⟩ (k_X9_at l g ad me ct1 b v3_2 (by first | omega | decide) (by first | omega | decide) hI) (va_cwS 2 hg (z_gS mm_1159 mm_1160 mm_117 mm_1161) rfl rfl rfl (by decide +kernel) ⟨Nat.le_of_ble_eq_true rfl, Nat.le_of_ble_eq_true rfl⟩) (zR.pre [.int b, .int v3_2] hP hK hN) rfl rfl hl.1 rfl (lv_room (Nat.le_of_ble_eq_true rfl)) dX9_laysFitting_37 ⟨Nat.le_of_ble_eq_true rfl, Nat.le_of_ble_eq_true rfl⟩) (fun r49 hr49 => ?_)
          have hr49_0 := hr49
          have hr49_0 : r49.toInt = 8 * b.toInt + v3_2.toInt := hr49_0
          refine lv_iload_n hx hb dX9_laysFitting_40 rfl (lv_at hl 3 rfl) ?_
          have hFc := zw_free hD hS hA
          refine va_calli (va_runV (As := [.int r49, .int kn]) (rest := [.int v3_2, .ref (ad 20)]) ⟨hx, hb, hml, hown, hg⟩ (k_X9_fitsOf l g _ ad me ct1 r49 kn (by first | omega | decide) (by first | omega | decide) hI) (cwV 2 hg (z_gV mm_1297 mm_1299 mm_79 mm_117 mm_1300) rfl rfl rfl (by decide +kernel) ⟨Nat.le_of_ble_eq_true rfl, Nat.le_of_ble_eq_true rfl⟩) ⟨(zA.pre [.ref (ad 0), .int r49, .int kn] hP hK hD hN).1, va_recv hK hP (ci := 9) (q0 := 0) rfl (zw_at (by omega) hs2), (zA.pre [.ref (ad 0), .int r49, .int kn] hP hK hD hN).2⟩ rfl rfl hl.1 rfl (lv_room (Nat.le_of_ble_eq_true rfl)) dX9_laysFitting_41 ⟨Nat.le_of_ble_eq_true rfl, Nat.le_of_ble_eq_true rfl⟩) hS (fun q _ h => hFc q h) hFc (fun r50 _ t H1 locs ht hvm hr50 hB hz1 hk1 hS => ?_)
          obtain ⟨ct51, hP1, hD1, hI, hk52, hk53, hk54⟩ := hB
          rw [ht] at hP1
          have hD := hD1.weaken (fun _ _ _ h => hFc _ h)
          generalize H1 = H at hP1 hS ⊢
          have hP := hP1
          refine W.widen (k := 0) (n := 0) (Nat.le_refl _) (Nat.le_refl _) ?_
          have hc0 : ct51 0 = ct 0 := hk52.trans hc0
          have hc5 : ct51 5 = ct 5 := hk53.trans hc5
          have hc10 : ct51 10 = ct 10 := hk54.trans hc10
          have hs55 : ct51 0 = .inr (9, [.int me, .ref (ad 1), .ref (ad 2), .ref (ad 3), .ref (ad 4), .int bks3, .int lks4, .int gos5, .int shn6, .ref (ad 5), .ref (ad 6), .ref (ad 7), .ref (ad 8), .ref (ad 9), .ref (ad 10), .ref (ad 11), .int tpd7, .int pl08, .int ln09, .int flt10, .int opn11, .int cmy12, .int wtg13, .int nm014, .ref (ad 12), .ref (ad 13), .ref (ad 14), .ref (ad 15), .ref (ad 16), .ref (ad 17), .ref (ad 18), .ref (ad 19), .ref (ad 20), .ref (ad 21), .ref (ad 22), .ref (ad 23), .ref (ad 24), .ref (ad 25), .ref (ad 26), .ref (ad 27), .int mst15, .int sus16, .ref (ad 28), .ref (ad 29), .ref (ad 30), .ref (ad 31), .int cut17]) := hk52.trans hs2
          have hs56 : ct51 5 = .inl (g.2 0, 4, .inl f39) := hk53.trans hs38
          have hs57 : ct51 10 = .inl (g.2 3, 32, .inl f45) := hk54.trans hs44
          obtain ⟨hr50_0, hr50_1, hr50_2⟩ := hr50
          have hr50_0 : 0 ≤ r50.toInt := hr50_0
          have hr50_1 : r50.toInt ≤ 65535 := hr50_1
          have hr50_2 : r50.toInt < ((2 ^ me.toInt.toNat : Nat) : Int) := hr50_2
          obtain ⟨f59, hp60, hs58⟩ := a9_20 hI.1
          refine va_iast hx hb hK hP hD hS 20 0 (zw_at (by omega) hs58) rfl (z_in rfl (by omega) (by omega)) dX9_laysFitting_44 (fun H locs hP hD hS => ?_)
          have hp62 : ∀ j : Nat, j < 8 → (fun x : Int32 => 0 ≤ x.toInt ∧ x.toInt ≤ 65535) ((upd f59 (Int32.toNatClampNeg v3_2) r50) j) := fun j hj => by
            unfold upd
            by_cases q : j = Int32.toNatClampNeg v3_2
            · rw [if_pos q]; exact (show 0 ≤ (r50 : Int32).toInt ∧ (r50 : Int32).toInt ≤ 65535 from (by first | omega | decide))
            · rw [if_neg q]; exact hp60 j hj
          have hP : zP g ((zw 32 ad ct51).set 20 (ad 20, .inl (g.2 0, 8, .inl (upd f59 (Int32.toNatClampNeg v3_2) r50)))) H := hP
          have hD : va_D A ((zw 32 ad ct51).set 20 (ad 20, .inl (g.2 0, 8, .inl (upd f59 (Int32.toNatClampNeg v3_2) r50)))) := hD
          rw [zw_set (by omega)] at hP hD
          obtain ⟨ct63, ec64⟩ : ∃ z : Nat → va_E, z = va_up ct51 20 (.inl (g.2 0, 8, .inl (upd f59 (Int32.toNatClampNeg v3_2) r50))) := ⟨_, rfl⟩
          rw [← ec64] at hP hD
          have hI : IR g ad me ct63 := by rw [ec64]; exact upR hI (by decide) (i9_20 ⟨_, hp62, rfl⟩)
          have hc0 : ct63 0 = ct 0 := by rw [ec64]; exact (va_up_ne _ _ (by omega)).trans hc0
          have hc5 : ct63 5 = ct 5 := by rw [ec64]; exact (va_up_ne _ _ (by omega)).trans hc5
          have hc10 : ct63 10 = ct 10 := by rw [ec64]; exact (va_up_ne _ _ (by omega)).trans hc10
          have hs65 : ct63 0 = .inr (9, [.int me, .ref (ad 1), .ref (ad 2), .ref (ad 3), .ref (ad 4), .int bks3, .int lks4, .int gos5, .int shn6, .ref (ad 5), .ref (ad 6), .ref (ad 7), .ref (ad 8), .ref (ad 9), .ref (ad 10), .ref (ad 11), .int tpd7, .int pl08, .int ln09, .int flt10, .int opn11, .int cmy12, .int wtg13, .int nm014, .ref (ad 12), .ref (ad 13), .ref (ad 14), .ref (ad 15), .ref (ad 16), .ref (ad 17), .ref (ad 18), .ref (ad 19), .ref (ad 20), .ref (ad 21), .ref (ad 22), .ref (ad 23), .ref (ad 24), .ref (ad 25), .ref (ad 26), .ref (ad 27), .int mst15, .int sus16, .ref (ad 28), .ref (ad 29), .ref (ad 30), .ref (ad 31), .int cut17]) := by rw [ec64, va_up_ne _ _ (by omega)]; exact hs55
          have hs66 : ct63 5 = .inl (g.2 0, 4, .inl f39) := by rw [ec64, va_up_ne _ _ (by omega)]; exact hs56
          have hs67 : ct63 10 = .inl (g.2 3, 32, .inl f45) := by rw [ec64, va_up_ne _ _ (by omega)]; exact hs57
          have hs68 : ct63 20 = .inl (g.2 0, 8, .inl (upd f59 (Int32.toNatClampNeg v3_2) r50)) := by rw [ec64]; exact va_up_self _ _ _
          obtain ⟨x69, ex69⟩ : ∃ y : Int32, y = v3_2 + 1 := ⟨_, rfl⟩
          have tx69 : x69.toInt = v3_2.toInt + 1 := by rw [ex69]; exact z_add rfl (by decide : (1 : Int32).toInt = 1) (by omega) (by omega)
          refine lv_iinc (v := x69) (lv' := [(3, .int x69), (0, .ref (ad 0)), (1, .int b), (2, .int kn)]) hx hb dX9_laysFitting_45 hl (k := 0) rfl (by rw [ex69]; rfl) (by decide) rfl (fun ls hl => ?_)
          refine lv_goto (tgt := 2) hx hb dX9_laysFitting_48 (by decide) ?_
          exact ih2 x69 ct63 _ _ ls (by omega) (by first | assumption | omega | decide) (by first | assumption | omega | decide) (by first | assumption | omega | decide) (by first | assumption | omega | decide) hI hP hD hS (lv_sub hl [0, 1, 2, 3] rfl)
        · skip
          have c48 : ¬ (y47.toInt = 0) := fun q => c48 ((z_eq rfl (by decide : (0 : Int32).toInt = 0)).mpr q)
          refine lv_iconst (v := 0) hx hb dX9_laysFitting_30 (by decide) ?_
          refine lv_goto (tgt := 44) hx hb dX9_laysFitting_31 (by decide) ?_
          obtain ⟨f71, hp72, hs70⟩ := a9_20 hI.1
          refine va_iast hx hb hK hP hD hS 20 0 (zw_at (by omega) hs70) rfl (z_in rfl (by omega) (by omega)) dX9_laysFitting_44 (fun H locs hP hD hS => ?_)
          have hp74 : ∀ j : Nat, j < 8 → (fun x : Int32 => 0 ≤ x.toInt ∧ x.toInt ≤ 65535) ((upd f71 (Int32.toNatClampNeg v3_2) 0) j) := fun j hj => by
            unfold upd
            by_cases q : j = Int32.toNatClampNeg v3_2
            · rw [if_pos q]
              have qv : (0 : Int32).toInt = 0 := by decide
              exact (show 0 ≤ (0 : Int32).toInt ∧ (0 : Int32).toInt ≤ 65535 from (by first | omega | decide))
            · rw [if_neg q]; exact hp72 j hj
          have hP : zP g ((zw 32 ad ct1).set 20 (ad 20, .inl (g.2 0, 8, .inl (upd f71 (Int32.toNatClampNeg v3_2) 0)))) H := hP
          have hD : va_D A ((zw 32 ad ct1).set 20 (ad 20, .inl (g.2 0, 8, .inl (upd f71 (Int32.toNatClampNeg v3_2) 0)))) := hD
          rw [zw_set (by omega)] at hP hD
          obtain ⟨ct75, ec76⟩ : ∃ z : Nat → va_E, z = va_up ct1 20 (.inl (g.2 0, 8, .inl (upd f71 (Int32.toNatClampNeg v3_2) 0))) := ⟨_, rfl⟩
          rw [← ec76] at hP hD
          have hI : IR g ad me ct75 := by rw [ec76]; exact upR hI (by decide) (i9_20 ⟨_, hp74, rfl⟩)
          have hc0 : ct75 0 = ct 0 := by rw [ec76]; exact (va_up_ne _ _ (by omega)).trans hc0
          have hc5 : ct75 5 = ct 5 := by rw [ec76]; exact (va_up_ne _ _ (by omega)).trans hc5
          have hc10 : ct75 10 = ct 10 := by rw [ec76]; exact (va_up_ne _ _ (by omega)).trans hc10
          have hs77 : ct75 0 = .inr (9, [.int me, .ref (ad 1), .ref (ad 2), .ref (ad 3), .ref (ad 4), .int bks3, .int lks4, .int gos5, .int shn6, .ref (ad 5), .ref (ad 6), .ref (ad 7), .ref (ad 8), .ref (ad 9), .ref (ad 10), .ref (ad 11), .int tpd7, .int pl08, .int ln09, .int flt10, .int opn11, .int cmy12, .int wtg13, .int nm014, .ref (ad 12), .ref (ad 13), .ref (ad 14), .ref (ad 15), .ref (ad 16), .ref (ad 17), .ref (ad 18), .ref (ad 19), .ref (ad 20), .ref (ad 21), .ref (ad 22), .ref (ad 23), .ref (ad 24), .ref (ad 25), .ref (ad 26), .ref (ad 27), .int mst15, .int sus16, .ref (ad 28), .ref (ad 29), .ref (ad 30), .ref (ad 31), .int cut17]) := by rw [ec76, va_up_ne _ _ (by omega)]; exact hs2
          have hs78 : ct75 5 = .inl (g.2 0, 4, .inl f39) := by rw [ec76, va_up_ne _ _ (by omega)]; exact hs38
          have hs79 : ct75 10 = .inl (g.2 3, 32, .inl f45) := by rw [ec76, va_up_ne _ _ (by omega)]; exact hs44
          have hs80 : ct75 20 = .inl (g.2 0, 8, .inl (upd f71 (Int32.toNatClampNeg v3_2) 0)) := by rw [ec76]; exact va_up_self _ _ _
          obtain ⟨x81, ex81⟩ : ∃ y : Int32, y = v3_2 + 1 := ⟨_, rfl⟩
          have tx81 : x81.toInt = v3_2.toInt + 1 := by rw [ex81]; exact z_add rfl (by decide : (1 : Int32).toInt = 1) (by omega) (by omega)
          refine lv_iinc (v := x81) (lv' := [(3, .int x81), (0, .ref (ad 0)), (1, .int b), (2, .int kn)]) hx hb dX9_laysFitting_45 hl (k := 0) rfl (by rw [ex81]; rfl) (by decide) rfl (fun ls hl => ?_)
          refine lv_goto (tgt := 2) hx hb dX9_laysFitting_48 (by decide) ?_
          exact ih2 x81 ct75 _ _ ls (by omega) (by first | assumption | omega | decide) (by first | assumption | omega | decide) (by first | assumption | omega | decide) (by first | assumption | omega | decide) hI hP hD hS (lv_sub hl [0, 1, 2, 3] rfl)
  exact loop2 ((8 - (0 : Int32).toInt : Int).toNat + 1) (0 : Int32) ct _ _ ls (by omega) (by first | assumption | omega | decide) (by first | assumption | omega | decide) (by first | assumption | omega | decide) (by first | assumption | omega | decide) hI hP hD hS (lv_sub hl [0, 1, 2, 3] rfl)

set_option maxHeartbeats 4000000 in
set_option maxRecDepth 100000 in
theorem k_X9_line (l : Launch) (g : zG) (ad : Nat → Nat) (me : Int32) (ct : Nat → va_E) (b : Int32) (i : Int32) (c0 : Int32) (hI : IR g ad me ct) : Met l yX9_line (zW yX9_line cX9_line 4 (some .int)) ({ frames := 2, cells := 0, slots := 0, locals := 43 }) (va_Pc [.ref (ad 0), .int b, .int i, .int c0] (zR g (zw 32 ad ct))) (vp_Si (fun r : Int32 => (True))) 0 0 (fun _ => False) := by
  refine Met.ofW (cc := cX9_line) (maxL := 4) (ret := (some .int)) (by decide) rfl ?_
  intro p e s m args below meth c s₁ B hml hv
  obtain ⟨rfl, hP, hK, hN⟩ := hv
  have hx := B.exec
  have hb := B.bytes
  have hr := B.returns
  have hg := zW.law (atoms_spec (ws := (zW yX9_line cX9_line 4 (some .int))) B.pre)
  have hown : s.vm.findClass RX9 = some m.cls := findClass_of_methodNamed B.named
  have hlocks := B.notSynchronized
  have hpe0 := hI.1.1
  have hl := lv_entry ([.ref (ad 0), .int b, .int i, .int c0]) (n := 4) (Nat.le_of_ble_eq_true rfl)
  rw [lg_entry_eq]
  generalize (lg_sl ([.ref (ad 0), .int b, .int i, .int c0]) ++ List.replicate (4 - (lg_sl ([.ref (ad 0), .int b, .int i, .int c0])).length) Slot.unset).toArray = ls at hl ⊢
  have hl : lv_has ls 4 [(0, .ref (ad 0)), (1, .int b), (2, .int i), (3, .int c0)] := hl
  have rg_b := z_rng b
  have rg_i := z_rng i
  have rg_c0 := z_rng c0
  refine lv_aload_n hx hb dX9_line_0 rfl (lv_at hl 0 rfl) ?_
  refine lv_iload_n hx hb dX9_line_1 rfl (lv_at hl 1 rfl) ?_
  refine lv_iload_n hx hb dX9_line_2 rfl (lv_at hl 2 rfl) ?_
  obtain ⟨bks2, lks3, gos4, shn5, tpd6, pl07, ln08, flt9, opn10, cmy11, wtg12, nm013, mst14, sus15, cut16, h17, h18, h19, h20, h21, h22, h23, h24, h25, h26, h27, h28, h29, h30, h31, h32, h33, h34, h35, h36, hs1⟩ := a9_0 hI.1
  refine zc_i (va_runV (As := [.int b, .int i]) (rest := []) ⟨hx, hb, hml, hown, hg⟩ (k_X9_isLine l g ad me ct b i hI) (cwV 2 hg (z_gV mm_1170 mm_1172 mm_57 mm_117 mm_1173) rfl rfl rfl (by decide +kernel) ⟨Nat.le_of_ble_eq_true rfl, Nat.le_of_ble_eq_true rfl⟩) ⟨(zR.pre [.ref (ad 0), .int b, .int i] hP hK hN).1, va_recv hK hP (ci := 9) (q0 := 0) rfl (zw_at (by omega) hs1), (zR.pre [.ref (ad 0), .int b, .int i] hP hK hN).2⟩ rfl rfl hl.1 rfl (lv_room (Nat.le_of_ble_eq_true rfl)) dX9_line_3 ⟨Nat.le_of_ble_eq_true rfl, Nat.le_of_ble_eq_true rfl⟩) (fun r37 hr37 => ?_)
  rcases hr37 with hr37 | hr37
  · skip
    obtain ⟨rfl, h38, h39⟩ := hr37
    replace h38 : 0 ≤ b.toInt ∧ b.toInt ≤ 3 := h38
    replace h39 : 0 ≤ i.toInt ∧ i.toInt ≤ 7 := h39
    refine lv_if_eq (tgt := 18) hx hb dX9_line_6 (by decide) (fun c40 => ?_) (fun c40 => ?_)
    · skip
      exact absurd c40 (by decide)
    · skip
      refine lv_iload_n hx hb dX9_line_9 rfl (lv_at hl 3 rfl) ?_
      refine lv_iconst (v := 0) hx hb dX9_line_10 (by decide) ?_
      refine lv_iconst (v := 4) hx hb dX9_line_11 (by decide) ?_
      refine zc_i (va_runS (As := [.int c0, .int 0, .int 4]) (rest := []) ⟨hx, hb, hml, hown, hg⟩ (k_X9_in l g ad me ct c0 (0 : Int32) (4 : Int32) hI) (va_cwS 3 hg (z_gS mm_1109 mm_1110 mm_117 mm_1111) rfl rfl rfl (by decide +kernel) ⟨Nat.le_of_ble_eq_true rfl, Nat.le_of_ble_eq_true rfl⟩) (zR.pre [.int c0, .int 0, .int 4] hP hK hN) rfl rfl hl.1 rfl (lv_room (Nat.le_of_ble_eq_true rfl)) dX9_line_12 ⟨Nat.le_of_ble_eq_true rfl, Nat.le_of_ble_eq_true rfl⟩) (fun r41 hr41 => ?_)
      rcases hr41 with hr41 | hr41
      · skip
        obtain ⟨rfl, h42, h43⟩ := hr41
        replace h42 : (0 : Int) ≤ c0.toInt := h42
        replace h43 : c0.toInt ≤ (4 : Int) := h43
        refine lv_if_ne (tgt := 20) hx hb dX9_line_15 (by decide) (fun c44 => ?_) (fun c44 => ?_)
        · skip
          refine lv_iload_n hx hb dX9_line_20 rfl (lv_at hl 3 rfl) ?_
          refine lv_iconst (v := 4) hx hb dX9_line_21 (by decide) ?_
          refine lv_icmp_ne (tgt := 36) hx hb dX9_line_22 (by decide) (fun c45 => ?_) (fun c45 => ?_)
          · skip
            have c45 : ¬ (c0.toInt = 4) := fun q => c45 ((z_eq rfl (by decide : (4 : Int32).toInt = 4)).mpr q)
            refine lv_aload_n hx hb dX9_line_36 rfl (lv_at hl 0 rfl) ?_
            refine va_get (D := g.1) (ci := 9) (v := .ref (ad 10)) (C := RX9) (T := TX9) (N := 47) hx hb hg inG9 hown hK hP 0 (zw_at (by omega) hs1) rfl 14 (by decide) (hg _ mm_972) (fun _ h9 => h9) rfl dX9_line_37 ?_
            refine lv_iload_n hx hb dX9_line_40 rfl (lv_at hl 1 rfl) ?_
            refine lv_iload_n hx hb dX9_line_41 rfl (lv_at hl 2 rfl) ?_
            refine zc_i (va_runS (As := [.int b, .int i]) (rest := [.ref (ad 10)]) ⟨hx, hb, hml, hown, hg⟩ (k_X9_at l g ad me ct b i (by first | omega | decide) (by first | omega | decide) hI) (va_cwS 2 hg (z_gS mm_1159 mm_1160 mm_117 mm_1161) rfl rfl rfl (by decide +kernel) ⟨Nat.le_of_ble_eq_true rfl, Nat.le_of_ble_eq_true rfl⟩) (zR.pre [.int b, .int i] hP hK hN) rfl rfl hl.1 rfl (lv_room (Nat.le_of_ble_eq_true rfl)) dX9_line_42 ⟨Nat.le_of_ble_eq_true rfl, Nat.le_of_ble_eq_true rfl⟩) (fun r46 hr46 => ?_)
            have hr46_0 := hr46
            have hr46_0 : r46.toInt = 8 * b.toInt + i.toInt := hr46_0
            obtain ⟨f48, hp49, hs47⟩ := a9_10 hI.1
            refine va_zald hx hb hK hP 10 3 (zw_at (by omega) hs47) rfl (z_in rfl (by omega) (by omega)) dX9_line_45 ?_
            refine lv_topi (fun y50 ey50 => ?_)
            have hy50 := hp49 _ (z_clt (x := r46) rfl (by omega) (by omega))
            rw [← ey50] at hy50
            have hy50 : y50 = 0 ∨ y50 = 1 := hy50
            have by50 := z_b01 hy50
            refine lv_if_eq (tgt := 54) hx hb dX9_line_46 (by decide) (fun c51 => ?_) (fun c51 => ?_)
            · skip
              have c51 : y50.toInt = 0 := (z_eq rfl (by decide : (0 : Int32).toInt = 0)).mp c51
              refine lv_aload_n hx hb dX9_line_54 rfl (lv_at hl 0 rfl) ?_
              refine va_get (D := g.1) (ci := 9) (v := .ref (ad 7)) (C := RX9) (T := TX9) (N := 47) hx hb hg inG9 hown hK hP 0 (zw_at (by omega) hs1) rfl 11 (by decide) (hg _ mm_969) (fun _ h9 => h9) rfl dX9_line_55 ?_
              refine lv_iconst (v := 4) hx hb dX9_line_58 (by decide) ?_
              refine lv_iload_n hx hb dX9_line_59 rfl (lv_at hl 1 rfl) ?_
              refine lv_iload_n hx hb dX9_line_60 rfl (lv_at hl 2 rfl) ?_
              refine zc_i (va_runS (As := [.int b, .int i]) (rest := [.int 4, .ref (ad 7)]) ⟨hx, hb, hml, hown, hg⟩ (k_X9_at l g ad me ct b i (by first | omega | decide) (by first | omega | decide) hI) (va_cwS 2 hg (z_gS mm_1159 mm_1160 mm_117 mm_1161) rfl rfl rfl (by decide +kernel) ⟨Nat.le_of_ble_eq_true rfl, Nat.le_of_ble_eq_true rfl⟩) (zR.pre [.int b, .int i] hP hK hN) rfl rfl hl.1 rfl (lv_room (Nat.le_of_ble_eq_true rfl)) dX9_line_61 ⟨Nat.le_of_ble_eq_true rfl, Nat.le_of_ble_eq_true rfl⟩) (fun r52 hr52 => ?_)
              have hr52_0 := hr52
              have hr52_0 : r52.toInt = 8 * b.toInt + i.toInt := hr52_0
              refine lv_imul hx hb dX9_line_64 ?_
              refine lv_topi (fun x53 ex53 => ?_)
              have tx53 : x53.toInt = 4 * r52.toInt := by rw [ex53]; exact z_mul (by decide : (4 : Int32).toInt = 4) rfl (by omega) (by omega)
              refine lv_iload_n hx hb dX9_line_65 rfl (lv_at hl 3 rfl) ?_
              refine lv_iadd hx hb dX9_line_66 ?_
              refine lv_topi (fun x54 ex54 => ?_)
              have tx54 : x54.toInt = x53.toInt + c0.toInt := by rw [ex54]; exact z_add rfl rfl (by omega) (by omega)
              obtain ⟨f56, hp57, hs55⟩ := a9_7 hI.1
              refine va_iald hx hb hK hP 7 0 (zw_at (by omega) hs55) rfl (z_in rfl (by omega) (by omega)) dX9_line_67 ?_
              refine lv_topi (fun y58 ey58 => ?_)
              have hy58 := hp57 _ (z_clt (x := x54) rfl (by omega) (by omega))
              rw [← ey58] at hy58
              have hy58 : 0 ≤ y58.toInt ∧ y58.toInt ≤ 32 := hy58
              exact W.iret (v := y58) hx hb hr (fun t ht hW => ⟨y58, rfl, trivial, ht⟩) (fun q hq => by cases hq) dX9_line_68
            · skip
              have c51 : ¬ (y50.toInt = 0) := fun q => c51 ((z_eq rfl (by decide : (0 : Int32).toInt = 0)).mpr q)
              refine lv_bipush (v := (-2)) hx hb dX9_line_49 (by decide) ?_
              refine lv_goto (tgt := 68) hx hb dX9_line_51 (by decide) ?_
              have q59 : ((-2) : Int32).toInt = -2 := by decide
              exact W.iret (v := (-2)) hx hb hr (fun t ht hW => ⟨(-2), rfl, trivial, ht⟩) (fun q hq => by cases hq) dX9_line_68
          · skip
            have c45 : c0.toInt = 4 := (z_eq rfl (by decide : (4 : Int32).toInt = 4)).mp c45
            refine lv_aload_n hx hb dX9_line_25 rfl (lv_at hl 0 rfl) ?_
            refine va_get (D := g.1) (ci := 9) (v := .ref (ad 6)) (C := RX9) (T := TX9) (N := 47) hx hb hg inG9 hown hK hP 0 (zw_at (by omega) hs1) rfl 10 (by decide) (hg _ mm_968) (fun _ h9 => h9) rfl dX9_line_26 ?_
            refine lv_iload_n hx hb dX9_line_29 rfl (lv_at hl 1 rfl) ?_
            refine lv_iload_n hx hb dX9_line_30 rfl (lv_at hl 2 rfl) ?_
            refine zc_i (va_runS (As := [.int b, .int i]) (rest := [.ref (ad 6)]) ⟨hx, hb, hml, hown, hg⟩ (k_X9_at l g ad me ct b i (by first | omega | decide) (by first | omega | decide) hI) (va_cwS 2 hg (z_gS mm_1159 mm_1160 mm_117 mm_1161) rfl rfl rfl (by decide +kernel) ⟨Nat.le_of_ble_eq_true rfl, Nat.le_of_ble_eq_true rfl⟩) (zR.pre [.int b, .int i] hP hK hN) rfl rfl hl.1 rfl (lv_room (Nat.le_of_ble_eq_true rfl)) dX9_line_31 ⟨Nat.le_of_ble_eq_true rfl, Nat.le_of_ble_eq_true rfl⟩) (fun r60 hr60 => ?_)
            have hr60_0 := hr60
            have hr60_0 : r60.toInt = 8 * b.toInt + i.toInt := hr60_0
            obtain ⟨f62, hp63, hs61⟩ := a9_6 hI.1
            refine va_iald hx hb hK hP 6 0 (zw_at (by omega) hs61) rfl (z_in rfl (by omega) (by omega)) dX9_line_34 ?_
            refine lv_topi (fun y64 ey64 => ?_)
            have hy64 := hp63 _ (z_clt (x := r60) rfl (by omega) (by omega))
            rw [← ey64] at hy64
            have hy64 : 0 ≤ y64.toInt ∧ y64.toInt ≤ 15 := hy64
            exact W.iret (v := y64) hx hb hr (fun t ht hW => ⟨y64, rfl, trivial, ht⟩) (fun q hq => by cases hq) dX9_line_35
        · skip
          exact absurd c44 (by decide)
      · skip
        obtain ⟨rfl, h65⟩ := hr41
        replace h65 : ¬ ((0 : Int) ≤ c0.toInt ∧ c0.toInt ≤ (4 : Int)) := h65
        refine lv_if_ne (tgt := 20) hx hb dX9_line_15 (by decide) (fun c66 => ?_) (fun c66 => ?_)
        · skip
          exact absurd c66 (by decide)
        · skip
          refine lv_iconst (v := (-1)) hx hb dX9_line_18 (by decide) ?_
          have q67 : ((-1) : Int32).toInt = -1 := by decide
          exact W.iret (v := (-1)) hx hb hr (fun t ht hW => ⟨(-1), rfl, trivial, ht⟩) (fun q hq => by cases hq) dX9_line_19
  · skip
    obtain rfl := hr37
    refine lv_if_eq (tgt := 18) hx hb dX9_line_6 (by decide) (fun c68 => ?_) (fun c68 => ?_)
    · skip
      refine lv_iconst (v := (-1)) hx hb dX9_line_18 (by decide) ?_
      have q69 : ((-1) : Int32).toInt = -1 := by decide
      exact W.iret (v := (-1)) hx hb hr (fun t ht hW => ⟨(-1), rfl, trivial, ht⟩) (fun q hq => by cases hq) dX9_line_19
    · skip
      exact absurd c68 (by decide)

set_option maxHeartbeats 4000000 in
set_option maxRecDepth 100000 in
theorem k_X9_fits (l : Launch) (g : zG) (sz : Nat) (ad : Nat → Nat) (me : Int32) (ct : Nat → va_E) (b : Int32) (i : Int32) (kn : Int32) (hI : IR g ad me ct) : Met l yX9_fits (zW yX9_fits cX9_fits 4 (some .int)) ({ frames := 5, cells := 0, slots := 0, locals := 125 }) (va_Pc [.ref (ad 0), .int b, .int i, .int kn] (zA g (zw 32 ad ct) sz)) (va_Qi (fun (r : Int32) (_ : Unit) => (True)) (fun _ t => ∃ ct2 : Nat → va_E, zP g (zw 32 ad ct2) t.heap ∧ va_D (va_A (zw 32 ad ct) sz) (zw 32 ad ct2) ∧ IR g ad me ct2) (va_A (zw 32 ad ct) sz)) 0 0 (va_A (zw 32 ad ct) sz) := by
  refine Met.ofW (cc := cX9_fits) (maxL := 4) (ret := (some .int)) (by decide) rfl ?_
  intro p e s m args below meth c s₁ B hml hv
  obtain ⟨rfl, hsz, hP, hK, hD0, hN⟩ := hv
  have hx := B.exec
  have hb := B.bytes
  have hr := B.returns
  have hg := zW.law (atoms_spec (ws := (zW yX9_fits cX9_fits 4 (some .int))) B.pre)
  have hown : s.vm.findClass RX9 = some m.cls := findClass_of_methodNamed B.named
  have hlocks := B.notSynchronized
  have hpe0 := hI.1.1
  subst hsz
  have hD := hD0.self (sz := s.heap.size)
  generalize hAe : va_A (zw 32 ad ct) s.heap.size = A at hD ⊢
  have hA : ∀ q : Nat, s.heap.size ≤ q → A q := fun q h => by rw [← hAe]; exact Or.inr h
  have hS : va_S A s.heap s.heap [] := va_S.rf
  have hl := lv_entry ([.ref (ad 0), .int b, .int i, .int kn]) (n := 4) (Nat.le_of_ble_eq_true rfl)
  rw [lg_entry_eq]
  generalize (lg_sl ([.ref (ad 0), .int b, .int i, .int kn]) ++ List.replicate (4 - (lg_sl ([.ref (ad 0), .int b, .int i, .int kn])).length) Slot.unset).toArray = ls at hl ⊢
  have hl : lv_has ls 4 [(0, .ref (ad 0)), (1, .int b), (2, .int i), (3, .int kn)] := hl
  have rg_b := z_rng b
  have rg_i := z_rng i
  have rg_kn := z_rng kn
  refine lv_aload_n hx hb dX9_fits_0 rfl (lv_at hl 0 rfl) ?_
  refine lv_iload_n hx hb dX9_fits_1 rfl (lv_at hl 1 rfl) ?_
  refine lv_iload_n hx hb dX9_fits_2 rfl (lv_at hl 2 rfl) ?_
  obtain ⟨bks2, lks3, gos4, shn5, tpd6, pl07, ln08, flt9, opn10, cmy11, wtg12, nm013, mst14, sus15, cut16, h17, h18, h19, h20, h21, h22, h23, h24, h25, h26, h27, h28, h29, h30, h31, h32, h33, h34, h35, h36, hs1⟩ := a9_0 hI.1
  refine zc_i (va_runV (As := [.int b, .int i]) (rest := []) ⟨hx, hb, hml, hown, hg⟩ (k_X9_isLine l g ad me ct b i hI) (cwV 2 hg (z_gV mm_1170 mm_1172 mm_57 mm_117 mm_1173) rfl rfl rfl (by decide +kernel) ⟨Nat.le_of_ble_eq_true rfl, Nat.le_of_ble_eq_true rfl⟩) ⟨(zR.pre [.ref (ad 0), .int b, .int i] hP hK hN).1, va_recv hK hP (ci := 9) (q0 := 0) rfl (zw_at (by omega) hs1), (zR.pre [.ref (ad 0), .int b, .int i] hP hK hN).2⟩ rfl rfl hl.1 rfl (lv_room (Nat.le_of_ble_eq_true rfl)) dX9_fits_3 ⟨Nat.le_of_ble_eq_true rfl, Nat.le_of_ble_eq_true rfl⟩) (fun r37 hr37 => ?_)
  rcases hr37 with hr37 | hr37
  · skip
    obtain ⟨rfl, h38, h39⟩ := hr37
    replace h38 : 0 ≤ b.toInt ∧ b.toInt ≤ 3 := h38
    replace h39 : 0 ≤ i.toInt ∧ i.toInt ≤ 7 := h39
    refine lv_if_eq (tgt := 16) hx hb dX9_fits_6 (by decide) (fun c40 => ?_) (fun c40 => ?_)
    · skip
      exact absurd c40 (by decide)
    · skip
      refine lv_iload_n hx hb dX9_fits_9 rfl (lv_at hl 3 rfl) ?_
      refine zc_i (va_runS (As := [.int kn]) (rest := []) ⟨hx, hb, hml, hown, hg⟩ (k_X9_isKnown l g ad me ct kn hI) (va_cwS 1 hg (z_gS mm_1294 mm_1295 mm_117 mm_1296) rfl rfl rfl (by decide +kernel) ⟨Nat.le_of_ble_eq_true rfl, Nat.le_of_ble_eq_true rfl⟩) (zR.pre [.int kn] hP hK hN) rfl rfl hl.1 rfl (lv_room (Nat.le_of_ble_eq_true rfl)) dX9_fits_10 ⟨Nat.le_of_ble_eq_true rfl, Nat.le_of_ble_eq_true rfl⟩) (fun r41 hr41 => ?_)
      rcases hr41 with hr41 | hr41
      · skip
        obtain ⟨rfl, h42, h43⟩ := hr41
        replace h42 : 0 ≤ kn.toInt := h42
        replace h43 : kn.toInt ≤ 255 := h43
        refine lv_if_ne (tgt := 18) hx hb dX9_fits_13 (by decide) (fun c44 => ?_) (fun c44 => ?_)
        · skip
          refine lv_aload_n hx hb dX9_fits_18 rfl (lv_at hl 0 rfl) ?_
          refine va_get (D := g.1) (ci := 9) (v := .ref (ad 10)) (C := RX9) (T := TX9) (N := 47) hx hb hg inG9 hown hK hP 0 (zw_at (by omega) hs1) rfl 14 (by decide) (hg _ mm_972) (fun _ h9 => h9) rfl dX9_fits_19 ?_
          refine lv_iload_n hx hb dX9_fits_22 rfl (lv_at hl 1 rfl) ?_
          refine lv_iload_n hx hb dX9_fits_23 rfl (lv_at hl 2 rfl) ?_
          refine zc_i (va_runS (As := [.int b, .int i]) (rest := [.ref (ad 10)]) ⟨hx, hb, hml, hown, hg⟩ (k_X9_at l g ad me ct b i (by first | omega | decide) (by first | omega | decide) hI) (va_cwS 2 hg (z_gS mm_1159 mm_1160 mm_117 mm_1161) rfl rfl rfl (by decide +kernel) ⟨Nat.le_of_ble_eq_true rfl, Nat.le_of_ble_eq_true rfl⟩) (zR.pre [.int b, .int i] hP hK hN) rfl rfl hl.1 rfl (lv_room (Nat.le_of_ble_eq_true rfl)) dX9_fits_24 ⟨Nat.le_of_ble_eq_true rfl, Nat.le_of_ble_eq_true rfl⟩) (fun r45 hr45 => ?_)
          have hr45_0 := hr45
          have hr45_0 : r45.toInt = 8 * b.toInt + i.toInt := hr45_0
          obtain ⟨f47, hp48, hs46⟩ := a9_10 hI.1
          refine va_zald hx hb hK hP 10 3 (zw_at (by omega) hs46) rfl (z_in rfl (by omega) (by omega)) dX9_fits_27 ?_
          refine lv_topi (fun y49 ey49 => ?_)
          have hy49 := hp48 _ (z_clt (x := r45) rfl (by omega) (by omega))
          rw [← ey49] at hy49
          have hy49 : y49 = 0 ∨ y49 = 1 := hy49
          have by49 := z_b01 hy49
          refine lv_if_eq (tgt := 36) hx hb dX9_fits_28 (by decide) (fun c50 => ?_) (fun c50 => ?_)
          · skip
            have c50 : y49.toInt = 0 := (z_eq rfl (by decide : (0 : Int32).toInt = 0)).mp c50
            refine lv_aload_n hx hb dX9_fits_36 rfl (lv_at hl 0 rfl) ?_
            refine lv_iload_n hx hb dX9_fits_37 rfl (lv_at hl 1 rfl) ?_
            refine lv_iload_n hx hb dX9_fits_38 rfl (lv_at hl 2 rfl) ?_
            refine zc_i (va_runS (As := [.int b, .int i]) (rest := [.ref (ad 0)]) ⟨hx, hb, hml, hown, hg⟩ (k_X9_at l g ad me ct b i (by first | omega | decide) (by first | omega | decide) hI) (va_cwS 2 hg (z_gS mm_1159 mm_1160 mm_117 mm_1161) rfl rfl rfl (by decide +kernel) ⟨Nat.le_of_ble_eq_true rfl, Nat.le_of_ble_eq_true rfl⟩) (zR.pre [.int b, .int i] hP hK hN) rfl rfl hl.1 rfl (lv_room (Nat.le_of_ble_eq_true rfl)) dX9_fits_39 ⟨Nat.le_of_ble_eq_true rfl, Nat.le_of_ble_eq_true rfl⟩) (fun r51 hr51 => ?_)
            have hr51_0 := hr51
            have hr51_0 : r51.toInt = 8 * b.toInt + i.toInt := hr51_0
            refine lv_iload_n hx hb dX9_fits_42 rfl (lv_at hl 3 rfl) ?_
            have hFc := zw_free hD hS hA
            refine va_calli (va_runV (As := [.int r51, .int kn]) (rest := []) ⟨hx, hb, hml, hown, hg⟩ (k_X9_fitsOf l g _ ad me ct r51 kn (by first | omega | decide) (by first | omega | decide) hI) (cwV 2 hg (z_gV mm_1297 mm_1299 mm_79 mm_117 mm_1300) rfl rfl rfl (by decide +kernel) ⟨Nat.le_of_ble_eq_true rfl, Nat.le_of_ble_eq_true rfl⟩) ⟨(zA.pre [.ref (ad 0), .int r51, .int kn] hP hK hD hN).1, va_recv hK hP (ci := 9) (q0 := 0) rfl (zw_at (by omega) hs1), (zA.pre [.ref (ad 0), .int r51, .int kn] hP hK hD hN).2⟩ rfl rfl hl.1 rfl (lv_room (Nat.le_of_ble_eq_true rfl)) dX9_fits_43 ⟨Nat.le_of_ble_eq_true rfl, Nat.le_of_ble_eq_true rfl⟩) hS (fun q _ h => hFc q h) hFc (fun r52 _ t H1 locs ht hvm hr52 hB hz1 hk1 hS => ?_)
            obtain ⟨ct53, hP1, hD1, hI, hk54, hk55, hk56⟩ := hB
            rw [ht] at hP1
            have hD := hD1.weaken (fun _ _ _ h => hFc _ h)
            generalize H1 = H at hP1 hS ⊢
            have hP := hP1
            refine W.widen (k := 0) (n := 0) (Nat.le_refl _) (Nat.le_refl _) ?_
            have hs57 : ct53 0 = .inr (9, [.int me, .ref (ad 1), .ref (ad 2), .ref (ad 3), .ref (ad 4), .int bks2, .int lks3, .int gos4, .int shn5, .ref (ad 5), .ref (ad 6), .ref (ad 7), .ref (ad 8), .ref (ad 9), .ref (ad 10), .ref (ad 11), .int tpd6, .int pl07, .int ln08, .int flt9, .int opn10, .int cmy11, .int wtg12, .int nm013, .ref (ad 12), .ref (ad 13), .ref (ad 14), .ref (ad 15), .ref (ad 16), .ref (ad 17), .ref (ad 18), .ref (ad 19), .ref (ad 20), .ref (ad 21), .ref (ad 22), .ref (ad 23), .ref (ad 24), .ref (ad 25), .ref (ad 26), .ref (ad 27), .int mst14, .int sus15, .ref (ad 28), .ref (ad 29), .ref (ad 30), .ref (ad 31), .int cut16]) := hk54.trans hs1
            have hs58 : ct53 10 = .inl (g.2 3, 32, .inl f47) := hk56.trans hs46
            obtain ⟨hr52_0, hr52_1, hr52_2⟩ := hr52
            have hr52_0 : 0 ≤ r52.toInt := hr52_0
            have hr52_1 : r52.toInt ≤ 65535 := hr52_1
            have hr52_2 : r52.toInt < ((2 ^ me.toInt.toNat : Nat) : Int) := hr52_2
            exact W.iret (v := r52) hx hb hr (fun t ht hW => ⟨⟨r52, (), rfl, trivial, ct53, by rw [ht]; exact hP, hD, hI⟩, hS.F ht⟩) hS.2.2 dX9_fits_46
          · skip
            have c50 : ¬ (y49.toInt = 0) := fun q => c50 ((z_eq rfl (by decide : (0 : Int32).toInt = 0)).mpr q)
            refine lv_bipush (v := (-2)) hx hb dX9_fits_31 (by decide) ?_
            refine lv_goto (tgt := 46) hx hb dX9_fits_33 (by decide) ?_
            have q59 : ((-2) : Int32).toInt = -2 := by decide
            exact W.iret (v := (-2)) hx hb hr (fun t ht hW => ⟨⟨(-2), (), rfl, trivial, ct, by rw [ht]; exact hP, hD, hI⟩, hS.F ht⟩) hS.2.2 dX9_fits_46
        · skip
          exact absurd c44 (by decide)
      · skip
        obtain ⟨rfl, h60⟩ := hr41
        replace h60 : ¬ (0 ≤ kn.toInt ∧ kn.toInt ≤ 255) := h60
        refine lv_if_ne (tgt := 18) hx hb dX9_fits_13 (by decide) (fun c61 => ?_) (fun c61 => ?_)
        · skip
          exact absurd c61 (by decide)
        · skip
          refine lv_iconst (v := (-1)) hx hb dX9_fits_16 (by decide) ?_
          have q62 : ((-1) : Int32).toInt = -1 := by decide
          exact W.iret (v := (-1)) hx hb hr (fun t ht hW => ⟨⟨(-1), (), rfl, trivial, ct, by rw [ht]; exact hP, hD, hI⟩, hS.F ht⟩) hS.2.2 dX9_fits_17
  · skip
    obtain rfl := hr37
    refine lv_if_eq (tgt := 16) hx hb dX9_fits_6 (by decide) (fun c63 => ?_) (fun c63 => ?_)
    · skip
      refine lv_iconst (v := (-1)) hx hb dX9_fits_16 (by decide) ?_
      have q64 : ((-1) : Int32).toInt = -1 := by decide
      exact W.iret (v := (-1)) hx hb hr (fun t ht hW => ⟨⟨(-1), (), rfl, trivial, ct, by rw [ht]; exact hP, hD, hI⟩, hS.F ht⟩) hS.2.2 dX9_fits_17
    · skip
      exact absurd c63 (by decide)

theorem zP_tail {g : zG} {w : va_W} {x : Nat × va_E} {H : Heap} (h : zP g (x :: w) H) : zP g w H := zP_mem.mpr fun y hy => zP_mem.mp h y (List.mem_cons_of_mem _ hy)
theorem zD_tail {A : Nat → Prop} {w : va_W} {x : Nat × va_E} (h : va_D A (x :: w)) : va_D A w := by
  rw [zD_nd] at h ⊢
  exact ⟨(List.nodup_cons.mp h.1).2, fun y hy => h.2 y (List.mem_cons_of_mem _ hy)⟩

set_option maxHeartbeats 400000000 in
set_option maxRecDepth 100000 in
theorem c_town (l : Launch) (g : zG) (sz L : Nat) (xs : Nat → Int32) (hL : L ≤ 260) (b ra : Nat) (ad : Nat → Nat) (ct : Nat → va_E) (rw0 : Nat → Int32) (hI : Inv8 g idn 0 ct) (k0 : zf 12 (ct 0) = 0) (k3 : ct 3 = .inr (7, [.int 0, .ref 4])) : Met l yL_town (zW yL_town cL_town 12 (some .int)) ({ frames := 29, cells := 1, slots := 4, locals := 719 }) (va_Pc [.ref (ad 0), .ref b, .ref ra] (zB g ([(ra, .inl (g.2 0, 76, .inl rw0))] ++ (dW pAll ad ct ++ [])) b L xs sz)) (va_Qi (fun (r : Int32) (_ : Unit) => r = twN L xs) (fun _ t => ∃ (c2 : Nat → va_E) (rw2 : Nat → Int32), zP g ([(ra, .inl (g.2 0, 76, .inl rw2))] ++ (dW pAll ad c2 ++ [])) t.heap ∧ va_D (va_A ([(ra, .inl (g.2 0, 76, .inl rw0))] ++ (dW pAll ad ct ++ [])) sz) ([(ra, .inl (g.2 0, 76, .inl rw2))] ++ (dW pAll ad c2 ++ [])) ∧ Inv8 g idn 7 c2 ∧ (zf 12 (c2 0)).toInt = 1 ∧ c2 3 = .inr (7, [.int 0, .ref 4]) ∧ (∀ q, ¬ dIn pM q → c2 q = TWN l g L xs ct q)) (va_A ([(ra, .inl (g.2 0, 76, .inl rw0))] ++ (dW pAll ad ct ++ [])) sz)) 1 4 (va_A ([(ra, .inl (g.2 0, 76, .inl rw0))] ++ (dW pAll ad ct ++ [])) sz) := by
  refine Met.ofW (cc := cL_town) (maxL := 12) (ret := (some .int)) (by decide) rfl ?_
  intro p e s m args below meth c s₁ B hml hv
  obtain ⟨rfl, ⟨hsz, hP, hK, hD0, hN⟩, hX, hbl, hbA⟩ := hv
  have hx := B.exec
  have hb := B.bytes
  have hr := B.returns
  have hg := zW.law (atoms_spec (ws := (zW yL_town cL_town 12 (some .int))) B.pre)
  have hown : s.vm.findClass RL = some m.cls := findClass_of_methodNamed B.named
  have hlocks := B.notSynchronized
  subst hsz
  have hD := hD0.self (sz := s.heap.size)
  generalize hAe : va_A ([(ra, .inl (g.2 0, 76, .inl rw0))] ++ (dW pAll ad ct ++ [])) s.heap.size = A at hD hbA ⊢
  have hA : ∀ q : Nat, s.heap.size ≤ q → A q := fun q h => by rw [← hAe]; exact Or.inr h
  have hS : va_S A s.heap s.heap [] := va_S.rf
  have hl := lv_entry ([.ref (ad 0), .ref b, .ref ra]) (n := 12) (Nat.le_of_ble_eq_true rfl)
  rw [lg_entry_eq]
  generalize (lg_sl ([.ref (ad 0), .ref b, .ref ra]) ++ List.replicate (12 - (lg_sl ([.ref (ad 0), .ref b, .ref ra])).length) Slot.unset).toArray = ls at hl ⊢
  have hl : lv_has ls 12 [(0, .ref (ad 0)), (1, .ref b), (2, .ref ra)] := hl
  obtain ⟨H, hH⟩ : ∃ H, H = s.heap := ⟨_, rfl⟩
  obtain ⟨locs, hlo⟩ : ∃ x : List Loc, x = [] := ⟨_, rfl⟩
  rw [← hlo] at hS ⊢
  have hS : va_S A s.heap H locs := by rw [hH]; exact hS
  have hP : zP g ([(ra, .inl (g.2 0, 76, .inl rw0))] ++ (dW pAll ad ct ++ [])) H := by rw [hH]; exact hP
  suffices hgo : W p l e (headSpec (zW yL_town cL_town 12 (some .int)) ({ frames := 29, cells := 1, slots := 4, locals := 719 })).room s m ([.ref (ad 0), .ref b, .ref ra] : List Value).toArray below meth c H locs 0 0 (MQ below (va_Qi (fun (r : Int32) (_ : Unit) => r = twN L xs) (fun _ t => ∃ (c2 : Nat → va_E) (rw2 : Nat → Int32), zP g ([(ra, .inl (g.2 0, 76, .inl rw2))] ++ (dW pAll ad c2 ++ [])) t.heap ∧ va_D A ([(ra, .inl (g.2 0, 76, .inl rw2))] ++ (dW pAll ad c2 ++ [])) ∧ Inv8 g idn 7 c2 ∧ (zf 12 (c2 0)).toInt = 1 ∧ c2 3 = .inr (7, [.int 0, .ref 4]) ∧ (∀ q, ¬ dIn pM q → c2 q = TWN l g L xs ct q)) A) ([.ref (ad 0), .ref b, .ref ra] : List Value).toArray s 1 4 A) (F0 m 0 ls []) by
    rw [hH] at hgo
    exact hgo
  clear hH hlo
  have hj12 : ∀ (z12 : Int32), z12 = tX L xs → W p l e (headSpec (zW yL_town cL_town 12 (some .int)) ({ frames := 29, cells := 1, slots := 4, locals := 719 })).room s m ([.ref (ad 0), .ref b, .ref ra] : List Value).toArray below meth c H locs 0 0 (MQ below (va_Qi (fun (r : Int32) (_ : Unit) => r = twN L xs) (fun _ t => ∃ (c2 : Nat → va_E) (rw2 : Nat → Int32), zP g ([(ra, .inl (g.2 0, 76, .inl rw2))] ++ (dW pAll ad c2 ++ [])) t.heap ∧ va_D A ([(ra, .inl (g.2 0, 76, .inl rw2))] ++ (dW pAll ad c2 ++ [])) ∧ Inv8 g idn 7 c2 ∧ (zf 12 (c2 0)).toInt = 1 ∧ c2 3 = .inr (7, [.int 0, .ref 4]) ∧ (∀ q, ¬ dIn pM q → c2 q = TWN l g L xs ct q)) A) ([.ref (ad 0), .ref b, .ref ra] : List Value).toArray s 1 4 A) (F0 m 12 ls [.int z12]) := by
    intro z12 hz12
    refine lv_istore_n (lv' := [(3, .int z12), (0, .ref (ad 0)), (1, .ref b), (2, .ref ra)]) hx hb dL_town_12 rfl hl (by decide) rfl (fun ls hl => ?_)
    refine lv_iconst (v := 0) hx hb dL_town_13 (by decide) ?_
    refine lv_istore (lv' := [(4, .int 0), (3, .int z12), (0, .ref (ad 0)), (1, .ref b), (2, .ref ra)]) hx hb dL_town_14 hl (by decide) rfl (fun ls hl => ?_)
    have loop16 : ∀ (n16 : Nat) (v4_16 : Int32) (ct0_16 : Nat → va_E) (H : Heap) (locs : List Loc) (ls : Array Slot), ((4 - v4_16.toInt : Int).toNat < n16) → (0 ≤ v4_16.toInt ∧ v4_16.toInt ≤ 4) → (Inv8 g idn 0 ct0_16) → (∀ q, ¬ dIn pM q → ct0_16 q = (tw0 l g ct v4_16.toInt.toNat) q) → (zf 12 (ct0_16 0) = 0) → (ct0_16 3 = .inr (7, [.int 0, .ref 4])) → zP g ([(ra, .inl (g.2 0, 76, .inl rw0))] ++ (dW pAll ad ct0_16 ++ [])) H → va_D A ([(ra, .inl (g.2 0, 76, .inl rw0))] ++ (dW pAll ad ct0_16 ++ [])) → va_S A s.heap H locs → lv_has ls 12 [(4, .int v4_16), (3, .int z12), (0, .ref (ad 0)), (1, .ref b), (2, .ref ra)] → W p l e (headSpec (zW yL_town cL_town 12 (some .int)) ({ frames := 29, cells := 1, slots := 4, locals := 719 })).room s m ([.ref (ad 0), .ref b, .ref ra] : List Value).toArray below meth c H locs 0 0 (MQ below (va_Qi (fun (r : Int32) (_ : Unit) => r = twN L xs) (fun _ t => ∃ (c2 : Nat → va_E) (rw2 : Nat → Int32), zP g ([(ra, .inl (g.2 0, 76, .inl rw2))] ++ (dW pAll ad c2 ++ [])) t.heap ∧ va_D A ([(ra, .inl (g.2 0, 76, .inl rw2))] ++ (dW pAll ad c2 ++ [])) ∧ Inv8 g idn 7 c2 ∧ (zf 12 (c2 0)).toInt = 1 ∧ c2 3 = .inr (7, [.int 0, .ref 4]) ∧ (∀ q, ¬ dIn pM q → c2 q = TWN l g L xs ct q)) A) ([.ref (ad 0), .ref b, .ref ra] : List Value).toArray s 1 4 A) (F0 m 16 ls []) := by
      intro n16
      induction n16 with
      | zero =>
        intro v4_16 ct0_16 H locs ls hn16 b4_16 hI0_16 hr0_16 j0_16 j1_16 hP hD hS hl
        exact absurd hn16 (Nat.not_lt_zero _)
      | succ n16 ih16 =>
        intro v4_16 ct0_16 H locs ls hn16 b4_16 hI0_16 hr0_16 j0_16 j1_16 hP hD hS hl
        refine lv_iload hx hb dL_town_16 (lv_at hl 0 rfl) ?_
        refine lv_iconst (v := 4) hx hb dL_town_18 (by decide) ?_
        refine lv_icmp_ge (tgt := 106) hx hb dL_town_19 (by decide) (fun c1 => ?_) (fun c1 => ?_)
        · skip
          have c1 : 4 ≤ v4_16.toInt := (z_le (by decide : (4 : Int32).toInt = 4) rfl).mp c1
          refine lv_iconst (v := 0) hx hb dL_town_106 (by decide) ?_
          refine lv_istore (lv' := [(4, .int 0), (3, .int z12), (0, .ref (ad 0)), (1, .ref b), (2, .ref ra)]) hx hb dL_town_107 hl (by decide) rfl (fun ls hl => ?_)
          have loop109 : ∀ (n109 : Nat) (v4_109 : Int32) (ct0_109 : Nat → va_E) (rw0_109 : Nat → Int32) (H : Heap) (locs : List Loc) (ls : Array Slot), ((7 - v4_109.toInt : Int).toNat < n109) → (0 ≤ v4_109.toInt ∧ v4_109.toInt ≤ 7) → (Inv8 g idn (nI v4_109.toInt.toNat) ct0_109) → (∀ q, ¬ dIn pM q → ct0_109 q = (twp l g L xs ct v4_109.toInt.toNat) q) → (zf 12 (ct0_109 0) = 0) → (ct0_109 3 = .inr (7, [.int 0, .ref 4])) → zP g ([(ra, .inl (g.2 0, 76, .inl rw0_109))] ++ (dW pAll ad ct0_109 ++ [])) H → va_D A ([(ra, .inl (g.2 0, 76, .inl rw0_109))] ++ (dW pAll ad ct0_109 ++ [])) → va_S A s.heap H locs → lv_has ls 12 [(4, .int v4_109), (3, .int z12), (0, .ref (ad 0)), (1, .ref b), (2, .ref ra)] → W p l e (headSpec (zW yL_town cL_town 12 (some .int)) ({ frames := 29, cells := 1, slots := 4, locals := 719 })).room s m ([.ref (ad 0), .ref b, .ref ra] : List Value).toArray below meth c H locs 0 0 (MQ below (va_Qi (fun (r : Int32) (_ : Unit) => r = twN L xs) (fun _ t => ∃ (c2 : Nat → va_E) (rw2 : Nat → Int32), zP g ([(ra, .inl (g.2 0, 76, .inl rw2))] ++ (dW pAll ad c2 ++ [])) t.heap ∧ va_D A ([(ra, .inl (g.2 0, 76, .inl rw2))] ++ (dW pAll ad c2 ++ [])) ∧ Inv8 g idn 7 c2 ∧ (zf 12 (c2 0)).toInt = 1 ∧ c2 3 = .inr (7, [.int 0, .ref 4]) ∧ (∀ q, ¬ dIn pM q → c2 q = TWN l g L xs ct q)) A) ([.ref (ad 0), .ref b, .ref ra] : List Value).toArray s 1 4 A) (F0 m 109 ls []) := by
            intro n109
            induction n109 with
            | zero =>
              intro v4_109 ct0_109 rw0_109 H locs ls hn109 b4_109 hI0_109 hr0_109 j0_109 j1_109 hP hD hS hl
              exact absurd hn109 (Nat.not_lt_zero _)
            | succ n109 ih109 =>
              intro v4_109 ct0_109 rw0_109 H locs ls hn109 b4_109 hI0_109 hr0_109 j0_109 j1_109 hP hD hS hl
              refine lv_iload hx hb dL_town_109 (lv_at hl 0 rfl) ?_
              refine lv_bipush (v := 7) hx hb dL_town_111 (by decide) ?_
              refine lv_icmp_ge (tgt := 238) hx hb dL_town_113 (by decide) (fun c2 => ?_) (fun c2 => ?_)
              · skip
                have c2 : 7 ≤ v4_109.toInt := (z_le (by decide : (7 : Int32).toInt = 7) rfl).mp c2
                have e7 : v4_109.toInt.toNat = 7 := by omega
                have hI7 : Inv8 g idn 7 ct0_109 := by
                  have h := hI0_109
                  rw [e7] at h
                  exact h
                have hr7 : ∀ q, ¬ dIn pM q → ct0_109 q = twp l g L xs ct 7 q := by
                  have h := hr0_109
                  rw [e7] at h
                  exact h
                refine lv_iconst (v := 2) hx hb dL_town_238 (by decide) ?_
                refine lv_iload_n hx hb dL_town_239 rfl (lv_at hl 1 rfl) ?_
                refine lv_iconst (v := 3) hx hb dL_town_240 (by decide) ?_
                refine lv_iand hx hb dL_town_241 ?_
                refine lv_topi (fun x3 ex3 => ?_)
                have tx3 := z_andr (x := z12) (y := 3) (by decide : (3 : Int32).toInt = 3) (by omega)
                rw [← ex3] at tx3
                refine lv_iadd hx hb dL_town_242 ?_
                refine lv_topi (fun x4 ex4 => ?_)
                have tx4 : x4.toInt = 2 + x3.toInt := by rw [ex4]; exact z_add (by decide : (2 : Int32).toInt = 2) rfl (by omega) (by omega)
                have hn0 : x4 = twN L xs := by unfold twN; rw [← hz12, ← ex3]; exact ex4
                refine lv_istore (lv' := [(4, .int x4), (3, .int z12), (0, .ref (ad 0)), (1, .ref b), (2, .ref ra)]) hx hb dL_town_243 hl (by decide) rfl (fun ls hl => ?_)
                refine lv_iconst (v := 4) hx hb dL_town_245 (by decide) ?_
                refine z_newI hx hb (hg _ mm_87) hK hP hD hS hA (n := 4) (N' := 4) (by decide) (by decide) (Nat.le_of_ble_eq_true rfl) (Nat.le_of_ble_eq_true rfl) (Nat.le_of_ble_eq_true rfl) dL_town_246 (fun q5 H hP hD hS => ?_)
                have hP := zP_perm pm_3 hP
                have hD := zD_perm pm_3 hD
                have hP : zP g ([(q5, .inl (g.2 0, 4, .inl (fun _ => 0))), (ra, .inl (g.2 0, 76, .inl rw0_109))] ++ (dW pAll ad ct0_109 ++ [])) H := hP
                have hD : va_D A ([(q5, .inl (g.2 0, 4, .inl (fun _ => 0))), (ra, .inl (g.2 0, 76, .inl rw0_109))] ++ (dW pAll ad ct0_109 ++ [])) := hD
                refine W.widen (k := 1) (n := 4) (Nat.le_of_ble_eq_true rfl) (Nat.le_of_ble_eq_true rfl) ?_
                refine lv_dup hx hb dL_town_248 rfl ?_
                refine lv_iconst (v := 0) hx hb dL_town_249 (by decide) ?_
                refine lv_iconst (v := 1) hx hb dL_town_250 (by decide) ?_
                refine lv_iload_n hx hb dL_town_251 rfl (lv_at hl 1 rfl) ?_
                refine lv_iconst (v := 2) hx hb dL_town_252 (by decide) ?_
                refine lv_ishr hx hb dL_town_253 ?_
                refine lv_topi (fun x6 ex6 => ?_)
                refine lv_iconst (v := 1) hx hb dL_town_254 (by decide) ?_
                refine lv_iand hx hb dL_town_255 ?_
                refine lv_topi (fun x7 ex7 => ?_)
                have tx7 := z_andr (x := x6) (y := 1) (by decide : (1 : Int32).toInt = 1) (by omega)
                rw [← ex7] at tx7
                refine lv_iadd hx hb dL_town_256 ?_
                refine lv_topi (fun x8 ex8 => ?_)
                have tx8 : x8.toInt = 1 + x7.toInt := by rw [ex8]; exact z_add (by decide : (1 : Int32).toInt = 1) rfl (by omega) (by omega)
                refine va_iast hx hb hK hP hD hS 0 0 rfl rfl (z_in (by decide : (0 : Int32).toInt = 0) (by omega) (by omega)) dL_town_257 (fun H locs hP hD hS => ?_)
                rw [show (0 : Int32).toNatClampNeg = 0 from (by decide)] at hP hD
                have hP : zP g ([(q5, .inl (g.2 0, 4, .inl (upd (fun _ => 0) 0 x8))), (ra, .inl (g.2 0, 76, .inl rw0_109))] ++ (dW pAll ad ct0_109 ++ [])) H := hP
                have hD : va_D A ([(q5, .inl (g.2 0, 4, .inl (upd (fun _ => 0) 0 x8))), (ra, .inl (g.2 0, 76, .inl rw0_109))] ++ (dW pAll ad ct0_109 ++ [])) := hD
                refine lv_dup hx hb dL_town_258 rfl ?_
                refine lv_iconst (v := 1) hx hb dL_town_259 (by decide) ?_
                refine lv_iload_n hx hb dL_town_260 rfl (lv_at hl 1 rfl) ?_
                refine lv_iconst (v := 3) hx hb dL_town_261 (by decide) ?_
                refine lv_ishr hx hb dL_town_262 ?_
                refine lv_topi (fun x9 ex9 => ?_)
                refine lv_iconst (v := 3) hx hb dL_town_263 (by decide) ?_
                refine lv_iand hx hb dL_town_264 ?_
                refine lv_topi (fun x10 ex10 => ?_)
                have tx10 := z_andr (x := x9) (y := 3) (by decide : (3 : Int32).toInt = 3) (by omega)
                rw [← ex10] at tx10
                refine va_iast hx hb hK hP hD hS 0 0 rfl rfl (z_in (by decide : (1 : Int32).toInt = 1) (by omega) (by omega)) dL_town_265 (fun H locs hP hD hS => ?_)
                rw [show (1 : Int32).toNatClampNeg = 1 from (by decide)] at hP hD
                have hP : zP g ([(q5, .inl (g.2 0, 4, .inl (upd (upd (fun _ => 0) 0 x8) 1 x10))), (ra, .inl (g.2 0, 76, .inl rw0_109))] ++ (dW pAll ad ct0_109 ++ [])) H := hP
                have hD : va_D A ([(q5, .inl (g.2 0, 4, .inl (upd (upd (fun _ => 0) 0 x8) 1 x10))), (ra, .inl (g.2 0, 76, .inl rw0_109))] ++ (dW pAll ad ct0_109 ++ [])) := hD
                refine lv_dup hx hb dL_town_266 rfl ?_
                refine lv_iconst (v := 2) hx hb dL_town_267 (by decide) ?_
                refine lv_iconst (v := 1) hx hb dL_town_268 (by decide) ?_
                refine lv_iload_n hx hb dL_town_269 rfl (lv_at hl 1 rfl) ?_
                refine lv_iconst (v := 5) hx hb dL_town_270 (by decide) ?_
                refine lv_ishr hx hb dL_town_271 ?_
                refine lv_topi (fun x11 ex11 => ?_)
                refine lv_iconst (v := 1) hx hb dL_town_272 (by decide) ?_
                refine lv_iand hx hb dL_town_273 ?_
                refine lv_topi (fun x12 ex12 => ?_)
                have tx12 := z_andr (x := x11) (y := 1) (by decide : (1 : Int32).toInt = 1) (by omega)
                rw [← ex12] at tx12
                refine lv_iadd hx hb dL_town_274 ?_
                refine lv_topi (fun x13 ex13 => ?_)
                have tx13 : x13.toInt = 1 + x12.toInt := by rw [ex13]; exact z_add (by decide : (1 : Int32).toInt = 1) rfl (by omega) (by omega)
                refine va_iast hx hb hK hP hD hS 0 0 rfl rfl (z_in (by decide : (2 : Int32).toInt = 2) (by omega) (by omega)) dL_town_275 (fun H locs hP hD hS => ?_)
                rw [show (2 : Int32).toNatClampNeg = 2 from (by decide)] at hP hD
                have hP : zP g ([(q5, .inl (g.2 0, 4, .inl (upd (upd (upd (fun _ => 0) 0 x8) 1 x10) 2 x13))), (ra, .inl (g.2 0, 76, .inl rw0_109))] ++ (dW pAll ad ct0_109 ++ [])) H := hP
                have hD : va_D A ([(q5, .inl (g.2 0, 4, .inl (upd (upd (upd (fun _ => 0) 0 x8) 1 x10) 2 x13))), (ra, .inl (g.2 0, 76, .inl rw0_109))] ++ (dW pAll ad ct0_109 ++ [])) := hD
                refine lv_dup hx hb dL_town_276 rfl ?_
                refine lv_iconst (v := 3) hx hb dL_town_277 (by decide) ?_
                refine lv_iconst (v := 2) hx hb dL_town_278 (by decide) ?_
                refine va_iast hx hb hK hP hD hS 0 0 rfl rfl (z_in (by decide : (3 : Int32).toInt = 3) (by omega) (by omega)) dL_town_279 (fun H locs hP hD hS => ?_)
                rw [show (3 : Int32).toNatClampNeg = 3 from (by decide)] at hP hD
                have hP : zP g ([(q5, .inl (g.2 0, 4, .inl (upd (upd (upd (upd (fun _ => 0) 0 x8) 1 x10) 2 x13) 3 2))), (ra, .inl (g.2 0, 76, .inl rw0_109))] ++ (dW pAll ad ct0_109 ++ [])) H := hP
                have hD : va_D A ([(q5, .inl (g.2 0, 4, .inl (upd (upd (upd (upd (fun _ => 0) 0 x8) 1 x10) 2 x13) 3 2))), (ra, .inl (g.2 0, 76, .inl rw0_109))] ++ (dW pAll ad ct0_109 ++ [])) := hD
                refine lv_astore (lv' := [(5, .ref q5), (4, .int x4), (3, .int z12), (0, .ref (ad 0)), (1, .ref b), (2, .ref ra)]) hx hb dL_town_280 hl (by decide) rfl (fun ls hl => ?_)
                refine lv_iload_n hx hb dL_town_282 rfl (lv_at hl 2 rfl) ?_
                refine lv_bipush (v := 6) hx hb dL_town_283 (by decide) ?_
                refine lv_ishr hx hb dL_town_285 ?_
                refine lv_topi (fun x14 ex14 => ?_)
                refine lv_bipush (v := 7) hx hb dL_town_286 (by decide) ?_
                refine lv_iand hx hb dL_town_288 ?_
                refine lv_topi (fun x15 ex15 => ?_)
                have tx15 := z_andr (x := x14) (y := 7) (by decide : (7 : Int32).toInt = 7) (by omega)
                rw [← ex15] at tx15
                have hfi : x15 = twFi L xs := by unfold twFi; rw [← hz12, ← ex14]; exact ex15
                refine lv_istore (lv' := [(6, .int x15), (5, .ref q5), (4, .int x4), (3, .int z12), (0, .ref (ad 0)), (1, .ref b), (2, .ref ra)]) hx hb dL_town_289 hl (by decide) rfl (fun ls hl => ?_)
                refine lv_iconst (v := 0) hx hb dL_town_291 (by decide) ?_
                refine lv_istore (lv' := [(7, .int 0), (6, .int x15), (5, .ref q5), (4, .int x4), (3, .int z12), (0, .ref (ad 0)), (1, .ref b), (2, .ref ra)]) hx hb dL_town_292 hl (by decide) rfl (fun ls hl => ?_)
                refine lv_iconst (v := 0) hx hb dL_town_294 (by decide) ?_
                refine lv_istore (lv' := [(8, .int 0), (7, .int 0), (6, .int x15), (5, .ref q5), (4, .int x4), (3, .int z12), (0, .ref (ad 0)), (1, .ref b), (2, .ref ra)]) hx hb dL_town_295 hl (by decide) rfl (fun ls hl => ?_)
                refine lv_iconst (v := 0) hx hb dL_town_297 (by decide) ?_
                refine lv_istore (lv' := [(9, .int 0), (8, .int 0), (7, .int 0), (6, .int x15), (5, .ref q5), (4, .int x4), (3, .int z12), (0, .ref (ad 0)), (1, .ref b), (2, .ref ra)]) hx hb dL_town_298 hl (by decide) rfl (fun ls hl => ?_)
                have loop300 : ∀ (n300 : Nat) (v9_300 : Int32) (v8_300 : Int32) (v7_300 : Int32) (ct0_300 : Nat → va_E) (rw1_300 : Nat → Int32) (H : Heap) (locs : List Loc) (ls : Array Slot), ((8 - v9_300.toInt : Int).toNat < n300) → (0 ≤ v9_300.toInt ∧ v9_300.toInt ≤ 5) → (Inv8 g idn 7 ct0_300) → (∀ q, ¬ dIn pM q → ct0_300 q = (twp l g L xs ct 7) q) → (v9_300.toInt ≤ x4.toInt) → ((v7_300, v8_300) = bmS x15 v9_300.toInt.toNat) → (zf 12 (ct0_300 0) = 0) → (ct0_300 3 = .inr (7, [.int 0, .ref 4])) → zP g ([(q5, .inl (g.2 0, 4, .inl (upd (upd (upd (upd (fun _ => 0) 0 x8) 1 x10) 2 x13) 3 2))), (ra, .inl (g.2 0, 76, .inl rw1_300))] ++ (dW pAll ad ct0_300 ++ [])) H → va_D A ([(q5, .inl (g.2 0, 4, .inl (upd (upd (upd (upd (fun _ => 0) 0 x8) 1 x10) 2 x13) 3 2))), (ra, .inl (g.2 0, 76, .inl rw1_300))] ++ (dW pAll ad ct0_300 ++ [])) → va_S A s.heap H locs → lv_has ls 12 [(9, .int v9_300), (8, .int v8_300), (7, .int v7_300), (6, .int x15), (5, .ref q5), (4, .int x4), (3, .int z12), (0, .ref (ad 0)), (1, .ref b), (2, .ref ra)] → W p l e (headSpec (zW yL_town cL_town 12 (some .int)) ({ frames := 29, cells := 1, slots := 4, locals := 719 })).room s m ([.ref (ad 0), .ref b, .ref ra] : List Value).toArray below meth c H locs 1 4 (MQ below (va_Qi (fun (r : Int32) (_ : Unit) => r = twN L xs) (fun _ t => ∃ (c2 : Nat → va_E) (rw2 : Nat → Int32), zP g ([(ra, .inl (g.2 0, 76, .inl rw2))] ++ (dW pAll ad c2 ++ [])) t.heap ∧ va_D A ([(ra, .inl (g.2 0, 76, .inl rw2))] ++ (dW pAll ad c2 ++ [])) ∧ Inv8 g idn 7 c2 ∧ (zf 12 (c2 0)).toInt = 1 ∧ c2 3 = .inr (7, [.int 0, .ref 4]) ∧ (∀ q, ¬ dIn pM q → c2 q = TWN l g L xs ct q)) A) ([.ref (ad 0), .ref b, .ref ra] : List Value).toArray s 1 4 A) (F0 m 300 ls []) := by
                  intro n300
                  induction n300 with
                  | zero =>
                    intro v9_300 v8_300 v7_300 ct0_300 rw1_300 H locs ls hn300 b9_300 hI0_300 hr0_300 j0_300 j1_300 j2_300 j3_300 hP hD hS hl
                    exact absurd hn300 (Nat.not_lt_zero _)
                  | succ n300 ih300 =>
                    intro v9_300 v8_300 v7_300 ct0_300 rw1_300 H locs ls hn300 b9_300 hI0_300 hr0_300 j0_300 j1_300 j2_300 j3_300 hP hD hS hl
                    refine lv_iload hx hb dL_town_300 (lv_at hl 0 rfl) ?_
                    refine lv_iload hx hb dL_town_302 (lv_at hl 5 rfl) ?_
                    refine lv_icmp_ge (tgt := 410) hx hb dL_town_304 (by decide) (fun c16 => ?_) (fun c16 => ?_)
                    · skip
                      have c16 : x4.toInt ≤ v9_300.toInt := (z_le rfl rfl).mp c16
                      have hnn : v9_300.toInt.toNat = x4.toInt.toNat := by omega
                      have hfr : 0 ≤ x15.toInt ∧ x15.toInt ≤ 7 := by omega
                      refine lv_aload_n hx hb dL_town_410 rfl (lv_at hl 7 rfl) ?_
                      refine lv_iload hx hb dL_town_411 (lv_at hl 2 rfl) ?_
                      refine lv_iload hx hb dL_town_413 (lv_at hl 1 rfl) ?_
                      refine lv_iconst (v := 0) hx hb dL_town_415 (by decide) ?_
                      refine lv_iconst (v := 0) hx hb dL_town_416 (by decide) ?_
                      refine lv_iconst (v := 0) hx hb dL_town_417 (by decide) ?_
                      obtain ⟨_, _, -, -, -, hs19⟩ := a8_0 hI0_300
                      refine LCV (n := 5) (As := [.int v7_300, .int v8_300, .int 0, .int 0, .int 0]) (rest := []) (E := [(q5, .inl (g.2 0, 4, .inl (upd (upd (upd (upd (fun _ => 0) 0 x8) 1 x10) 2 x13) 3 2))), (ra, .inl (g.2 0, 76, .inl rw1_300))]) (F := []) (fx_feed l g 7 ct0_300 v7_300 v8_300 (0 : Int32) (0 : Int32) (0 : Int32)  hI0_300 (by first | omega | assumption | decide)) sub_pCl_pAll rfl rfl hP hD hS hA hx hb hml hown hg hK hN ⟨by decide, rfl⟩ hs19 mm_343 mm_344 mm_345 mm_52 mm_346 (by decide +kernel) ⟨(Nat.le_of_ble_eq_true rfl), (Nat.le_of_ble_eq_true rfl)⟩ rfl (Nat.le_of_ble_eq_true rfl) dL_town_418 (Nat.le_of_ble_eq_true rfl) (Nat.le_of_ble_eq_true rfl) hl.1 rfl (fun ct17 rrr18 hB hoff20 H locs hP hD hS => ?_)
                      obtain ⟨r18, rfl, hr18, hI25, hk21, hk22, hk23, hk24⟩ := hB
                      refine W.eq (g2 := F0 m 421 ls [.int r18]) rfl ?_
                      have hrel26 : ∀ q, ¬ dIn pM q → ct17 q = (w_fdx l g 7 (twp l g L xs ct 7) v7_300 v8_300 (0 : Int32) (0 : Int32) (0 : Int32)).1 q := fun q hq => by rw [hk21 q hq, w_fdx_c hr0_300]
                      have hk27 : zf 12 (ct17 0) = 0 := by rw [hk24]; exact j2_300
                      have hk28 : ∀ j : Nat, j < 5 → zar (ct17 4) j = fdj v7_300 v8_300 j := fun j hj => by
                        rw [hk23]
                        exact fd5_j hj
                      refine lv_pop hx hb dL_town_421 rfl ?_
                      have hby : ∀ j : Nat, (j : Int) < x4.toInt → (zar (ct17 4) j).toInt = (((x15.toInt.toNat + j) % 7 : Nat) : Int) := fun j hj => by
                        rw [hk28 j (by omega)]
                        have h := bm_ok x15.toInt.toNat (by omega) v9_300.toInt.toNat (by omega) j (by omega)
                        rw [← z_nI (x := x15) (k := x15.toInt.toNat) (by omega), ← j1_300] at h
                        exact h
                      refine lv_aload_n hx hb dL_town_422 rfl (lv_at hl 7 rfl) ?_
                      refine lv_iload hx hb dL_town_423 (lv_at hl 5 rfl) ?_
                      refine lv_aload hx hb dL_town_425 (lv_at hl 4 rfl) ?_
                      refine lv_iconst (v := 0) hx hb dL_town_427 (by decide) ?_
                      refine va_iald hx hb hK hP 0 0 rfl rfl (z_in (by decide : (0 : Int32).toInt = 0) (by omega) (by omega)) dL_town_428 ?_
                      refine lv_topi (fun x29 ex29 => ?_)
                      have ex29 : x29 = (upd (upd (upd (upd (fun _ => 0) 0 x8) 1 x10) 2 x13) 3 2) 0 := ex29.trans (congrArg (upd (upd (upd (upd (fun _ => 0) 0 x8) 1 x10) 2 x13) 3 2) (by decide))
                      have hl0 : x29 = (x8 : Int32) := ex29.trans (by rfl)
                      have hlr0 : 0 ≤ x29.toInt ∧ x29.toInt ≤ 4 := by rw [hl0]; omega
                      refine lv_aload hx hb dL_town_429 (lv_at hl 4 rfl) ?_
                      refine lv_iconst (v := 1) hx hb dL_town_431 (by decide) ?_
                      refine va_iald hx hb hK hP 0 0 rfl rfl (z_in (by decide : (1 : Int32).toInt = 1) (by omega) (by omega)) dL_town_432 ?_
                      refine lv_topi (fun x30 ex30 => ?_)
                      have ex30 : x30 = (upd (upd (upd (upd (fun _ => 0) 0 x8) 1 x10) 2 x13) 3 2) 1 := ex30.trans (congrArg (upd (upd (upd (upd (fun _ => 0) 0 x8) 1 x10) 2 x13) 3 2) (by decide))
                      have hl1 : x30 = (x10 : Int32) := ex30.trans (by rfl)
                      have hlr1 : 0 ≤ x30.toInt ∧ x30.toInt ≤ 4 := by rw [hl1]; omega
                      refine lv_aload hx hb dL_town_433 (lv_at hl 4 rfl) ?_
                      refine lv_iconst (v := 2) hx hb dL_town_435 (by decide) ?_
                      refine va_iald hx hb hK hP 0 0 rfl rfl (z_in (by decide : (2 : Int32).toInt = 2) (by omega) (by omega)) dL_town_436 ?_
                      refine lv_topi (fun x31 ex31 => ?_)
                      have ex31 : x31 = (upd (upd (upd (upd (fun _ => 0) 0 x8) 1 x10) 2 x13) 3 2) 2 := ex31.trans (congrArg (upd (upd (upd (upd (fun _ => 0) 0 x8) 1 x10) 2 x13) 3 2) (by decide))
                      have hl2 : x31 = (x13 : Int32) := ex31.trans (by rfl)
                      have hlr2 : 0 ≤ x31.toInt ∧ x31.toInt ≤ 4 := by rw [hl2]; omega
                      refine lv_aload hx hb dL_town_437 (lv_at hl 4 rfl) ?_
                      refine lv_iconst (v := 3) hx hb dL_town_439 (by decide) ?_
                      refine va_iald hx hb hK hP 0 0 rfl rfl (z_in (by decide : (3 : Int32).toInt = 3) (by omega) (by omega)) dL_town_440 ?_
                      refine lv_topi (fun x32 ex32 => ?_)
                      have ex32 : x32 = (upd (upd (upd (upd (fun _ => 0) 0 x8) 1 x10) 2 x13) 3 2) 3 := ex32.trans (congrArg (upd (upd (upd (upd (fun _ => 0) 0 x8) 1 x10) 2 x13) 3 2) (by decide))
                      have hl3 : x32 = (2 : Int32) := ex32.trans (by rfl)
                      have hlr3 : 0 ≤ x32.toInt ∧ x32.toInt ≤ 4 := by rw [hl3]; decide
                      obtain ⟨_, _, -, -, -, hs35⟩ := a8_0 hI25
                      refine LCV (n := 5) (As := [.int x4, .int x29, .int x30, .int x31, .int x32]) (rest := []) (E := [(q5, .inl (g.2 0, 4, .inl (upd (upd (upd (upd (fun _ => 0) 0 x8) 1 x10) 2 x13) 3 2))), (ra, .inl (g.2 0, 76, .inl rw1_300))]) (F := []) (fx_book l g 7 ct17 x4 x29 x30 x31 x32 (by first | omega | decide) (by first | omega | decide) (by first | omega | decide) (by first | omega | decide) (by first | omega | decide) hI25 (by first | omega | assumption | decide) (fun j hj => by rw [hby j hj]; have hq : (7 : Int32).toInt = 7 := (by decide); omega) (fun i j hij hj => by rw [hby j hj, hby i (by omega)]; omega) (by rw [hk27]; decide)) sub_pCl_pAll rfl rfl hP hD hS hA hx hb hml hown hg hK hN ⟨by decide, rfl⟩ hs35 mm_351 mm_352 mm_353 mm_52 mm_354 (by decide +kernel) ⟨(Nat.le_of_ble_eq_true rfl), (Nat.le_of_ble_eq_true rfl)⟩ rfl (Nat.le_of_ble_eq_true rfl) dL_town_441 (Nat.le_of_ble_eq_true rfl) (Nat.le_of_ble_eq_true rfl) hl.1 rfl (fun ct33 rrr34 hB hoff36 H locs hP hD hS => ?_)
                      obtain ⟨r34, rfl, hr34, hI40, hk37, hk38, hk39⟩ := hB
                      refine W.eq (g2 := F0 m 444 ls [.int r34]) rfl ?_
                      have hrel41 : ∀ q, ¬ dIn pM q → ct33 q = (w_bx l g 7 (w_fdx l g 7 (twp l g L xs ct 7) v7_300 v8_300 (0 : Int32) (0 : Int32) (0 : Int32)).1 x4 x29 x30 x31 x32).1 q := fun q hq => by rw [hk37 q hq, w_bx_c hrel26]
                      have hk42 : (zf 12 (ct33 0)).toInt = 1 := by rw [hk38, hk27]; decide
                      have hr0 : r34.toInt = 0 := by rw [hr34, hk27]; decide
                      have h43 := hr34
                      have h43 : r34.toInt = (zf 12 (ct17 0)).toInt := h43
                      refine lv_if_ne (tgt := 452) hx hb dL_town_444 (by decide) (fun c44 => ?_) (fun c44 => ?_)
                      · skip
                        have c44 : ¬ (r34.toInt = 0) := fun q => c44 ((z_eq rfl (by decide : (0 : Int32).toInt = 0)).mpr q)
                        exfalso
                        omega
                      · skip
                        have c44 : r34.toInt = 0 := (z_eq rfl (by decide : (0 : Int32).toInt = 0)).mp c44
                        refine lv_iload hx hb dL_town_447 (lv_at hl 5 rfl) ?_
                        refine lv_goto (tgt := 453) hx hb dL_town_449 (by decide) ?_
                        have hPf := zP_tail hP
                        have hDf := zD_tail hD
                        have hfin : ∀ q, ¬ dIn pM q → ct33 q = TWN l g L xs ct q := fun q hq => (hrel41 q hq).trans (by
                          unfold TWN
                          rw [← hn0, ← hfi, ← hnn, ← j1_300, ← hz12, hl0, hl1, hl2, hl3]
                          rw [← ex6, ← ex7, ← ex8, ← ex9, ← ex10, ← ex11, ← ex12, ← ex13])
                        refine W.widen (k := 1) (n := 4) (Nat.le_of_ble_eq_true rfl) (Nat.le_of_ble_eq_true rfl) ?_
                        exact W.iret (v := x4) hx hb hr (fun t ht hW => ⟨⟨x4, (), rfl, hn0, ct33, rw1_300, by rw [ht]; exact hPf, hDf, hI40, hk42, hk39, hfin⟩, hS.F ht⟩) hS.2.2 dL_town_453
                    · skip
                      have c16 : ¬ (x4.toInt ≤ v9_300.toInt) := fun q => c16 ((z_le rfl rfl).mpr q)
                      refine lv_iload hx hb dL_town_307 (lv_at hl 3 rfl) ?_
                      refine lv_iload hx hb dL_town_309 (lv_at hl 0 rfl) ?_
                      refine lv_iadd hx hb dL_town_311 ?_
                      refine lv_topi (fun x45 ex45 => ?_)
                      have tx45 : x45.toInt = x15.toInt + v9_300.toInt := by rw [ex45]; exact z_add rfl rfl (by omega) (by omega)
                      refine lv_bipush (v := 7) hx hb dL_town_312 (by decide) ?_
                      refine lv_irem hx hb dL_town_314 ((by decide)) ?_
                      refine lv_topi (fun x46 ex46 => ?_)
                      have tx46 := z_rem (x := x45) (y := 7) rfl (by decide : (7 : Int32).toInt = 7) (by omega) (by omega)
                      rw [← ex46] at tx46
                      refine lv_istore (lv' := [(10, .int x46), (9, .int v9_300), (8, .int v8_300), (7, .int v7_300), (6, .int x15), (5, .ref q5), (4, .int x4), (3, .int z12), (0, .ref (ad 0)), (1, .ref b), (2, .ref ra)]) hx hb dL_town_315 hl (by decide) rfl (fun ls hl => ?_)
                      refine lv_aload_n hx hb dL_town_317 rfl (lv_at hl 10 rfl) ?_
                      refine lv_bipush (v := 68) hx hb dL_town_318 (by decide) ?_
                      refine lv_iload hx hb dL_town_320 (lv_at hl 1 rfl) ?_
                      refine lv_iadd hx hb dL_town_322 ?_
                      refine lv_topi (fun x47 ex47 => ?_)
                      have tx47 : x47.toInt = 68 + v9_300.toInt := by rw [ex47]; exact z_add (by decide : (68 : Int32).toInt = 68) rfl (by omega) (by omega)
                      refine lv_iload hx hb dL_town_323 (lv_at hl 0 rfl) ?_
                      refine va_iast hx hb hK hP hD hS 1 0 rfl rfl (z_in rfl (by omega) (by omega)) dL_town_325 (fun H locs hP hD hS => ?_)
                      have hP : zP g ([(q5, .inl (g.2 0, 4, .inl (upd (upd (upd (upd (fun _ => 0) 0 x8) 1 x10) 2 x13) 3 2))), (ra, .inl (g.2 0, 76, .inl (upd rw1_300 (Int32.toNatClampNeg x47) x46)))] ++ (dW pAll ad ct0_300 ++ [])) H := hP
                      have hD : va_D A ([(q5, .inl (g.2 0, 4, .inl (upd (upd (upd (upd (fun _ => 0) 0 x8) 1 x10) 2 x13) 3 2))), (ra, .inl (g.2 0, 76, .inl (upd rw1_300 (Int32.toNatClampNeg x47) x46)))] ++ (dW pAll ad ct0_300 ++ [])) := hD
                      refine lv_iload hx hb dL_town_326 (lv_at hl 1 rfl) ?_
                      refine lv_iconst (v := 4) hx hb dL_town_328 (by decide) ?_
                      refine lv_icmp_ge (tgt := 351) hx hb dL_town_329 (by decide) (fun c48 => ?_) (fun c48 => ?_)
                      · skip
                        have c48 : 4 ≤ v9_300.toInt := (z_le (by decide : (4 : Int32).toInt = 4) rfl).mp c48
                        refine lv_iload hx hb dL_town_351 (lv_at hl 0 rfl) ?_
                        refine lv_bipush (v := 24) hx hb dL_town_353 (by decide) ?_
                        refine lv_ishl hx hb dL_town_355 ?_
                        refine lv_topi (fun x49 ex49 => ?_)
                        refine lv_istore (lv' := [(8, .int x49), (10, .int x46), (9, .int v9_300), (7, .int v7_300), (6, .int x15), (5, .ref q5), (4, .int x4), (3, .int z12), (0, .ref (ad 0)), (1, .ref b), (2, .ref ra)]) hx hb dL_town_356 hl (by decide) rfl (fun ls hl => ?_)
                        refine lv_iconst (v := 0) hx hb dL_town_358 (by decide) ?_
                        refine lv_istore (lv' := [(11, .int 0), (8, .int x49), (10, .int x46), (9, .int v9_300), (7, .int v7_300), (6, .int x15), (5, .ref q5), (4, .int x4), (3, .int z12), (0, .ref (ad 0)), (1, .ref b), (2, .ref ra)]) hx hb dL_town_359 hl (by decide) rfl (fun ls hl => ?_)
                        have loop361 : ∀ (n361 : Nat) (v11_361 : Int32) (ct0_361 : Nat → va_E) (rw1_361 : Nat → Int32) (H : Heap) (locs : List Loc) (ls : Array Slot), ((4 - v11_361.toInt : Int).toNat < n361) → (0 ≤ v11_361.toInt ∧ v11_361.toInt ≤ 4) → (Inv8 g idn 7 ct0_361) → (∀ q, ¬ dIn pM q → ct0_361 q = (twp l g L xs ct 7) q) → (zf 12 (ct0_361 0) = 0) → (ct0_361 3 = .inr (7, [.int 0, .ref 4])) → zP g ([(q5, .inl (g.2 0, 4, .inl (upd (upd (upd (upd (fun _ => 0) 0 x8) 1 x10) 2 x13) 3 2))), (ra, .inl (g.2 0, 76, .inl rw1_361))] ++ (dW pAll ad ct0_361 ++ [])) H → va_D A ([(q5, .inl (g.2 0, 4, .inl (upd (upd (upd (upd (fun _ => 0) 0 x8) 1 x10) 2 x13) 3 2))), (ra, .inl (g.2 0, 76, .inl rw1_361))] ++ (dW pAll ad ct0_361 ++ [])) → va_S A s.heap H locs → lv_has ls 12 [(11, .int v11_361), (8, .int x49), (10, .int x46), (9, .int v9_300), (7, .int v7_300), (6, .int x15), (5, .ref q5), (4, .int x4), (3, .int z12), (0, .ref (ad 0)), (1, .ref b), (2, .ref ra)] → W p l e (headSpec (zW yL_town cL_town 12 (some .int)) ({ frames := 29, cells := 1, slots := 4, locals := 719 })).room s m ([.ref (ad 0), .ref b, .ref ra] : List Value).toArray below meth c H locs 1 4 (MQ below (va_Qi (fun (r : Int32) (_ : Unit) => r = twN L xs) (fun _ t => ∃ (c2 : Nat → va_E) (rw2 : Nat → Int32), zP g ([(ra, .inl (g.2 0, 76, .inl rw2))] ++ (dW pAll ad c2 ++ [])) t.heap ∧ va_D A ([(ra, .inl (g.2 0, 76, .inl rw2))] ++ (dW pAll ad c2 ++ [])) ∧ Inv8 g idn 7 c2 ∧ (zf 12 (c2 0)).toInt = 1 ∧ c2 3 = .inr (7, [.int 0, .ref 4]) ∧ (∀ q, ¬ dIn pM q → c2 q = TWN l g L xs ct q)) A) ([.ref (ad 0), .ref b, .ref ra] : List Value).toArray s 1 4 A) (F0 m 361 ls []) := by
                          intro n361
                          induction n361 with
                          | zero =>
                            intro v11_361 ct0_361 rw1_361 H locs ls hn361 b11_361 hI0_361 hr0_361 j0_361 j1_361 hP hD hS hl
                            exact absurd hn361 (Nat.not_lt_zero _)
                          | succ n361 ih361 =>
                            intro v11_361 ct0_361 rw1_361 H locs ls hn361 b11_361 hI0_361 hr0_361 j0_361 j1_361 hP hD hS hl
                            refine lv_iload hx hb dL_town_361 (lv_at hl 0 rfl) ?_
                            refine lv_iconst (v := 4) hx hb dL_town_363 (by decide) ?_
                            refine lv_icmp_ge (tgt := 404) hx hb dL_town_364 (by decide) (fun c50 => ?_) (fun c50 => ?_)
                            · skip
                              have c50 : 4 ≤ v11_361.toInt := (z_le (by decide : (4 : Int32).toInt = 4) rfl).mp c50
                              obtain ⟨x51, ex51⟩ : ∃ y : Int32, y = v9_300 + 1 := ⟨_, rfl⟩
                              have tx51 : x51.toInt = v9_300.toInt + 1 := by rw [ex51]; exact z_add rfl (by decide : (1 : Int32).toInt = 1) (by omega) (by omega)
                              refine lv_iinc (v := x51) (lv' := [(9, .int x51), (11, .int v11_361), (8, .int x49), (10, .int x46), (7, .int v7_300), (6, .int x15), (5, .ref q5), (4, .int x4), (3, .int z12), (0, .ref (ad 0)), (1, .ref b), (2, .ref ra)]) hx hb dL_town_404 hl (k := 3) rfl (by rw [ex51]; rfl) (by decide) rfl (fun ls hl => ?_)
                              refine lv_goto (tgt := 300) hx hb dL_town_407 (by decide) ?_
                              exact ih300 x51 x49 v7_300 ct0_361 rw1_361 _ _ ls (by omega) (by first | omega | decide) hI0_361 hr0_361 (by first | omega | assumption | decide) (by rw [show x51.toInt.toNat = v9_300.toInt.toNat + 1 by omega]; show _ = (if v9_300.toInt.toNat < 4 then _ else _); rw [if_neg (by omega), ← j1_300, ← z_nI (x := v9_300) (k := v9_300.toInt.toNat) (by omega), ← ex45, ← ex46, ← ex49]) (by first | omega | assumption | decide) (by first | omega | assumption | decide) hP hD hS (lv_sub hl [0, 2, 4, 5, 6, 7, 8, 9, 10, 11] rfl)
                            · skip
                              have c50 : ¬ (4 ≤ v11_361.toInt) := fun q => c50 ((z_le (by decide : (4 : Int32).toInt = 4) rfl).mpr q)
                              refine lv_aload_n hx hb dL_town_367 rfl (lv_at hl 11 rfl) ?_
                              refine lv_bipush (v := 28) hx hb dL_town_368 (by decide) ?_
                              refine lv_iconst (v := 4) hx hb dL_town_370 (by decide) ?_
                              refine lv_iload hx hb dL_town_371 (lv_at hl 3 rfl) ?_
                              refine lv_imul hx hb dL_town_373 ?_
                              refine lv_topi (fun x52 ex52 => ?_)
                              have tx52 : x52.toInt = 4 * v9_300.toInt := by rw [ex52]; exact z_mul (by decide : (4 : Int32).toInt = 4) rfl (by omega) (by omega)
                              refine lv_iadd hx hb dL_town_374 ?_
                              refine lv_topi (fun x53 ex53 => ?_)
                              have tx53 : x53.toInt = 28 + x52.toInt := by rw [ex53]; exact z_add (by decide : (28 : Int32).toInt = 28) rfl (by omega) (by omega)
                              refine lv_iload hx hb dL_town_375 (lv_at hl 0 rfl) ?_
                              refine lv_iadd hx hb dL_town_377 ?_
                              refine lv_topi (fun x54 ex54 => ?_)
                              have tx54 : x54.toInt = x53.toInt + v11_361.toInt := by rw [ex54]; exact z_add rfl rfl (by omega) (by omega)
                              refine lv_iload hx hb dL_town_378 (lv_at hl 0 rfl) ?_
                              refine lv_aload_n hx hb dL_town_380 rfl (lv_at hl 11 rfl) ?_
                              refine lv_iconst (v := 4) hx hb dL_town_381 (by decide) ?_
                              refine lv_iload hx hb dL_town_382 (lv_at hl 2 rfl) ?_
                              refine lv_imul hx hb dL_town_384 ?_
                              refine lv_topi (fun x55 ex55 => ?_)
                              have tx55 : x55.toInt = 4 * x46.toInt := by rw [ex55]; exact z_mul (by decide : (4 : Int32).toInt = 4) rfl (by omega) (by omega)
                              refine lv_iload hx hb dL_town_385 (lv_at hl 0 rfl) ?_
                              refine lv_iadd hx hb dL_town_387 ?_
                              refine lv_topi (fun x56 ex56 => ?_)
                              have tx56 : x56.toInt = x55.toInt + v11_361.toInt := by rw [ex56]; exact z_add rfl rfl (by omega) (by omega)
                              refine va_iald hx hb hK hP 1 0 rfl rfl (z_in rfl (by omega) (by omega)) dL_town_388 ?_
                              refine lv_topi (fun x57 ex57 => ?_)
                              have ex57 : x57 = rw1_361 (Int32.toNatClampNeg x56) := ex57.trans (congrArg rw1_361 rfl)
                              refine lv_aload hx hb dL_town_389 (lv_at hl 6 rfl) ?_
                              refine lv_iload hx hb dL_town_391 (lv_at hl 0 rfl) ?_
                              refine va_iald hx hb hK hP 0 0 rfl rfl (z_in rfl (by omega) (by omega)) dL_town_393 ?_
                              refine lv_topi (fun x58 ex58 => ?_)
                              have ex58 : x58 = (upd (upd (upd (upd (fun _ => 0) 0 x8) 1 x10) 2 x13) 3 2) (Int32.toNatClampNeg v11_361) := ex58.trans (congrArg (upd (upd (upd (upd (fun _ => 0) 0 x8) 1 x10) 2 x13) 3 2) rfl)
                              refine LCS (n := 3) (As := [.int v11_361, .int x57, .int x58]) (rest := [.int x54, .ref ra]) (E := [(q5, .inl (g.2 0, 4, .inl (upd (upd (upd (upd (fun _ => 0) 0 x8) 1 x10) 2 x13) 3 2))), (ra, .inl (g.2 0, 76, .inl rw1_361))]) (F := []) (k_up l g 7 ct0_361 v11_361 x57 x58  hI0_361 ) (fun _ h => Bool.noConfusion h) rfl rfl hP hD hS hA hx hb hml hown hg hK hN mm_638 mm_639 mm_51 mm_640 (by decide +kernel) ⟨(Nat.le_of_ble_eq_true rfl), (Nat.le_of_ble_eq_true rfl)⟩ rfl (Nat.le_of_ble_eq_true rfl) dL_town_394 (Nat.le_of_ble_eq_true rfl) (Nat.le_of_ble_eq_true rfl) hl.1 rfl (fun ct59 rrr60 hB hoff61 H locs hP hD hS => ?_)
                              obtain ⟨r60, rfl, hr60, rfl⟩ := hB
                              refine W.eq (g2 := F0 m 397 ls [.int r60, .int x54, .ref ra]) rfl ?_
                              refine va_iast hx hb hK hP hD hS 1 0 rfl rfl (z_in rfl (by omega) (by omega)) dL_town_397 (fun H locs hP hD hS => ?_)
                              have hP : zP g ([(q5, .inl (g.2 0, 4, .inl (upd (upd (upd (upd (fun _ => 0) 0 x8) 1 x10) 2 x13) 3 2))), (ra, .inl (g.2 0, 76, .inl (upd rw1_361 (Int32.toNatClampNeg x54) r60)))] ++ (dW pAll ad ct0_361 ++ [])) H := hP
                              have hD : va_D A ([(q5, .inl (g.2 0, 4, .inl (upd (upd (upd (upd (fun _ => 0) 0 x8) 1 x10) 2 x13) 3 2))), (ra, .inl (g.2 0, 76, .inl (upd rw1_361 (Int32.toNatClampNeg x54) r60)))] ++ (dW pAll ad ct0_361 ++ [])) := hD
                              obtain ⟨x62, ex62⟩ : ∃ y : Int32, y = v11_361 + 1 := ⟨_, rfl⟩
                              have tx62 : x62.toInt = v11_361.toInt + 1 := by rw [ex62]; exact z_add rfl (by decide : (1 : Int32).toInt = 1) (by omega) (by omega)
                              refine lv_iinc (v := x62) (lv' := [(11, .int x62), (8, .int x49), (10, .int x46), (9, .int v9_300), (7, .int v7_300), (6, .int x15), (5, .ref q5), (4, .int x4), (3, .int z12), (0, .ref (ad 0)), (1, .ref b), (2, .ref ra)]) hx hb dL_town_398 hl (k := 0) rfl (by rw [ex62]; rfl) (by decide) rfl (fun ls hl => ?_)
                              refine lv_goto (tgt := 361) hx hb dL_town_401 (by decide) ?_
                              exact ih361 x62 ct0_361 (upd rw1_361 (Int32.toNatClampNeg x54) r60) _ _ ls (by omega) (by first | omega | decide) hI0_361 hr0_361 (by first | omega | assumption | decide) (by first | omega | assumption | decide) hP hD hS (lv_sub hl [0, 1, 2, 3, 4, 5, 6, 7, 8, 9, 10, 11] rfl)
                        exact loop361 ((4 - (0 : Int32).toInt : Int).toNat + 1) (0 : Int32) ct0_300 (upd rw1_300 (Int32.toNatClampNeg x47) x46) _ _ ls (by omega) (by first | omega | decide) hI0_300 hr0_300 (by first | omega | assumption | decide) (by first | omega | assumption | decide) hP hD hS (lv_sub hl [0, 1, 2, 3, 4, 5, 6, 7, 8, 9, 10, 11] rfl)
                      · skip
                        have c48 : ¬ (4 ≤ v9_300.toInt) := fun q => c48 ((z_le (by decide : (4 : Int32).toInt = 4) rfl).mpr q)
                        refine lv_iload hx hb dL_town_332 (lv_at hl 3 rfl) ?_
                        refine lv_iload hx hb dL_town_334 (lv_at hl 0 rfl) ?_
                        refine lv_bipush (v := 24) hx hb dL_town_336 (by decide) ?_
                        refine lv_bipush (v := 8) hx hb dL_town_338 (by decide) ?_
                        refine lv_iload hx hb dL_town_340 (lv_at hl 1 rfl) ?_
                        refine lv_imul hx hb dL_town_342 ?_
                        refine lv_topi (fun x63 ex63 => ?_)
                        have tx63 : x63.toInt = 8 * v9_300.toInt := by rw [ex63]; exact z_mul (by decide : (8 : Int32).toInt = 8) rfl (by omega) (by omega)
                        refine lv_isub hx hb dL_town_343 ?_
                        refine lv_topi (fun x64 ex64 => ?_)
                        have tx64 : x64.toInt = 24 - x63.toInt := by rw [ex64]; exact z_sub (by decide : (24 : Int32).toInt = 24) rfl (by omega) (by omega)
                        refine lv_ishl hx hb dL_town_344 ?_
                        refine lv_topi (fun x65 ex65 => ?_)
                        refine lv_ior hx hb dL_town_345 ?_
                        refine lv_topi (fun x66 ex66 => ?_)
                        refine lv_istore (lv' := [(7, .int x66), (10, .int x46), (9, .int v9_300), (8, .int v8_300), (6, .int x15), (5, .ref q5), (4, .int x4), (3, .int z12), (0, .ref (ad 0)), (1, .ref b), (2, .ref ra)]) hx hb dL_town_346 hl (by decide) rfl (fun ls hl => ?_)
                        refine lv_goto (tgt := 358) hx hb dL_town_348 (by decide) ?_
                        refine lv_iconst (v := 0) hx hb dL_town_358 (by decide) ?_
                        refine lv_istore (lv' := [(11, .int 0), (7, .int x66), (10, .int x46), (9, .int v9_300), (8, .int v8_300), (6, .int x15), (5, .ref q5), (4, .int x4), (3, .int z12), (0, .ref (ad 0)), (1, .ref b), (2, .ref ra)]) hx hb dL_town_359 hl (by decide) rfl (fun ls hl => ?_)
                        have loop361 : ∀ (n361 : Nat) (v11_361 : Int32) (ct0_361 : Nat → va_E) (rw1_361 : Nat → Int32) (H : Heap) (locs : List Loc) (ls : Array Slot), ((4 - v11_361.toInt : Int).toNat < n361) → (0 ≤ v11_361.toInt ∧ v11_361.toInt ≤ 4) → (Inv8 g idn 7 ct0_361) → (∀ q, ¬ dIn pM q → ct0_361 q = (twp l g L xs ct 7) q) → (zf 12 (ct0_361 0) = 0) → (ct0_361 3 = .inr (7, [.int 0, .ref 4])) → zP g ([(q5, .inl (g.2 0, 4, .inl (upd (upd (upd (upd (fun _ => 0) 0 x8) 1 x10) 2 x13) 3 2))), (ra, .inl (g.2 0, 76, .inl rw1_361))] ++ (dW pAll ad ct0_361 ++ [])) H → va_D A ([(q5, .inl (g.2 0, 4, .inl (upd (upd (upd (upd (fun _ => 0) 0 x8) 1 x10) 2 x13) 3 2))), (ra, .inl (g.2 0, 76, .inl rw1_361))] ++ (dW pAll ad ct0_361 ++ [])) → va_S A s.heap H locs → lv_has ls 12 [(11, .int v11_361), (7, .int x66), (10, .int x46), (9, .int v9_300), (8, .int v8_300), (6, .int x15), (5, .ref q5), (4, .int x4), (3, .int z12), (0, .ref (ad 0)), (1, .ref b), (2, .ref ra)] → W p l e (headSpec (zW yL_town cL_town 12 (some .int)) ({ frames := 29, cells := 1, slots := 4, locals := 719 })).room s m ([.ref (ad 0), .ref b, .ref ra] : List Value).toArray below meth c H locs 1 4 (MQ below (va_Qi (fun (r : Int32) (_ : Unit) => r = twN L xs) (fun _ t => ∃ (c2 : Nat → va_E) (rw2 : Nat → Int32), zP g ([(ra, .inl (g.2 0, 76, .inl rw2))] ++ (dW pAll ad c2 ++ [])) t.heap ∧ va_D A ([(ra, .inl (g.2 0, 76, .inl rw2))] ++ (dW pAll ad c2 ++ [])) ∧ Inv8 g idn 7 c2 ∧ (zf 12 (c2 0)).toInt = 1 ∧ c2 3 = .inr (7, [.int 0, .ref 4]) ∧ (∀ q, ¬ dIn pM q → c2 q = TWN l g L xs ct q)) A) ([.ref (ad 0), .ref b, .ref ra] : List Value).toArray s 1 4 A) (F0 m 361 ls []) := by
                          intro n361
                          induction n361 with
                          | zero =>
                            intro v11_361 ct0_361 rw1_361 H locs ls hn361 b11_361 hI0_361 hr0_361 j0_361 j1_361 hP hD hS hl
                            exact absurd hn361 (Nat.not_lt_zero _)
                          | succ n361 ih361 =>
                            intro v11_361 ct0_361 rw1_361 H locs ls hn361 b11_361 hI0_361 hr0_361 j0_361 j1_361 hP hD hS hl
                            refine lv_iload hx hb dL_town_361 (lv_at hl 0 rfl) ?_
                            refine lv_iconst (v := 4) hx hb dL_town_363 (by decide) ?_
                            refine lv_icmp_ge (tgt := 404) hx hb dL_town_364 (by decide) (fun c67 => ?_) (fun c67 => ?_)
                            · skip
                              have c67 : 4 ≤ v11_361.toInt := (z_le (by decide : (4 : Int32).toInt = 4) rfl).mp c67
                              obtain ⟨x68, ex68⟩ : ∃ y : Int32, y = v9_300 + 1 := ⟨_, rfl⟩
                              have tx68 : x68.toInt = v9_300.toInt + 1 := by rw [ex68]; exact z_add rfl (by decide : (1 : Int32).toInt = 1) (by omega) (by omega)
                              refine lv_iinc (v := x68) (lv' := [(9, .int x68), (11, .int v11_361), (7, .int x66), (10, .int x46), (8, .int v8_300), (6, .int x15), (5, .ref q5), (4, .int x4), (3, .int z12), (0, .ref (ad 0)), (1, .ref b), (2, .ref ra)]) hx hb dL_town_404 hl (k := 3) rfl (by rw [ex68]; rfl) (by decide) rfl (fun ls hl => ?_)
                              refine lv_goto (tgt := 300) hx hb dL_town_407 (by decide) ?_
                              exact ih300 x68 v8_300 x66 ct0_361 rw1_361 _ _ ls (by omega) (by first | omega | decide) hI0_361 hr0_361 (by first | omega | assumption | decide) (by rw [show x68.toInt.toNat = v9_300.toInt.toNat + 1 by omega]; show _ = (if v9_300.toInt.toNat < 4 then _ else _); rw [if_pos (by omega), ← j1_300, ← z_nI (x := v9_300) (k := v9_300.toInt.toNat) (by omega), ← ex45, ← ex46, ← ex63, ← ex64, ← ex65, ← ex66]) (by first | omega | assumption | decide) (by first | omega | assumption | decide) hP hD hS (lv_sub hl [0, 4, 2, 5, 6, 7, 8, 9, 10, 11] rfl)
                            · skip
                              have c67 : ¬ (4 ≤ v11_361.toInt) := fun q => c67 ((z_le (by decide : (4 : Int32).toInt = 4) rfl).mpr q)
                              refine lv_aload_n hx hb dL_town_367 rfl (lv_at hl 11 rfl) ?_
                              refine lv_bipush (v := 28) hx hb dL_town_368 (by decide) ?_
                              refine lv_iconst (v := 4) hx hb dL_town_370 (by decide) ?_
                              refine lv_iload hx hb dL_town_371 (lv_at hl 3 rfl) ?_
                              refine lv_imul hx hb dL_town_373 ?_
                              refine lv_topi (fun x69 ex69 => ?_)
                              have tx69 : x69.toInt = 4 * v9_300.toInt := by rw [ex69]; exact z_mul (by decide : (4 : Int32).toInt = 4) rfl (by omega) (by omega)
                              refine lv_iadd hx hb dL_town_374 ?_
                              refine lv_topi (fun x70 ex70 => ?_)
                              have tx70 : x70.toInt = 28 + x69.toInt := by rw [ex70]; exact z_add (by decide : (28 : Int32).toInt = 28) rfl (by omega) (by omega)
                              refine lv_iload hx hb dL_town_375 (lv_at hl 0 rfl) ?_
                              refine lv_iadd hx hb dL_town_377 ?_
                              refine lv_topi (fun x71 ex71 => ?_)
                              have tx71 : x71.toInt = x70.toInt + v11_361.toInt := by rw [ex71]; exact z_add rfl rfl (by omega) (by omega)
                              refine lv_iload hx hb dL_town_378 (lv_at hl 0 rfl) ?_
                              refine lv_aload_n hx hb dL_town_380 rfl (lv_at hl 11 rfl) ?_
                              refine lv_iconst (v := 4) hx hb dL_town_381 (by decide) ?_
                              refine lv_iload hx hb dL_town_382 (lv_at hl 2 rfl) ?_
                              refine lv_imul hx hb dL_town_384 ?_
                              refine lv_topi (fun x72 ex72 => ?_)
                              have tx72 : x72.toInt = 4 * x46.toInt := by rw [ex72]; exact z_mul (by decide : (4 : Int32).toInt = 4) rfl (by omega) (by omega)
                              refine lv_iload hx hb dL_town_385 (lv_at hl 0 rfl) ?_
                              refine lv_iadd hx hb dL_town_387 ?_
                              refine lv_topi (fun x73 ex73 => ?_)
                              have tx73 : x73.toInt = x72.toInt + v11_361.toInt := by rw [ex73]; exact z_add rfl rfl (by omega) (by omega)
                              refine va_iald hx hb hK hP 1 0 rfl rfl (z_in rfl (by omega) (by omega)) dL_town_388 ?_
                              refine lv_topi (fun x74 ex74 => ?_)
                              have ex74 : x74 = rw1_361 (Int32.toNatClampNeg x73) := ex74.trans (congrArg rw1_361 rfl)
                              refine lv_aload hx hb dL_town_389 (lv_at hl 6 rfl) ?_
                              refine lv_iload hx hb dL_town_391 (lv_at hl 0 rfl) ?_
                              refine va_iald hx hb hK hP 0 0 rfl rfl (z_in rfl (by omega) (by omega)) dL_town_393 ?_
                              refine lv_topi (fun x75 ex75 => ?_)
                              have ex75 : x75 = (upd (upd (upd (upd (fun _ => 0) 0 x8) 1 x10) 2 x13) 3 2) (Int32.toNatClampNeg v11_361) := ex75.trans (congrArg (upd (upd (upd (upd (fun _ => 0) 0 x8) 1 x10) 2 x13) 3 2) rfl)
                              refine LCS (n := 3) (As := [.int v11_361, .int x74, .int x75]) (rest := [.int x71, .ref ra]) (E := [(q5, .inl (g.2 0, 4, .inl (upd (upd (upd (upd (fun _ => 0) 0 x8) 1 x10) 2 x13) 3 2))), (ra, .inl (g.2 0, 76, .inl rw1_361))]) (F := []) (k_up l g 7 ct0_361 v11_361 x74 x75  hI0_361 ) (fun _ h => Bool.noConfusion h) rfl rfl hP hD hS hA hx hb hml hown hg hK hN mm_638 mm_639 mm_51 mm_640 (by decide +kernel) ⟨(Nat.le_of_ble_eq_true rfl), (Nat.le_of_ble_eq_true rfl)⟩ rfl (Nat.le_of_ble_eq_true rfl) dL_town_394 (Nat.le_of_ble_eq_true rfl) (Nat.le_of_ble_eq_true rfl) hl.1 rfl (fun ct76 rrr77 hB hoff78 H locs hP hD hS => ?_)
                              obtain ⟨r77, rfl, hr77, rfl⟩ := hB
                              refine W.eq (g2 := F0 m 397 ls [.int r77, .int x71, .ref ra]) rfl ?_
                              refine va_iast hx hb hK hP hD hS 1 0 rfl rfl (z_in rfl (by omega) (by omega)) dL_town_397 (fun H locs hP hD hS => ?_)
                              have hP : zP g ([(q5, .inl (g.2 0, 4, .inl (upd (upd (upd (upd (fun _ => 0) 0 x8) 1 x10) 2 x13) 3 2))), (ra, .inl (g.2 0, 76, .inl (upd rw1_361 (Int32.toNatClampNeg x71) r77)))] ++ (dW pAll ad ct0_361 ++ [])) H := hP
                              have hD : va_D A ([(q5, .inl (g.2 0, 4, .inl (upd (upd (upd (upd (fun _ => 0) 0 x8) 1 x10) 2 x13) 3 2))), (ra, .inl (g.2 0, 76, .inl (upd rw1_361 (Int32.toNatClampNeg x71) r77)))] ++ (dW pAll ad ct0_361 ++ [])) := hD
                              obtain ⟨x79, ex79⟩ : ∃ y : Int32, y = v11_361 + 1 := ⟨_, rfl⟩
                              have tx79 : x79.toInt = v11_361.toInt + 1 := by rw [ex79]; exact z_add rfl (by decide : (1 : Int32).toInt = 1) (by omega) (by omega)
                              refine lv_iinc (v := x79) (lv' := [(11, .int x79), (7, .int x66), (10, .int x46), (9, .int v9_300), (8, .int v8_300), (6, .int x15), (5, .ref q5), (4, .int x4), (3, .int z12), (0, .ref (ad 0)), (1, .ref b), (2, .ref ra)]) hx hb dL_town_398 hl (k := 0) rfl (by rw [ex79]; rfl) (by decide) rfl (fun ls hl => ?_)
                              refine lv_goto (tgt := 361) hx hb dL_town_401 (by decide) ?_
                              exact ih361 x79 ct0_361 (upd rw1_361 (Int32.toNatClampNeg x71) r77) _ _ ls (by omega) (by first | omega | decide) hI0_361 hr0_361 (by first | omega | assumption | decide) (by first | omega | assumption | decide) hP hD hS (lv_sub hl [0, 1, 2, 3, 4, 5, 6, 7, 8, 9, 10, 11] rfl)
                        exact loop361 ((4 - (0 : Int32).toInt : Int).toNat + 1) (0 : Int32) ct0_300 (upd rw1_300 (Int32.toNatClampNeg x47) x46) _ _ ls (by omega) (by first | omega | decide) hI0_300 hr0_300 (by first | omega | assumption | decide) (by first | omega | assumption | decide) hP hD hS (lv_sub hl [0, 1, 2, 3, 4, 5, 6, 7, 8, 9, 10, 11] rfl)
                exact loop300 ((8 - (0 : Int32).toInt : Int).toNat + 1) (0 : Int32) (0 : Int32) (0 : Int32) ct0_109 rw0_109 _ _ ls (by omega) (by first | omega | decide) hI7 hr7 (by have hz0 : (0 : Int32).toInt = 0 := (by decide); omega) (rfl) (by first | omega | assumption | decide) (by first | omega | assumption | decide) hP hD hS (lv_sub hl [0, 1, 2, 3, 4, 5, 6, 7, 8, 9] rfl)
              · skip
                have c2 : ¬ (7 ≤ v4_109.toInt) := fun q => c2 ((z_le (by decide : (7 : Int32).toInt = 7) rfl).mpr q)
                have hj141 : ∀ (z141 : Int32), z141 = pvF L xs v4_109.toInt.toNat → W p l e (headSpec (zW yL_town cL_town 12 (some .int)) ({ frames := 29, cells := 1, slots := 4, locals := 719 })).room s m ([.ref (ad 0), .ref b, .ref ra] : List Value).toArray below meth c H locs 0 0 (MQ below (va_Qi (fun (r : Int32) (_ : Unit) => r = twN L xs) (fun _ t => ∃ (c2 : Nat → va_E) (rw2 : Nat → Int32), zP g ([(ra, .inl (g.2 0, 76, .inl rw2))] ++ (dW pAll ad c2 ++ [])) t.heap ∧ va_D A ([(ra, .inl (g.2 0, 76, .inl rw2))] ++ (dW pAll ad c2 ++ [])) ∧ Inv8 g idn 7 c2 ∧ (zf 12 (c2 0)).toInt = 1 ∧ c2 3 = .inr (7, [.int 0, .ref 4]) ∧ (∀ q, ¬ dIn pM q → c2 q = TWN l g L xs ct q)) A) ([.ref (ad 0), .ref b, .ref ra] : List Value).toArray s 1 4 A) (F0 m 141 ls [.int z141]) := by
                  intro z141 hz141
                  refine lv_istore (lv' := [(5, .int z141), (4, .int v4_109), (3, .int z12), (0, .ref (ad 0)), (1, .ref b), (2, .ref ra)]) hx hb dL_town_141 hl (by decide) rfl (fun ls hl => ?_)
                  refine lv_iconst (v := 0) hx hb dL_town_143 (by decide) ?_
                  refine lv_istore (lv' := [(6, .int 0), (5, .int z141), (4, .int v4_109), (3, .int z12), (0, .ref (ad 0)), (1, .ref b), (2, .ref ra)]) hx hb dL_town_144 hl (by decide) rfl (fun ls hl => ?_)
                  have loop146 : ∀ (n146 : Nat) (v6_146 : Int32) (ct0_146 : Nat → va_E) (rw0_146 : Nat → Int32) (H : Heap) (locs : List Loc) (ls : Array Slot), ((4 - v6_146.toInt : Int).toNat < n146) → (0 ≤ v6_146.toInt ∧ v6_146.toInt ≤ 4) → (Inv8 g idn (nI v4_109.toInt.toNat) ct0_146) → (∀ q, ¬ dIn pM q → ct0_146 q = (twp l g L xs ct v4_109.toInt.toNat) q) → (∀ j : Nat, (j : Int) < v6_146.toInt → rw0_146 (4 * v4_109.toInt.toNat + j) = rvF L xs v4_109.toInt.toNat j) → (zf 12 (ct0_146 0) = 0) → (ct0_146 3 = .inr (7, [.int 0, .ref 4])) → zP g ([(ra, .inl (g.2 0, 76, .inl rw0_146))] ++ (dW pAll ad ct0_146 ++ [])) H → va_D A ([(ra, .inl (g.2 0, 76, .inl rw0_146))] ++ (dW pAll ad ct0_146 ++ [])) → va_S A s.heap H locs → lv_has ls 12 [(6, .int v6_146), (5, .int z141), (4, .int v4_109), (3, .int z12), (0, .ref (ad 0)), (1, .ref b), (2, .ref ra)] → W p l e (headSpec (zW yL_town cL_town 12 (some .int)) ({ frames := 29, cells := 1, slots := 4, locals := 719 })).room s m ([.ref (ad 0), .ref b, .ref ra] : List Value).toArray below meth c H locs 0 0 (MQ below (va_Qi (fun (r : Int32) (_ : Unit) => r = twN L xs) (fun _ t => ∃ (c2 : Nat → va_E) (rw2 : Nat → Int32), zP g ([(ra, .inl (g.2 0, 76, .inl rw2))] ++ (dW pAll ad c2 ++ [])) t.heap ∧ va_D A ([(ra, .inl (g.2 0, 76, .inl rw2))] ++ (dW pAll ad c2 ++ [])) ∧ Inv8 g idn 7 c2 ∧ (zf 12 (c2 0)).toInt = 1 ∧ c2 3 = .inr (7, [.int 0, .ref 4]) ∧ (∀ q, ¬ dIn pM q → c2 q = TWN l g L xs ct q)) A) ([.ref (ad 0), .ref b, .ref ra] : List Value).toArray s 1 4 A) (F0 m 146 ls []) := by
                    intro n146
                    induction n146 with
                    | zero =>
                      intro v6_146 ct0_146 rw0_146 H locs ls hn146 b6_146 hI0_146 hr0_146 j0_146 j1_146 j2_146 hP hD hS hl
                      exact absurd hn146 (Nat.not_lt_zero _)
                    | succ n146 ih146 =>
                      intro v6_146 ct0_146 rw0_146 H locs ls hn146 b6_146 hI0_146 hr0_146 j0_146 j1_146 j2_146 hP hD hS hl
                      refine lv_iload hx hb dL_town_146 (lv_at hl 0 rfl) ?_
                      refine lv_iconst (v := 4) hx hb dL_town_148 (by decide) ?_
                      refine lv_icmp_ge (tgt := 197) hx hb dL_town_149 (by decide) (fun c80 => ?_) (fun c80 => ?_)
                      · skip
                        have c80 : 4 ≤ v6_146.toInt := (z_le (by decide : (4 : Int32).toInt = 4) rfl).mp c80
                        refine lv_aload_n hx hb dL_town_197 rfl (lv_at hl 4 rfl) ?_
                        refine lv_aload_n hx hb dL_town_198 rfl (lv_at hl 6 rfl) ?_
                        refine lv_iconst (v := 4) hx hb dL_town_199 (by decide) ?_
                        refine lv_iload hx hb dL_town_200 (lv_at hl 2 rfl) ?_
                        refine lv_imul hx hb dL_town_202 ?_
                        refine lv_topi (fun x81 ex81 => ?_)
                        have tx81 : x81.toInt = 4 * v4_109.toInt := by rw [ex81]; exact z_mul (by decide : (4 : Int32).toInt = 4) rfl (by omega) (by omega)
                        refine va_iald hx hb hK hP 0 0 rfl rfl (z_in rfl (by omega) (by omega)) dL_town_203 ?_
                        refine lv_topi (fun x82 ex82 => ?_)
                        have ex82 : x82 = rw0_146 (Int32.toNatClampNeg x81) := ex82.trans (congrArg rw0_146 rfl)
                        have hy83 : x82 = rvF L xs v4_109.toInt.toNat 0 := ex82.trans ((congrArg rw0_146 (show (Int32.toNatClampNeg x81 : Nat) = 4 * v4_109.toInt.toNat + 0 by have := z_clI (x := x81) (by omega); omega)).trans (j0_146 0 (by omega)))
                        refine lv_aload_n hx hb dL_town_204 rfl (lv_at hl 6 rfl) ?_
                        refine lv_iconst (v := 4) hx hb dL_town_205 (by decide) ?_
                        refine lv_iload hx hb dL_town_206 (lv_at hl 2 rfl) ?_
                        refine lv_imul hx hb dL_town_208 ?_
                        refine lv_topi (fun x84 ex84 => ?_)
                        have tx84 : x84.toInt = 4 * v4_109.toInt := by rw [ex84]; exact z_mul (by decide : (4 : Int32).toInt = 4) rfl (by omega) (by omega)
                        refine lv_iconst (v := 1) hx hb dL_town_209 (by decide) ?_
                        refine lv_iadd hx hb dL_town_210 ?_
                        refine lv_topi (fun x85 ex85 => ?_)
                        have tx85 : x85.toInt = x84.toInt + 1 := by rw [ex85]; exact z_add rfl (by decide : (1 : Int32).toInt = 1) (by omega) (by omega)
                        refine va_iald hx hb hK hP 0 0 rfl rfl (z_in rfl (by omega) (by omega)) dL_town_211 ?_
                        refine lv_topi (fun x86 ex86 => ?_)
                        have ex86 : x86 = rw0_146 (Int32.toNatClampNeg x85) := ex86.trans (congrArg rw0_146 rfl)
                        have hy87 : x86 = rvF L xs v4_109.toInt.toNat 1 := ex86.trans ((congrArg rw0_146 (show (Int32.toNatClampNeg x85 : Nat) = 4 * v4_109.toInt.toNat + 1 by have := z_clI (x := x85) (by omega); omega)).trans (j0_146 1 (by omega)))
                        refine lv_aload_n hx hb dL_town_212 rfl (lv_at hl 6 rfl) ?_
                        refine lv_iconst (v := 4) hx hb dL_town_213 (by decide) ?_
                        refine lv_iload hx hb dL_town_214 (lv_at hl 2 rfl) ?_
                        refine lv_imul hx hb dL_town_216 ?_
                        refine lv_topi (fun x88 ex88 => ?_)
                        have tx88 : x88.toInt = 4 * v4_109.toInt := by rw [ex88]; exact z_mul (by decide : (4 : Int32).toInt = 4) rfl (by omega) (by omega)
                        refine lv_iconst (v := 2) hx hb dL_town_217 (by decide) ?_
                        refine lv_iadd hx hb dL_town_218 ?_
                        refine lv_topi (fun x89 ex89 => ?_)
                        have tx89 : x89.toInt = x88.toInt + 2 := by rw [ex89]; exact z_add rfl (by decide : (2 : Int32).toInt = 2) (by omega) (by omega)
                        refine va_iald hx hb hK hP 0 0 rfl rfl (z_in rfl (by omega) (by omega)) dL_town_219 ?_
                        refine lv_topi (fun x90 ex90 => ?_)
                        have ex90 : x90 = rw0_146 (Int32.toNatClampNeg x89) := ex90.trans (congrArg rw0_146 rfl)
                        have hy91 : x90 = rvF L xs v4_109.toInt.toNat 2 := ex90.trans ((congrArg rw0_146 (show (Int32.toNatClampNeg x89 : Nat) = 4 * v4_109.toInt.toNat + 2 by have := z_clI (x := x89) (by omega); omega)).trans (j0_146 2 (by omega)))
                        refine lv_aload_n hx hb dL_town_220 rfl (lv_at hl 6 rfl) ?_
                        refine lv_iconst (v := 4) hx hb dL_town_221 (by decide) ?_
                        refine lv_iload hx hb dL_town_222 (lv_at hl 2 rfl) ?_
                        refine lv_imul hx hb dL_town_224 ?_
                        refine lv_topi (fun x92 ex92 => ?_)
                        have tx92 : x92.toInt = 4 * v4_109.toInt := by rw [ex92]; exact z_mul (by decide : (4 : Int32).toInt = 4) rfl (by omega) (by omega)
                        refine lv_iconst (v := 3) hx hb dL_town_225 (by decide) ?_
                        refine lv_iadd hx hb dL_town_226 ?_
                        refine lv_topi (fun x93 ex93 => ?_)
                        have tx93 : x93.toInt = x92.toInt + 3 := by rw [ex93]; exact z_add rfl (by decide : (3 : Int32).toInt = 3) (by omega) (by omega)
                        refine va_iald hx hb hK hP 0 0 rfl rfl (z_in rfl (by omega) (by omega)) dL_town_227 ?_
                        refine lv_topi (fun x94 ex94 => ?_)
                        have ex94 : x94 = rw0_146 (Int32.toNatClampNeg x93) := ex94.trans (congrArg rw0_146 rfl)
                        have hy95 : x94 = rvF L xs v4_109.toInt.toNat 3 := ex94.trans ((congrArg rw0_146 (show (Int32.toNatClampNeg x93 : Nat) = 4 * v4_109.toInt.toNat + 3 by have := z_clI (x := x93) (by omega); omega)).trans (j0_146 3 (by omega)))
                        obtain ⟨_, _, -, -, -, hs99⟩ := a8_0 hI0_146
                        refine LCV (n := 4) (As := [.int x82, .int x86, .int x90, .int x94]) (rest := []) (E := [(ra, .inl (g.2 0, 76, .inl rw0_146))]) (F := []) (fx_person l g (nI v4_109.toInt.toNat) ct0_146 x82 x86 x90 x94  hI0_146 ) sub_pCl_pAll rfl rfl hP hD hS hA hx hb hml hown hg hK hN ⟨by decide, rfl⟩ hs99 mm_560 mm_561 mm_562 mm_52 mm_563 (by decide +kernel) ⟨(Nat.le_of_ble_eq_true rfl), (Nat.le_of_ble_eq_true rfl)⟩ rfl (Nat.le_of_ble_eq_true rfl) dL_town_228 (Nat.le_of_ble_eq_true rfl) (Nat.le_of_ble_eq_true rfl) hl.1 rfl (fun ct96 rrr98 hB hoff100 H locs hP hD hS => ?_)
                        obtain ⟨r98, u97, rfl, hr98, hI105, hk101, hk102, hk103, hk104⟩ := hB
                        refine W.eq (g2 := F0 m 231 ls [.int r98]) rfl ?_
                        have hrel106 : ∀ q, ¬ dIn pM q → ct96 q = (w_px l g (nI v4_109.toInt.toNat) (twp l g L xs ct v4_109.toInt.toNat) x82 x86 x90 x94).1 q := fun q hq => by rw [hk101 q hq, w_px_c hr0_146]
                        have hk107 : zf 12 (ct96 0) = 0 := hk102.trans j1_146
                        have hk108 : ct96 3 = .inr (7, [.int 0, .ref 4]) := hk103.trans j2_146
                        have hu109 : u97 = nI (v4_109.toInt.toNat + 1) := z_nI (by
                          have hn := nI_toInt (n := v4_109.toInt.toNat) (by omega)
                          have hq := hk104 ⟨by rw [hy83]; exact rvF_rg, by rw [hy87]; exact rvF_rg, by rw [hy91]; exact rvF_rg, by rw [hy95]; exact rvF_rg, by omega⟩
                          omega)
                        have hI110 : Inv8 g idn (nI (v4_109.toInt.toNat + 1)) ct96 := by rw [← hu109]; exact hI105
                        refine lv_pop hx hb dL_town_231 rfl ?_
                        obtain ⟨x111, ex111⟩ : ∃ y : Int32, y = v4_109 + 1 := ⟨_, rfl⟩
                        have tx111 : x111.toInt = v4_109.toInt + 1 := by rw [ex111]; exact z_add rfl (by decide : (1 : Int32).toInt = 1) (by omega) (by omega)
                        refine lv_iinc (v := x111) (lv' := [(4, .int x111), (6, .int v6_146), (5, .int z141), (3, .int z12), (0, .ref (ad 0)), (1, .ref b), (2, .ref ra)]) hx hb dL_town_232 hl (k := 2) rfl (by rw [ex111]; rfl) (by decide) rfl (fun ls hl => ?_)
                        refine lv_goto (tgt := 109) hx hb dL_town_235 (by decide) ?_
                        exact ih109 x111 ct96 rw0_146 _ _ ls (by omega) (by first | omega | decide) (by rw [show x111.toInt.toNat = v4_109.toInt.toNat + 1 by omega]; exact hI110) (fun q hq => (hrel106 q hq).trans (by rw [show x111.toInt.toNat = v4_109.toInt.toNat + 1 by omega]; show _ = (w_px l g (nI v4_109.toInt.toNat) (twp l g L xs ct v4_109.toInt.toNat) (rvF L xs v4_109.toInt.toNat 0) (rvF L xs v4_109.toInt.toNat 1) (rvF L xs v4_109.toInt.toNat 2) (rvF L xs v4_109.toInt.toNat 3)).1 q; rw [← hy83, ← hy87, ← hy91, ← hy95])) (by first | omega | assumption | decide) (by first | omega | assumption | decide) hP hD hS (lv_sub hl [0, 3, 4, 5, 6] rfl)
                      · skip
                        have c80 : ¬ (4 ≤ v6_146.toInt) := fun q => c80 ((z_le (by decide : (4 : Int32).toInt = 4) rfl).mpr q)
                        refine lv_aload_n hx hb dL_town_152 rfl (lv_at hl 6 rfl) ?_
                        refine lv_iconst (v := 4) hx hb dL_town_153 (by decide) ?_
                        refine lv_iload hx hb dL_town_154 (lv_at hl 2 rfl) ?_
                        refine lv_imul hx hb dL_town_156 ?_
                        refine lv_topi (fun x112 ex112 => ?_)
                        have tx112 : x112.toInt = 4 * v4_109.toInt := by rw [ex112]; exact z_mul (by decide : (4 : Int32).toInt = 4) rfl (by omega) (by omega)
                        refine lv_iload hx hb dL_town_157 (lv_at hl 0 rfl) ?_
                        refine lv_iadd hx hb dL_town_159 ?_
                        refine lv_topi (fun x113 ex113 => ?_)
                        have tx113 : x113.toInt = x112.toInt + v6_146.toInt := by rw [ex113]; exact z_add rfl rfl (by omega) (by omega)
                        refine lv_iload hx hb dL_town_160 (lv_at hl 1 rfl) ?_
                        refine lv_iconst (v := 4) hx hb dL_town_162 (by decide) ?_
                        refine lv_iload hx hb dL_town_163 (lv_at hl 0 rfl) ?_
                        refine lv_imul hx hb dL_town_165 ?_
                        refine lv_topi (fun x114 ex114 => ?_)
                        have tx114 : x114.toInt = 4 * v6_146.toInt := by rw [ex114]; exact z_mul (by decide : (4 : Int32).toInt = 4) rfl (by omega) (by omega)
                        refine lv_ishr hx hb dL_town_166 ?_
                        refine lv_topi (fun x115 ex115 => ?_)
                        refine lv_iload hx hb dL_town_167 (lv_at hl 0 rfl) ?_
                        refine lv_if_ne (tgt := 177) hx hb dL_town_169 (by decide) (fun c116 => ?_) (fun c116 => ?_)
                        · skip
                          have c116 : ¬ (v6_146.toInt = 0) := fun q => c116 ((z_eq rfl (by decide : (0 : Int32).toInt = 0)).mpr q)
                          refine lv_iload hx hb dL_town_177 (lv_at hl 0 rfl) ?_
                          refine lv_iconst (v := 1) hx hb dL_town_179 (by decide) ?_
                          refine lv_icmp_ne (tgt := 188) hx hb dL_town_180 (by decide) (fun c117 => ?_) (fun c117 => ?_)
                          · skip
                            have c117 : ¬ (v6_146.toInt = 1) := fun q => c117 ((z_eq rfl (by decide : (1 : Int32).toInt = 1)).mpr q)
                            refine lv_iconst (v := 3) hx hb dL_town_188 (by decide) ?_
                            refine lv_iand hx hb dL_town_189 ?_
                            refine lv_topi (fun x118 ex118 => ?_)
                            have tx118 := z_andr (x := x115) (y := 3) (by decide : (3 : Int32).toInt = 3) (by omega)
                            rw [← ex118] at tx118
                            refine va_iast hx hb hK hP hD hS 0 0 rfl rfl (z_in rfl (by omega) (by omega)) dL_town_190 (fun H locs hP hD hS => ?_)
                            have hP : zP g ([(ra, .inl (g.2 0, 76, .inl (upd rw0_146 (Int32.toNatClampNeg x113) x118)))] ++ (dW pAll ad ct0_146 ++ [])) H := hP
                            have hD : va_D A ([(ra, .inl (g.2 0, 76, .inl (upd rw0_146 (Int32.toNatClampNeg x113) x118)))] ++ (dW pAll ad ct0_146 ++ [])) := hD
                            obtain ⟨x119, ex119⟩ : ∃ y : Int32, y = v6_146 + 1 := ⟨_, rfl⟩
                            have tx119 : x119.toInt = v6_146.toInt + 1 := by rw [ex119]; exact z_add rfl (by decide : (1 : Int32).toInt = 1) (by omega) (by omega)
                            refine lv_iinc (v := x119) (lv' := [(6, .int x119), (5, .int z141), (4, .int v4_109), (3, .int z12), (0, .ref (ad 0)), (1, .ref b), (2, .ref ra)]) hx hb dL_town_191 hl (k := 0) rfl (by rw [ex119]; rfl) (by decide) rfl (fun ls hl => ?_)
                            refine lv_goto (tgt := 146) hx hb dL_town_194 (by decide) ?_
                            exact ih146 x119 ct0_146 (upd rw0_146 (Int32.toNatClampNeg x113) x118) _ _ ls (by omega) (by first | omega | decide) hI0_146 hr0_146 (fun j hj => by
                                unfold upd
                                by_cases q : j = v6_146.toInt.toNat
                                · rw [if_pos (by have := z_clI (x := x113) (by omega); omega)]
                                  exact (by rw [q, ex118, ex115, hz141, ex114]; unfold rvF; rw [← z_nI (x := v6_146) (k := v6_146.toInt.toNat) (by omega), if_neg (by omega), if_neg (by omega)])
                                · rw [if_neg (by have := z_clI (x := x113) (by omega); omega)]
                                  exact j0_146 j (by omega)) (by first | omega | assumption | decide) (by first | omega | assumption | decide) hP hD hS (lv_sub hl [0, 1, 2, 3, 4, 5, 6] rfl)
                          · skip
                            have c117 : v6_146.toInt = 1 := (z_eq rfl (by decide : (1 : Int32).toInt = 1)).mp c117
                            refine lv_bipush (v := 7) hx hb dL_town_183 (by decide) ?_
                            refine lv_goto (tgt := 189) hx hb dL_town_185 (by decide) ?_
                            refine lv_iand hx hb dL_town_189 ?_
                            refine lv_topi (fun x120 ex120 => ?_)
                            have tx120 := z_andr (x := x115) (y := 7) (by decide : (7 : Int32).toInt = 7) (by omega)
                            rw [← ex120] at tx120
                            refine va_iast hx hb hK hP hD hS 0 0 rfl rfl (z_in rfl (by omega) (by omega)) dL_town_190 (fun H locs hP hD hS => ?_)
                            have hP : zP g ([(ra, .inl (g.2 0, 76, .inl (upd rw0_146 (Int32.toNatClampNeg x113) x120)))] ++ (dW pAll ad ct0_146 ++ [])) H := hP
                            have hD : va_D A ([(ra, .inl (g.2 0, 76, .inl (upd rw0_146 (Int32.toNatClampNeg x113) x120)))] ++ (dW pAll ad ct0_146 ++ [])) := hD
                            obtain ⟨x121, ex121⟩ : ∃ y : Int32, y = v6_146 + 1 := ⟨_, rfl⟩
                            have tx121 : x121.toInt = v6_146.toInt + 1 := by rw [ex121]; exact z_add rfl (by decide : (1 : Int32).toInt = 1) (by omega) (by omega)
                            refine lv_iinc (v := x121) (lv' := [(6, .int x121), (5, .int z141), (4, .int v4_109), (3, .int z12), (0, .ref (ad 0)), (1, .ref b), (2, .ref ra)]) hx hb dL_town_191 hl (k := 0) rfl (by rw [ex121]; rfl) (by decide) rfl (fun ls hl => ?_)
                            refine lv_goto (tgt := 146) hx hb dL_town_194 (by decide) ?_
                            exact ih146 x121 ct0_146 (upd rw0_146 (Int32.toNatClampNeg x113) x120) _ _ ls (by omega) (by first | omega | decide) hI0_146 hr0_146 (fun j hj => by
                                unfold upd
                                by_cases q : j = v6_146.toInt.toNat
                                · rw [if_pos (by have := z_clI (x := x113) (by omega); omega)]
                                  exact (by rw [q, ex120, ex115, hz141, ex114]; unfold rvF; rw [← z_nI (x := v6_146) (k := v6_146.toInt.toNat) (by omega), if_neg (by omega), if_pos (by omega)])
                                · rw [if_neg (by have := z_clI (x := x113) (by omega); omega)]
                                  exact j0_146 j (by omega)) (by first | omega | assumption | decide) (by first | omega | assumption | decide) hP hD hS (lv_sub hl [0, 1, 2, 3, 4, 5, 6] rfl)
                        · skip
                          have c116 : v6_146.toInt = 0 := (z_eq rfl (by decide : (0 : Int32).toInt = 0)).mp c116
                          refine lv_bipush (v := 15) hx hb dL_town_172 (by decide) ?_
                          refine lv_goto (tgt := 189) hx hb dL_town_174 (by decide) ?_
                          refine lv_iand hx hb dL_town_189 ?_
                          refine lv_topi (fun x122 ex122 => ?_)
                          have tx122 := z_andr (x := x115) (y := 15) (by decide : (15 : Int32).toInt = 15) (by omega)
                          rw [← ex122] at tx122
                          refine va_iast hx hb hK hP hD hS 0 0 rfl rfl (z_in rfl (by omega) (by omega)) dL_town_190 (fun H locs hP hD hS => ?_)
                          have hP : zP g ([(ra, .inl (g.2 0, 76, .inl (upd rw0_146 (Int32.toNatClampNeg x113) x122)))] ++ (dW pAll ad ct0_146 ++ [])) H := hP
                          have hD : va_D A ([(ra, .inl (g.2 0, 76, .inl (upd rw0_146 (Int32.toNatClampNeg x113) x122)))] ++ (dW pAll ad ct0_146 ++ [])) := hD
                          obtain ⟨x123, ex123⟩ : ∃ y : Int32, y = v6_146 + 1 := ⟨_, rfl⟩
                          have tx123 : x123.toInt = v6_146.toInt + 1 := by rw [ex123]; exact z_add rfl (by decide : (1 : Int32).toInt = 1) (by omega) (by omega)
                          refine lv_iinc (v := x123) (lv' := [(6, .int x123), (5, .int z141), (4, .int v4_109), (3, .int z12), (0, .ref (ad 0)), (1, .ref b), (2, .ref ra)]) hx hb dL_town_191 hl (k := 0) rfl (by rw [ex123]; rfl) (by decide) rfl (fun ls hl => ?_)
                          refine lv_goto (tgt := 146) hx hb dL_town_194 (by decide) ?_
                          exact ih146 x123 ct0_146 (upd rw0_146 (Int32.toNatClampNeg x113) x122) _ _ ls (by omega) (by first | omega | decide) hI0_146 hr0_146 (fun j hj => by
                              unfold upd
                              by_cases q : j = v6_146.toInt.toNat
                              · rw [if_pos (by have := z_clI (x := x113) (by omega); omega)]
                                exact (by rw [q, ex122, ex115, hz141, ex114]; unfold rvF; rw [← z_nI (x := v6_146) (k := v6_146.toInt.toNat) (by omega), if_pos (by omega)])
                              · rw [if_neg (by have := z_clI (x := x113) (by omega); omega)]
                                exact j0_146 j (by omega)) (by first | omega | assumption | decide) (by first | omega | assumption | decide) hP hD hS (lv_sub hl [0, 1, 2, 3, 4, 5, 6] rfl)
                  exact loop146 ((4 - (0 : Int32).toInt : Int).toNat + 1) (0 : Int32) ct0_109 rw0_109 _ _ ls (by omega) (by first | omega | decide) hI0_109 hr0_109 (fun j hj => absurd hj (by have := (by decide : (0 : Int32).toInt = 0); omega)) (by first | omega | assumption | decide) (by first | omega | assumption | decide) hP hD hS (lv_sub hl [0, 1, 2, 3, 4, 5, 6] rfl)
                refine lv_iload hx hb dL_town_116 (lv_at hl 0 rfl) ?_
                refine lv_iconst (v := 1) hx hb dL_town_118 (by decide) ?_
                refine lv_iadd hx hb dL_town_119 ?_
                refine lv_topi (fun x124 ex124 => ?_)
                have tx124 : x124.toInt = v4_109.toInt + 1 := by rw [ex124]; exact z_add rfl (by decide : (1 : Int32).toInt = 1) (by omega) (by omega)
                refine lv_aload_n hx hb dL_town_120 rfl (lv_at hl 3 rfl) ?_
                refine va_slen hx hb hX hbl hbA hS dL_town_121 ?_
                refine lv_icmp_ge (tgt := 134) hx hb dL_town_122 (by decide) (fun c125 => ?_) (fun c125 => ?_)
                · skip
                  have c125 : ((L : Nat) : Int) ≤ x124.toInt := (z_le (nI_toInt (n := L) (by omega)) rfl).mp c125
                  refine lv_bipush (v := 91) hx hb dL_town_134 (by decide) ?_
                  refine lv_iload hx hb dL_town_136 (lv_at hl 0 rfl) ?_
                  refine lv_imul hx hb dL_town_138 ?_
                  refine lv_topi (fun x126 ex126 => ?_)
                  have tx126 : x126.toInt = 91 * v4_109.toInt := by rw [ex126]; exact z_mul (by decide : (91 : Int32).toInt = 91) rfl (by omega) (by omega)
                  refine lv_iload_n hx hb dL_town_139 rfl (lv_at hl 1 rfl) ?_
                  refine lv_iadd hx hb dL_town_140 ?_
                  refine lv_topi (fun x127 ex127 => ?_)
                  exact hj141 x127 (by unfold pvF; rw [if_neg (by omega), ← hz12, ← z_nI (x := v4_109) (k := v4_109.toInt.toNat) (by omega), ← ex126]; exact ex127)
                · skip
                  have c125 : ¬ (((L : Nat) : Int) ≤ x124.toInt) := fun q => c125 ((z_le (nI_toInt (n := L) (by omega)) rfl).mpr q)
                  refine lv_aload_n hx hb dL_town_125 rfl (lv_at hl 3 rfl) ?_
                  refine lv_iload hx hb dL_town_126 (lv_at hl 0 rfl) ?_
                  refine lv_iconst (v := 1) hx hb dL_town_128 (by decide) ?_
                  refine lv_iadd hx hb dL_town_129 ?_
                  refine lv_topi (fun x128 ex128 => ?_)
                  have tx128 : x128.toInt = v4_109.toInt + 1 := by rw [ex128]; exact z_add rfl (by decide : (1 : Int32).toInt = 1) (by omega) (by omega)
                  refine va_sld hx hb hX hbl hbA hS (z_in rfl (by omega) (by omega)) dL_town_130 ?_
                  refine lv_topi (fun y129 ey129 => ?_)
                  refine lv_goto (tgt := 141) hx hb dL_town_131 (by decide) ?_
                  exact hj141 y129 (ey129.trans (by unfold pvF; rw [if_pos (by omega)]; exact congrArg xs ((z_cl (k := v4_109.toInt.toNat + 1) (by omega)).trans rfl)))
          exact loop109 ((7 - (0 : Int32).toInt : Int).toNat + 1) (0 : Int32) ct0_16 rw0 _ _ ls (by omega) (by first | omega | decide) (by rw [show nI (0 : Int32).toInt.toNat = 0 by decide]; exact hI0_16) (fun q hq => (hr0_16 q hq).trans (by rw [show v4_16.toInt.toNat = 4 by omega]; rfl)) (by first | omega | assumption | decide) (by first | omega | assumption | decide) hP hD hS (lv_sub hl [0, 1, 2, 3, 4] rfl)
        · skip
          have c1 : ¬ (4 ≤ v4_16.toInt) := fun q => c1 ((z_le (by decide : (4 : Int32).toInt = 4) rfl).mpr q)
          refine lv_iconst (v := 0) hx hb dL_town_22 (by decide) ?_
          refine lv_istore (lv' := [(5, .int 0), (4, .int v4_16), (3, .int z12), (0, .ref (ad 0)), (1, .ref b), (2, .ref ra)]) hx hb dL_town_23 hl (by decide) rfl (fun ls hl => ?_)
          have loop25 : ∀ (n25 : Nat) (v5_25 : Int32) (ct0_25 : Nat → va_E) (H : Heap) (locs : List Loc) (ls : Array Slot), ((16 - v5_25.toInt : Int).toNat < n25) → (0 ≤ v5_25.toInt ∧ v5_25.toInt ≤ 16) → (Inv8 g idn 0 ct0_25) → (∀ q, ¬ dIn pM q → ct0_25 q = (tw1 l g (tw0 l g ct v4_16.toInt.toNat) v4_16.toInt.toNat v5_25.toInt.toNat) q) → (zf 12 (ct0_25 0) = 0) → (ct0_25 3 = .inr (7, [.int 0, .ref 4])) → zP g ([(ra, .inl (g.2 0, 76, .inl rw0))] ++ (dW pAll ad ct0_25 ++ [])) H → va_D A ([(ra, .inl (g.2 0, 76, .inl rw0))] ++ (dW pAll ad ct0_25 ++ [])) → va_S A s.heap H locs → lv_has ls 12 [(5, .int v5_25), (4, .int v4_16), (3, .int z12), (0, .ref (ad 0)), (1, .ref b), (2, .ref ra)] → W p l e (headSpec (zW yL_town cL_town 12 (some .int)) ({ frames := 29, cells := 1, slots := 4, locals := 719 })).room s m ([.ref (ad 0), .ref b, .ref ra] : List Value).toArray below meth c H locs 0 0 (MQ below (va_Qi (fun (r : Int32) (_ : Unit) => r = twN L xs) (fun _ t => ∃ (c2 : Nat → va_E) (rw2 : Nat → Int32), zP g ([(ra, .inl (g.2 0, 76, .inl rw2))] ++ (dW pAll ad c2 ++ [])) t.heap ∧ va_D A ([(ra, .inl (g.2 0, 76, .inl rw2))] ++ (dW pAll ad c2 ++ [])) ∧ Inv8 g idn 7 c2 ∧ (zf 12 (c2 0)).toInt = 1 ∧ c2 3 = .inr (7, [.int 0, .ref 4]) ∧ (∀ q, ¬ dIn pM q → c2 q = TWN l g L xs ct q)) A) ([.ref (ad 0), .ref b, .ref ra] : List Value).toArray s 1 4 A) (F0 m 25 ls []) := by
            intro n25
            induction n25 with
            | zero =>
              intro v5_25 ct0_25 H locs ls hn25 b5_25 hI0_25 hr0_25 j0_25 j1_25 hP hD hS hl
              exact absurd hn25 (Nat.not_lt_zero _)
            | succ n25 ih25 =>
              intro v5_25 ct0_25 H locs ls hn25 b5_25 hI0_25 hr0_25 j0_25 j1_25 hP hD hS hl
              refine lv_iload hx hb dL_town_25 (lv_at hl 0 rfl) ?_
              refine lv_bipush (v := 16) hx hb dL_town_27 (by decide) ?_
              refine lv_icmp_ge (tgt := 64) hx hb dL_town_29 (by decide) (fun c130 => ?_) (fun c130 => ?_)
              · skip
                have c130 : 16 ≤ v5_25.toInt := (z_le (by decide : (16 : Int32).toInt = 16) rfl).mp c130
                refine lv_bipush (v := 16) hx hb dL_town_64 (by decide) ?_
                refine lv_istore (lv' := [(5, .int 16), (4, .int v4_16), (3, .int z12), (0, .ref (ad 0)), (1, .ref b), (2, .ref ra)]) hx hb dL_town_66 hl (by decide) rfl (fun ls hl => ?_)
                have loop68 : ∀ (n68 : Nat) (v5_68 : Int32) (ct0_68 : Nat → va_E) (H : Heap) (locs : List Loc) (ls : Array Slot), ((24 - v5_68.toInt : Int).toNat < n68) → (16 ≤ v5_68.toInt ∧ v5_68.toInt ≤ 24) → (Inv8 g idn 0 ct0_68) → (∀ q, ¬ dIn pM q → ct0_68 q = (tw2 l g (tw1 l g (tw0 l g ct v4_16.toInt.toNat) v4_16.toInt.toNat 16) v4_16.toInt.toNat (v5_68.toInt.toNat - 16)) q) → (zf 12 (ct0_68 0) = 0) → (ct0_68 3 = .inr (7, [.int 0, .ref 4])) → zP g ([(ra, .inl (g.2 0, 76, .inl rw0))] ++ (dW pAll ad ct0_68 ++ [])) H → va_D A ([(ra, .inl (g.2 0, 76, .inl rw0))] ++ (dW pAll ad ct0_68 ++ [])) → va_S A s.heap H locs → lv_has ls 12 [(5, .int v5_68), (4, .int v4_16), (3, .int z12), (0, .ref (ad 0)), (1, .ref b), (2, .ref ra)] → W p l e (headSpec (zW yL_town cL_town 12 (some .int)) ({ frames := 29, cells := 1, slots := 4, locals := 719 })).room s m ([.ref (ad 0), .ref b, .ref ra] : List Value).toArray below meth c H locs 0 0 (MQ below (va_Qi (fun (r : Int32) (_ : Unit) => r = twN L xs) (fun _ t => ∃ (c2 : Nat → va_E) (rw2 : Nat → Int32), zP g ([(ra, .inl (g.2 0, 76, .inl rw2))] ++ (dW pAll ad c2 ++ [])) t.heap ∧ va_D A ([(ra, .inl (g.2 0, 76, .inl rw2))] ++ (dW pAll ad c2 ++ [])) ∧ Inv8 g idn 7 c2 ∧ (zf 12 (c2 0)).toInt = 1 ∧ c2 3 = .inr (7, [.int 0, .ref 4]) ∧ (∀ q, ¬ dIn pM q → c2 q = TWN l g L xs ct q)) A) ([.ref (ad 0), .ref b, .ref ra] : List Value).toArray s 1 4 A) (F0 m 68 ls []) := by
                  intro n68
                  induction n68 with
                  | zero =>
                    intro v5_68 ct0_68 H locs ls hn68 b5_68 hI0_68 hr0_68 j0_68 j1_68 hP hD hS hl
                    exact absurd hn68 (Nat.not_lt_zero _)
                  | succ n68 ih68 =>
                    intro v5_68 ct0_68 H locs ls hn68 b5_68 hI0_68 hr0_68 j0_68 j1_68 hP hD hS hl
                    refine lv_iload hx hb dL_town_68 (lv_at hl 0 rfl) ?_
                    refine lv_bipush (v := 24) hx hb dL_town_70 (by decide) ?_
                    refine lv_icmp_ge (tgt := 100) hx hb dL_town_72 (by decide) (fun c131 => ?_) (fun c131 => ?_)
                    · skip
                      have c131 : 24 ≤ v5_68.toInt := (z_le (by decide : (24 : Int32).toInt = 24) rfl).mp c131
                      obtain ⟨x132, ex132⟩ : ∃ y : Int32, y = v4_16 + 1 := ⟨_, rfl⟩
                      have tx132 : x132.toInt = v4_16.toInt + 1 := by rw [ex132]; exact z_add rfl (by decide : (1 : Int32).toInt = 1) (by omega) (by omega)
                      refine lv_iinc (v := x132) (lv' := [(4, .int x132), (5, .int v5_68), (3, .int z12), (0, .ref (ad 0)), (1, .ref b), (2, .ref ra)]) hx hb dL_town_100 hl (k := 1) rfl (by rw [ex132]; rfl) (by decide) rfl (fun ls hl => ?_)
                      refine lv_goto (tgt := 16) hx hb dL_town_103 (by decide) ?_
                      exact ih16 x132 ct0_68 _ _ ls (by omega) (by first | omega | decide) hI0_68 (fun q hq => (hr0_68 q hq).trans (by rw [show x132.toInt.toNat = v4_16.toInt.toNat + 1 by omega, show v5_68.toInt.toNat - 16 = 8 by omega]; rfl)) (by first | omega | assumption | decide) (by first | omega | assumption | decide) hP hD hS (lv_sub hl [0, 2, 3, 4, 5] rfl)
                    · skip
                      have c131 : ¬ (24 ≤ v5_68.toInt) := fun q => c131 ((z_le (by decide : (24 : Int32).toInt = 24) rfl).mpr q)
                      refine lv_aload_n hx hb dL_town_75 rfl (lv_at hl 3 rfl) ?_
                      refine lv_iload hx hb dL_town_76 (lv_at hl 1 rfl) ?_
                      refine lv_iload hx hb dL_town_78 (lv_at hl 0 rfl) ?_
                      refine lv_bipush (v := 24) hx hb dL_town_80 (by decide) ?_
                      refine lv_iload hx hb dL_town_82 (lv_at hl 0 rfl) ?_
                      refine lv_bipush (v := 16) hx hb dL_town_84 (by decide) ?_
                      refine lv_isub hx hb dL_town_86 ?_
                      refine lv_topi (fun x133 ex133 => ?_)
                      have tx133 : x133.toInt = v5_68.toInt - 16 := by rw [ex133]; exact z_sub rfl (by decide : (16 : Int32).toInt = 16) (by omega) (by omega)
                      refine lv_iconst (v := 4) hx hb dL_town_87 (by decide) ?_
                      refine lv_idiv hx hb dL_town_88 ((by decide)) ?_
                      refine lv_topi (fun x134 ex134 => ?_)
                      have tx134 := z_div (x := x133) (y := 4) rfl (by decide : (4 : Int32).toInt = 4) (by omega) (by omega)
                      rw [← ex134] at tx134
                      refine lv_iadd hx hb dL_town_89 ?_
                      refine lv_topi (fun x135 ex135 => ?_)
                      have tx135 : x135.toInt = 24 + x134.toInt := by rw [ex135]; exact z_add (by decide : (24 : Int32).toInt = 24) rfl (by omega) (by omega)
                      obtain ⟨_, _, -, -, -, hs138⟩ := a8_0 hI0_68
                      refine LCV (n := 3) (As := [.int v4_16, .int v5_68, .int x135]) (rest := []) (E := [(ra, .inl (g.2 0, 76, .inl rw0))]) (F := []) (fx_upper l g 0 ct0_68 v4_16 v5_68 x135  hI0_68 ) sub_pCl_pAll rfl rfl hP hD hS hA hx hb hml hown hg hK hN ⟨by decide, rfl⟩ hs138 mm_543 mm_544 mm_545 mm_52 mm_546 (by decide +kernel) ⟨(Nat.le_of_ble_eq_true rfl), (Nat.le_of_ble_eq_true rfl)⟩ rfl (Nat.le_of_ble_eq_true rfl) dL_town_90 (Nat.le_of_ble_eq_true rfl) (Nat.le_of_ble_eq_true rfl) hl.1 rfl (fun ct136 rrr137 hB hoff139 H locs hP hD hS => ?_)
                      obtain ⟨r137, rfl, hr137, hI143, hk140, hk141, hk142⟩ := hB
                      refine W.eq (g2 := F0 m 93 ls [.int r137]) rfl ?_
                      have hrel144 : ∀ q, ¬ dIn pM q → ct136 q = (w_ux l g 0 (tw2 l g (tw1 l g (tw0 l g ct v4_16.toInt.toNat) v4_16.toInt.toNat 16) v4_16.toInt.toNat (v5_68.toInt.toNat - 16)) v4_16 v5_68 x135).1 q := fun q hq => by rw [hk140 q hq, w_ux_c hr0_68]
                      have hk145 : zf 12 (ct136 0) = 0 := by rw [hk141]; exact j0_68
                      have hk146 : ct136 3 = .inr (7, [.int 0, .ref 4]) := hk142.trans j1_68
                      refine lv_pop hx hb dL_town_93 rfl ?_
                      obtain ⟨x147, ex147⟩ : ∃ y : Int32, y = v5_68 + 1 := ⟨_, rfl⟩
                      have tx147 : x147.toInt = v5_68.toInt + 1 := by rw [ex147]; exact z_add rfl (by decide : (1 : Int32).toInt = 1) (by omega) (by omega)
                      refine lv_iinc (v := x147) (lv' := [(5, .int x147), (4, .int v4_16), (3, .int z12), (0, .ref (ad 0)), (1, .ref b), (2, .ref ra)]) hx hb dL_town_94 hl (k := 0) rfl (by rw [ex147]; rfl) (by decide) rfl (fun ls hl => ?_)
                      refine lv_goto (tgt := 68) hx hb dL_town_97 (by decide) ?_
                      exact ih68 x147 ct136 _ _ ls (by omega) (by first | omega | decide) hI143 (fun q hq => (hrel144 q hq).trans (by rw [show x147.toInt.toNat - 16 = (v5_68.toInt.toNat - 16) + 1 by omega]; show _ = (w_ux l g 0 (tw2 l g (tw1 l g (tw0 l g ct v4_16.toInt.toNat) v4_16.toInt.toNat 16) v4_16.toInt.toNat (v5_68.toInt.toNat - 16)) (nI v4_16.toInt.toNat) (nI (16 + (v5_68.toInt.toNat - 16))) ((24 : Int32) + (nI (16 + (v5_68.toInt.toNat - 16)) - 16) / 4)).1 q; rw [show 16 + (v5_68.toInt.toNat - 16) = v5_68.toInt.toNat by omega, ← z_nI (x := v4_16) (k := v4_16.toInt.toNat) (by omega), ← z_nI (x := v5_68) (k := v5_68.toInt.toNat) (by omega), ← ex133, ← ex134, ← ex135])) (by first | omega | assumption | decide) (by first | omega | assumption | decide) hP hD hS (lv_sub hl [0, 1, 2, 3, 4, 5] rfl)
                exact loop68 ((24 - (16 : Int32).toInt : Int).toNat + 1) (16 : Int32) ct0_25 _ _ ls (by omega) (by first | omega | decide) hI0_25 (fun q hq => (hr0_25 q hq).trans (by rw [show v5_25.toInt.toNat = 16 by omega]; rfl)) (by first | omega | assumption | decide) (by first | omega | assumption | decide) hP hD hS (lv_sub hl [0, 1, 2, 3, 4, 5] rfl)
              · skip
                have c130 : ¬ (16 ≤ v5_25.toInt) := fun q => c130 ((z_le (by decide : (16 : Int32).toInt = 16) rfl).mpr q)
                refine lv_aload_n hx hb dL_town_32 rfl (lv_at hl 3 rfl) ?_
                refine lv_iload hx hb dL_town_33 (lv_at hl 1 rfl) ?_
                refine lv_iload hx hb dL_town_35 (lv_at hl 0 rfl) ?_
                refine lv_bipush (v := 16) hx hb dL_town_37 (by decide) ?_
                refine lv_iload hx hb dL_town_39 (lv_at hl 0 rfl) ?_
                refine lv_iload hx hb dL_town_41 (lv_at hl 1 rfl) ?_
                refine lv_iconst (v := 2) hx hb dL_town_43 (by decide) ?_
                refine lv_icmp_ge (tgt := 51) hx hb dL_town_44 (by decide) (fun c148 => ?_) (fun c148 => ?_)
                · skip
                  have c148 : 2 ≤ v4_16.toInt := (z_le (by decide : (2 : Int32).toInt = 2) rfl).mp c148
                  refine lv_iconst (v := 4) hx hb dL_town_51 (by decide) ?_
                  refine lv_idiv hx hb dL_town_52 ((by decide)) ?_
                  refine lv_topi (fun x149 ex149 => ?_)
                  have tx149 := z_div (x := v5_25) (y := 4) rfl (by decide : (4 : Int32).toInt = 4) (by omega) (by omega)
                  rw [← ex149] at tx149
                  refine lv_iadd hx hb dL_town_53 ?_
                  refine lv_topi (fun x150 ex150 => ?_)
                  have tx150 : x150.toInt = 16 + x149.toInt := by rw [ex150]; exact z_add (by decide : (16 : Int32).toInt = 16) rfl (by omega) (by omega)
                  obtain ⟨_, _, -, -, -, hs153⟩ := a8_0 hI0_25
                  refine LCV (n := 3) (As := [.int v4_16, .int v5_25, .int x150]) (rest := []) (E := [(ra, .inl (g.2 0, 76, .inl rw0))]) (F := []) (fx_upper l g 0 ct0_25 v4_16 v5_25 x150  hI0_25 ) sub_pCl_pAll rfl rfl hP hD hS hA hx hb hml hown hg hK hN ⟨by decide, rfl⟩ hs153 mm_543 mm_544 mm_545 mm_52 mm_546 (by decide +kernel) ⟨(Nat.le_of_ble_eq_true rfl), (Nat.le_of_ble_eq_true rfl)⟩ rfl (Nat.le_of_ble_eq_true rfl) dL_town_54 (Nat.le_of_ble_eq_true rfl) (Nat.le_of_ble_eq_true rfl) hl.1 rfl (fun ct151 rrr152 hB hoff154 H locs hP hD hS => ?_)
                  obtain ⟨r152, rfl, hr152, hI158, hk155, hk156, hk157⟩ := hB
                  refine W.eq (g2 := F0 m 57 ls [.int r152]) rfl ?_
                  have hrel159 : ∀ q, ¬ dIn pM q → ct151 q = (w_ux l g 0 (tw1 l g (tw0 l g ct v4_16.toInt.toNat) v4_16.toInt.toNat v5_25.toInt.toNat) v4_16 v5_25 x150).1 q := fun q hq => by rw [hk155 q hq, w_ux_c hr0_25]
                  have hk160 : zf 12 (ct151 0) = 0 := by rw [hk156]; exact j0_25
                  have hk161 : ct151 3 = .inr (7, [.int 0, .ref 4]) := hk157.trans j1_25
                  refine lv_pop hx hb dL_town_57 rfl ?_
                  obtain ⟨x162, ex162⟩ : ∃ y : Int32, y = v5_25 + 1 := ⟨_, rfl⟩
                  have tx162 : x162.toInt = v5_25.toInt + 1 := by rw [ex162]; exact z_add rfl (by decide : (1 : Int32).toInt = 1) (by omega) (by omega)
                  refine lv_iinc (v := x162) (lv' := [(5, .int x162), (4, .int v4_16), (3, .int z12), (0, .ref (ad 0)), (1, .ref b), (2, .ref ra)]) hx hb dL_town_58 hl (k := 0) rfl (by rw [ex162]; rfl) (by decide) rfl (fun ls hl => ?_)
                  refine lv_goto (tgt := 25) hx hb dL_town_61 (by decide) ?_
                  exact ih25 x162 ct151 _ _ ls (by omega) (by first | omega | decide) hI158 (fun q hq => (hrel159 q hq).trans (by rw [show x162.toInt.toNat = v5_25.toInt.toNat + 1 by omega]; show _ = (w_ux l g 0 (tw1 l g (tw0 l g ct v4_16.toInt.toNat) v4_16.toInt.toNat v5_25.toInt.toNat) (nI v4_16.toInt.toNat) (nI v5_25.toInt.toNat) ((16 : Int32) + nI v5_25.toInt.toNat / (if v4_16.toInt.toNat < 2 then 2 else 4))).1 q; rw [← z_nI (x := v4_16) (k := v4_16.toInt.toNat) (by omega), ← z_nI (x := v5_25) (k := v5_25.toInt.toNat) (by omega), if_neg (by omega), ← ex149, ← ex150])) (by first | omega | assumption | decide) (by first | omega | assumption | decide) hP hD hS (lv_sub hl [0, 1, 2, 3, 4, 5] rfl)
                · skip
                  have c148 : ¬ (2 ≤ v4_16.toInt) := fun q => c148 ((z_le (by decide : (2 : Int32).toInt = 2) rfl).mpr q)
                  refine lv_iconst (v := 2) hx hb dL_town_47 (by decide) ?_
                  refine lv_goto (tgt := 52) hx hb dL_town_48 (by decide) ?_
                  refine lv_idiv hx hb dL_town_52 ((by decide)) ?_
                  refine lv_topi (fun x163 ex163 => ?_)
                  have tx163 := z_div (x := v5_25) (y := 2) rfl (by decide : (2 : Int32).toInt = 2) (by omega) (by omega)
                  rw [← ex163] at tx163
                  refine lv_iadd hx hb dL_town_53 ?_
                  refine lv_topi (fun x164 ex164 => ?_)
                  have tx164 : x164.toInt = 16 + x163.toInt := by rw [ex164]; exact z_add (by decide : (16 : Int32).toInt = 16) rfl (by omega) (by omega)
                  obtain ⟨_, _, -, -, -, hs167⟩ := a8_0 hI0_25
                  refine LCV (n := 3) (As := [.int v4_16, .int v5_25, .int x164]) (rest := []) (E := [(ra, .inl (g.2 0, 76, .inl rw0))]) (F := []) (fx_upper l g 0 ct0_25 v4_16 v5_25 x164  hI0_25 ) sub_pCl_pAll rfl rfl hP hD hS hA hx hb hml hown hg hK hN ⟨by decide, rfl⟩ hs167 mm_543 mm_544 mm_545 mm_52 mm_546 (by decide +kernel) ⟨(Nat.le_of_ble_eq_true rfl), (Nat.le_of_ble_eq_true rfl)⟩ rfl (Nat.le_of_ble_eq_true rfl) dL_town_54 (Nat.le_of_ble_eq_true rfl) (Nat.le_of_ble_eq_true rfl) hl.1 rfl (fun ct165 rrr166 hB hoff168 H locs hP hD hS => ?_)
                  obtain ⟨r166, rfl, hr166, hI172, hk169, hk170, hk171⟩ := hB
                  refine W.eq (g2 := F0 m 57 ls [.int r166]) rfl ?_
                  have hrel173 : ∀ q, ¬ dIn pM q → ct165 q = (w_ux l g 0 (tw1 l g (tw0 l g ct v4_16.toInt.toNat) v4_16.toInt.toNat v5_25.toInt.toNat) v4_16 v5_25 x164).1 q := fun q hq => by rw [hk169 q hq, w_ux_c hr0_25]
                  have hk174 : zf 12 (ct165 0) = 0 := by rw [hk170]; exact j0_25
                  have hk175 : ct165 3 = .inr (7, [.int 0, .ref 4]) := hk171.trans j1_25
                  refine lv_pop hx hb dL_town_57 rfl ?_
                  obtain ⟨x176, ex176⟩ : ∃ y : Int32, y = v5_25 + 1 := ⟨_, rfl⟩
                  have tx176 : x176.toInt = v5_25.toInt + 1 := by rw [ex176]; exact z_add rfl (by decide : (1 : Int32).toInt = 1) (by omega) (by omega)
                  refine lv_iinc (v := x176) (lv' := [(5, .int x176), (4, .int v4_16), (3, .int z12), (0, .ref (ad 0)), (1, .ref b), (2, .ref ra)]) hx hb dL_town_58 hl (k := 0) rfl (by rw [ex176]; rfl) (by decide) rfl (fun ls hl => ?_)
                  refine lv_goto (tgt := 25) hx hb dL_town_61 (by decide) ?_
                  exact ih25 x176 ct165 _ _ ls (by omega) (by first | omega | decide) hI172 (fun q hq => (hrel173 q hq).trans (by rw [show x176.toInt.toNat = v5_25.toInt.toNat + 1 by omega]; show _ = (w_ux l g 0 (tw1 l g (tw0 l g ct v4_16.toInt.toNat) v4_16.toInt.toNat v5_25.toInt.toNat) (nI v4_16.toInt.toNat) (nI v5_25.toInt.toNat) ((16 : Int32) + nI v5_25.toInt.toNat / (if v4_16.toInt.toNat < 2 then 2 else 4))).1 q; rw [← z_nI (x := v4_16) (k := v4_16.toInt.toNat) (by omega), ← z_nI (x := v5_25) (k := v5_25.toInt.toNat) (by omega), if_pos (by omega), ← ex163, ← ex164])) (by first | omega | assumption | decide) (by first | omega | assumption | decide) hP hD hS (lv_sub hl [0, 1, 2, 3, 4, 5] rfl)
          exact loop25 ((16 - (0 : Int32).toInt : Int).toNat + 1) (0 : Int32) ct0_16 _ _ ls (by omega) (by first | omega | decide) hI0_16 (fun q hq => hr0_16 q hq) (by first | omega | assumption | decide) (by first | omega | assumption | decide) hP hD hS (lv_sub hl [0, 1, 2, 3, 4, 5] rfl)
    exact loop16 ((4 - (0 : Int32).toInt : Int).toNat + 1) (0 : Int32) ct _ _ ls (by omega) (by first | omega | decide) hI (fun _ _ => rfl) (by first | omega | assumption | decide) (by first | omega | assumption | decide) hP hD hS (lv_sub hl [0, 1, 2, 3, 4] rfl)
  refine lv_aload_n hx hb dL_town_0 rfl (lv_at hl 1 rfl) ?_
  refine va_slen hx hb hX hbl hbA hS dL_town_1 ?_
  refine lv_if_ne (tgt := 9) hx hb dL_town_2 (by decide) (fun c177 => ?_) (fun c177 => ?_)
  · skip
    have c177 : ¬ (((L : Nat) : Int) = 0) := fun q => c177 ((z_eq (nI_toInt (n := L) (by omega)) (by decide : (0 : Int32).toInt = 0)).mpr q)
    refine lv_aload_n hx hb dL_town_9 rfl (lv_at hl 1 rfl) ?_
    refine lv_iconst (v := 0) hx hb dL_town_10 (by decide) ?_
    refine va_sld hx hb hX hbl hbA hS (z_in (by decide : (0 : Int32).toInt = 0) (by omega) (by omega)) dL_town_11 ?_
    refine lv_topi (fun y178 ey178 => ?_)
    exact hj12 y178 (ey178.trans (by unfold tX; rw [if_neg (by omega)]; rfl))
  · skip
    have c177 : ((L : Nat) : Int) = 0 := (z_eq (nI_toInt (n := L) (by omega)) (by decide : (0 : Int32).toInt = 0)).mp c177
    refine lv_iconst (v := 0) hx hb dL_town_5 (by decide) ?_
    refine lv_goto (tgt := 12) hx hb dL_town_6 (by decide) ?_
    exact hj12 (0 : Int32) (by unfold tX; rw [if_pos (by omega)])

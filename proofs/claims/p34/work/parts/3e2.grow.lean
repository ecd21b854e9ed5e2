/-! makeRoom's end: another row is made for the bounds -/
theorem dv_grow {l : Launch} {g : zG} {yM : MethodName} {cc : ByteArray} {mL : Nat} {own : String} {rm : Room} {K : (Nat → va_E) → Option Value → Prop} {σ : Nat → va_E} {pc : Nat} {loc : List (Nat × Value)} {n : Int32} {N index n20 : Nat} {spc tim : Int32} {f18 f19 f20 : Nat → Int32}
    (h17 : σ 17 = .inr (0, [.ref 18, .int spc, .ref 19, .ref 20, .int tim])) (h18 : σ 18 = .inl (g.2 0, 128, .inl f18)) (h19 : σ 19 = .inl (g.2 0, 17, .inl f19)) (h20 : σ 20 = .inl (g.2 0, n20, .inl f20))
    (hn : 0 ≤ n.toInt) (hN : n.toInt.toNat = N) (hN2 : N ≤ 131072) (hc1 : rm.cells = 1) (hc2 : rm.slots = 131072) (hw : Cond.arrayClass .int ∈ zGW) (hlink : Cond.fieldLink own index (TX0 3).1 (TX0 3).2.1 (TX0 3).2.2.1 ∈ zGW)
    (hd1 : decode cc pc = .ok (.newarray .int, 2)) (hd2 : decode cc (pc + 2) = .ok (.putfield index, 3)) (hd3 : decode cc (pc + 2 + 3) = .ok (.return_, 1))
    (hK : K (va_up σ 20 (.inl (g.2 0, N, .inl (fun _ => 0)))) none) : GW l g pQ pQ true yM cc mL none own rm K 0 0 σ pc loc [.int n, .ref 17] := by
  refine ⟨va_up σ 20 (.inl (g.2 0, N, .inl (fun _ => 0))), none, hK, fun k hk _ => va_up_ne _ _ (fun e => hk (by rw [e]; exact ⟨by decide, rfl⟩)), fun ad A p e s m args below meth c H locs ls hC hP hD hS hl => ?_⟩
  have hdl : dL pQ = [17, 18, 19, 20] := by decide +kernel
  have hw4 : ∀ (ad : Nat → Nat) (σ : Nat → va_E), dW pQ ad σ = [(ad 17, ce ad (σ 17)), (ad 18, ce ad (σ 18)), (ad 19, ce ad (σ 19)), (ad 20, ce ad (σ 20))] := fun ad σ => by
    unfold dW
    rw [hdl]
    rfl
  rw [hw4, h17, h18, h19, h20] at hP hD
  have hP : zP g [(ad 17, .inr (0, [.ref (ad 18), .int spc, .ref (ad 19), .ref (ad 20), .int tim])), (ad 18, .inl (g.2 0, 128, .inl f18)), (ad 19, .inl (g.2 0, 17, .inl f19)), (ad 20, .inl (g.2 0, n20, .inl f20))] H := hP
  have hD : va_D A [(ad 17, .inr (0, [.ref (ad 18), .int spc, .ref (ad 19), .ref (ad 20), .int tim])), (ad 18, .inl (g.2 0, 128, .inl f18)), (ad 19, .inl (g.2 0, 17, .inl f19)), (ad 20, .inl (g.2 0, n20, .inl f20))] := hD
  have hg := hC.2.2.2.2.2.2.1
  have hlocks := hC.2.2.2.1
  refine z_newI hC.1 hC.2.1 (hg _ hw) hC.2.2.2.2.2.2.2.1 hP hD hS hC.2.2.2.2.2.2.2.2.2 (n := n) (N' := N) (fun q => by have := (z_lt (b := 0) (x := n) (y := 0) rfl rfl).mp q; omega) ((z_cl (k := n.toInt.toNat) (by omega)).trans hN) (by omega) (show 0 + 1 ≤ rm.cells by omega) (show 0 + N ≤ rm.slots by omega) hd1 (fun q H1 hP1 hD1 hS1 => ?_)
  refine va_put (D := g.1) (ci := 0) (v := .ref q) (ty := .array .int) (C := RX0) (T := TX0) (N := 5) hC.1 hC.2.1 hg inG0 tyX0 tyX0_ok nmX0 hC.2.2.2.2.2.1 hC.2.2.2.2.2.2.2.1 hP1 hD1 hS1 0 rfl rfl 3 (by decide) (hg _ hlink) (fun _ h9 => h9) rfl (by decide +kernel) rfl rfl (Nat.le_of_ble_eq_true rfl) hd2 (fun H2 locs2 hP2 hD2 hS2 => ?_)
  have hP3 : zP g [(ad 17, .inr (0, [.ref (ad 18), .int spc, .ref (ad 19), .ref q, .int tim])), (ad 18, .inl (g.2 0, 128, .inl f18)), (ad 19, .inl (g.2 0, 17, .inl f19)), (q, .inl (g.2 0, N, .inl (fun _ => 0)))] H2 := hP2.sub [0, 1, 2, 4] rfl
  have hD3 : va_D A [(ad 17, .inr (0, [.ref (ad 18), .int spc, .ref (ad 19), .ref q, .int tim])), (ad 18, .inl (g.2 0, 128, .inl f18)), (ad 19, .inl (g.2 0, 17, .inl f19)), (q, .inl (g.2 0, N, .inl (fun _ => 0)))] := hD2.sub [0, 1, 2, 4] (by decide) rfl
  have e4 : dW pQ (va_up ad 20 q) (va_up σ 20 (.inl (g.2 0, N, .inl (fun _ => 0)))) = [(ad 17, .inr (0, [.ref (ad 18), .int spc, .ref (ad 19), .ref q, .int tim])), (ad 18, .inl (g.2 0, 128, .inl f18)), (ad 19, .inl (g.2 0, 17, .inl f19)), (q, .inl (g.2 0, N, .inl (fun _ => 0)))] := by
    rw [hw4, va_up_self, va_up_ne σ _ (show 17 ≠ 20 by decide), va_up_ne σ _ (show 18 ≠ 20 by decide), va_up_ne σ _ (show 19 ≠ 20 by decide), h17, h18, h19]
    rfl
  refine W.widen (k := rm.cells) (n := rm.slots) (by omega) (by omega) ?_
  exact W.vret hC.1 hC.2.1 hC.2.2.1 (fun t ht hW => ⟨⟨rfl, va_up ad 20 q, fun j hj => va_up_ne _ _ hj, fun q => Bool.noConfusion q, by rw [ht, e4]; exact hP3, by rw [e4]; exact hD3⟩, hS2.F ht⟩) hS2.2.2 hd3

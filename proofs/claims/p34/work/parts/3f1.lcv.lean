section LLV
variable {p : Program} {l : Launch} {e : Env} {R : Room} {s : State} {m : MethodId} {args : Array Value} {below : List Frame} {meth : Method} {c : Code} {H : Heap} {locs : List Loc} {cn sn pc : Nat} {ls : Array Slot} {S rest : List Value} {Q : State → Prop}
variable {g : zG} {A : Nat → Prop} {P1 : Nat → Bool} {ad : Nat → Nat} {ct : Nat → va_E} {E F : va_W} {y1 : MethodName} {cc1 : ByteArray} {mL1 : Nat} {rt1 : Option FieldType} {rm1 : Room} {K1 : (Nat → va_E) → Option Value → Prop}
variable {cc : ByteArray} {mL : Nat} {own : String} {As : List Value} {index n : Nat} {fs : List Value}
theorem LCV (hM : DM l g P1 false y1 cc1 mL1 rt1 rm1 K1 ct (.ref 0 :: As)) (hs : ∀ k, P1 k = true → pAll k = true) (h0 : rm1.cells = 0) (h1 : rm1.slots = 0)
    (hP : zP g (E ++ (dW pAll ad ct ++ F)) H) (hD : va_D A (E ++ (dW pAll ad ct ++ F))) (hS : va_S A s.heap H locs) (hA : ∀ q : Nat, s.heap.size ≤ q → A q)
    (hx : p.tables.exec = Jvm.exec) (hb : c.code = cc) (hml : c.maxLocals = mL) (hown : s.vm.findClass own = some m.cls) (hg : ∀ w ∈ zGW, w.before args s = true) (hK : zK g s) (hN : zN s)
    (hb0 : dIn P1 0) (hσ : ct 0 = .inr (8, fs)) (w1 : Cond.methodLink own index y1 ∈ zGW) (w2 : Cond.instanceMethod y1 ∈ zGW) (w3 : Cond.selects RX8 y1 y1 ∈ zGW) (w4 : Cond.initialized RX8 ∈ zGW) (w5 : Cond.code y1 cc1 mL1 rt1 ∈ zGW)
    (hd : y1.cls = RX8 ∧ y1.cls ≠ "java/lang/invoke/MethodHandle" ∧ y1.cls ≠ "java/lang/invoke/VarHandle" ∧ (parseMethodDescriptor y1.desc).map (fun d => d.parameters.length) = some n) (hR : rm1.frames + 1 ≤ R.frames ∧ 8 + (mL1 + 11) + rm1.locals ≤ R.locals) (hlen : As.length = n) (hrest : (rest.map fun v => v.category).sum ≤ 8) (hdg : decode cc pc = .ok (.invokevirtual index, 3)) (hcn : cn ≤ R.cells) (hsn : sn ≤ R.slots) (hls : ls.size = mL)
    (hst : S = (As.map (cv ad)).reverse ++ .ref (ad 0) :: rest)
    (kk : ∀ (ct2 : Nat → va_E) (r : Option Value), K1 ct2 r → (∀ k, ¬ dIn P1 k → ct2 k = ct k) → ∀ (H1 : Heap) (locs1 : List Loc), zP g (E ++ (dW pAll ad ct2 ++ F)) H1 → va_D A (E ++ (dW pAll ad ct2 ++ F)) → va_S A s.heap H1 locs1 → W p l e R s m args below meth c H1 locs1 cn sn Q (F0 m (pc + 3) ls ((r.map (cv ad)).toList ++ rest))) : W p l e R s m args below meth c H locs cn sn Q (F0 m pc ls S) := by
  subst hst
  refine LC hs h0 h1 hM hP hD hS hA (fun hPc hDc Qc free hMet => ?_) kk
  obtain ⟨i, hi, -⟩ := dW_at (ad := ad) (σ := ct) hb0
  rw [hσ] at hi
  have pre := zA.pre (s := s) ((Value.ref 0 :: As).map (cv ad)) hPc hK hDc hN
  exact va_runV (As := As.map (cv ad)) (rest := rest) ⟨hx, hb, hml, hown, hg⟩ hMet (cwV n hg (z_gV w1 w2 w3 w4 w5) rfl rfl rfl hd hR) ⟨pre.1, va_recv hK hPc (ci := 8) rfl hi, pre.2⟩ rfl (by rw [List.length_map]; exact hlen) hls rfl (lv_room hrest) hdg ⟨by rw [h0]; exact hcn, by rw [h1]; exact hsn⟩
theorem LCS (hM : DM l g P1 false y1 cc1 mL1 rt1 rm1 K1 ct As) (hs : ∀ k, P1 k = true → pAll k = true) (h0 : rm1.cells = 0) (h1 : rm1.slots = 0)
    (hP : zP g (E ++ (dW pAll ad ct ++ F)) H) (hD : va_D A (E ++ (dW pAll ad ct ++ F))) (hS : va_S A s.heap H locs) (hA : ∀ q : Nat, s.heap.size ≤ q → A q)
    (hx : p.tables.exec = Jvm.exec) (hb : c.code = cc) (hml : c.maxLocals = mL) (hown : s.vm.findClass own = some m.cls) (hg : ∀ w ∈ zGW, w.before args s = true) (hK : zK g s) (hN : zN s)
    (w1 : Cond.methodLink own index y1 ∈ zGW) (w2 : Cond.static y1 ∈ zGW) (w4 : Cond.initialized y1.cls ∈ zGW) (w5 : Cond.code y1 cc1 mL1 rt1 ∈ zGW)
    (hd : y1.cls ≠ "java/lang/invoke/MethodHandle" ∧ y1.cls ≠ "java/lang/invoke/VarHandle" ∧ (parseMethodDescriptor y1.desc).map (fun d => d.parameters.length) = some n) (hR : rm1.frames + 1 ≤ R.frames ∧ 8 + (mL1 + 11) + rm1.locals ≤ R.locals) (hlen : As.length = n) (hrest : (rest.map fun v => v.category).sum ≤ 8) (hdg : decode cc pc = .ok (.invokestatic index, 3)) (hcn : cn ≤ R.cells) (hsn : sn ≤ R.slots) (hls : ls.size = mL)
    (hst : S = (As.map (cv ad)).reverse ++ rest)
    (kk : ∀ (ct2 : Nat → va_E) (r : Option Value), K1 ct2 r → (∀ k, ¬ dIn P1 k → ct2 k = ct k) → ∀ (H1 : Heap) (locs1 : List Loc), zP g (E ++ (dW pAll ad ct2 ++ F)) H1 → va_D A (E ++ (dW pAll ad ct2 ++ F)) → va_S A s.heap H1 locs1 → W p l e R s m args below meth c H1 locs1 cn sn Q (F0 m (pc + 3) ls ((r.map (cv ad)).toList ++ rest))) : W p l e R s m args below meth c H locs cn sn Q (F0 m pc ls S) := by
  subst hst
  refine LC hs h0 h1 hM hP hD hS hA (fun hPc hDc Qc free hMet => ?_) kk
  have pre := zA.pre (s := s) (As.map (cv ad)) hPc hK hDc hN
  exact va_runS (As := As.map (cv ad)) (rest := rest) ⟨hx, hb, hml, hown, hg⟩ hMet (va_cwS n hg (z_gS w1 w2 w4 w5) rfl rfl rfl hd hR) pre rfl (by rw [List.length_map]; exact hlen) hls rfl (lv_room hrest) hdg ⟨by rw [h0]; exact hcn, by rw [h1]; exact hsn⟩
theorem LCSA (hM : DM l g pAll true y1 cc1 mL1 rt1 rm1 K1 ct As)
    (hP : zP g (E ++ (dW pAll ad ct ++ F)) H) (hD : va_D A (E ++ (dW pAll ad ct ++ F))) (hS : va_S A s.heap H locs) (hA : ∀ q : Nat, s.heap.size ≤ q → A q)
    (hx : p.tables.exec = Jvm.exec) (hb : c.code = cc) (hml : c.maxLocals = mL) (hown : s.vm.findClass own = some m.cls) (hg : ∀ w ∈ zGW, w.before args s = true) (hK : zK g s) (hN : zN s)
    (w1 : Cond.methodLink own index y1 ∈ zGW) (w2 : Cond.static y1 ∈ zGW) (w4 : Cond.initialized y1.cls ∈ zGW) (w5 : Cond.code y1 cc1 mL1 rt1 ∈ zGW)
    (hd : y1.cls ≠ "java/lang/invoke/MethodHandle" ∧ y1.cls ≠ "java/lang/invoke/VarHandle" ∧ (parseMethodDescriptor y1.desc).map (fun d => d.parameters.length) = some n) (hR : rm1.frames + 1 ≤ R.frames ∧ 8 + (mL1 + 11) + rm1.locals ≤ R.locals) (hlen : As.length = n) (hrest : (rest.map fun v => v.category).sum ≤ 8) (hdg : decode cc pc = .ok (.invokestatic index, 3)) (hcn : cn + rm1.cells ≤ R.cells) (hsn : sn + rm1.slots ≤ R.slots) (hls : ls.size = mL)
    (hst : S = (As.map (cv ad)).reverse ++ rest)
    (kk : ∀ (ct2 : Nat → va_E) (r : Option Value) (ad2 : Nat → Nat), K1 ct2 r → (∀ j, j ≠ 20 → ad2 j = ad j) → ∀ (H1 : Heap) (locs1 : List Loc), zP g (E ++ (dW pAll ad2 ct2 ++ F)) H1 → va_D A (E ++ (dW pAll ad2 ct2 ++ F)) → va_S A s.heap H1 locs1 → W p l e R s m args below meth c H1 locs1 (cn + rm1.cells) (sn + rm1.slots) Q (F0 m (pc + 3) ls ((r.map (cv ad)).toList ++ rest))) : W p l e R s m args below meth c H locs cn sn Q (F0 m pc ls S) := by
  subst hst
  refine LCA hM hP hD hS hA (fun hPc hDc Qc free hMet => ?_) kk
  have pre := zA.pre (s := s) (As.map (cv ad)) hPc hK hDc hN
  exact va_runS (As := As.map (cv ad)) (rest := rest) ⟨hx, hb, hml, hown, hg⟩ hMet (va_cwS n hg (z_gS w1 w2 w4 w5) rfl rfl rfl hd hR) pre rfl (by rw [List.length_map]; exact hlen) hls rfl (lv_room hrest) hdg ⟨hcn, hsn⟩
end LLV

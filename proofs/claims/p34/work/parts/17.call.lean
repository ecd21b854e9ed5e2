section GWC
variable {l : Launch} {g : zG} {P Pf : Nat → Bool} {al : Bool} {y : MethodName} {cc : ByteArray} {mL : Nat} {rt : Option FieldType} {own : String} {rm : Room} {K : (Nat → va_E) → Option Value → Prop} {cn sn : Nat} {σ : Nat → va_E} {pc : Nat} {loc : List (Nat × Value)} {S : List Value}
variable {P1 : Nat → Bool} {y1 : MethodName} {cc1 : ByteArray} {mL1 : Nat} {rt1 : Option FieldType} {rm1 : Room} {K1 : (Nat → va_E) → Option Value → Prop}
theorem dW_subP {ad : Nat → Nat} {H : Heap} (hs : ∀ k, P1 k = true → P k = true) (hP : zP g (dW P ad σ) H) : zP g (dW P1 ad σ) H := dW_P.mpr fun k hk => dW_P.mp hP k ⟨hk.1, hs k hk.2⟩
theorem dW_subD {A : Nat → Prop} {ad : Nat → Nat} (hs : ∀ k, P1 k = true → P k = true) (hD : va_D A (dW P ad σ)) : va_D A (dW P1 ad σ) :=
  dW_D.mpr ⟨fun j k hj hk e => (dW_D.mp hD).1 j k ⟨hj.1, hs j hj.2⟩ ⟨hk.1, hs k hk.2⟩ e, fun k hk => (dW_D.mp hD).2 k ⟨hk.1, hs k hk.2⟩⟩
theorem dW_A {ad : Nat → Nat} {sz q : Nat} : va_A (dW P ad σ) sz q ↔ (∃ k, dIn P k ∧ ad k = q) ∨ sz ≤ q := by
  constructor
  · rintro (⟨i, e, h⟩ | h)
    · obtain ⟨k, hk, -, hx⟩ := dW_get h
      exact Or.inl ⟨k, hk, (congrArg Prod.fst hx).symm⟩
    · exact Or.inr h
  · rintro (⟨k, hk, rfl⟩ | h)
    · obtain ⟨i, hi, -⟩ := dW_at (ad := ad) (σ := σ) hk
      exact Or.inl ⟨i, _, hi⟩
    · exact Or.inr h
theorem cv_stack (ad : Nat → Nat) (r1 : Option Value) (rest : List Value) : (r1.map (cv ad)).toList ++ rest.map (cv ad) = (r1.toList ++ rest).map (cv ad) := by cases r1 <;> rfl
/-- the rest of a world behind a call over a part of it -/
theorem dW_after {A : Nat → Prop} {ad : Nat → Nat} {σ1 : Nat → va_E} {H H1 : Heap} (hs : ∀ k, P1 k = true → P k = true) (hP : zP g (dW P ad σ) H) (hD : va_D A (dW P ad σ)) (hoff : ∀ k, ¬ dIn P1 k → σ1 k = σ k) (hk : ∀ q : Nat, q < H.size → ¬ va_A (dW P1 ad σ) H.size q → H1[q]? = H[q]?) (hP1 : zP g (dW P1 ad σ1) H1) : zP g (dW P ad σ1) H1 ∧ va_D A (dW P ad σ1) := by
  refine ⟨dW_P.mpr fun k hk1 => ?_, dW_D.mpr (dW_D.mp hD)⟩
  by_cases h : dIn P1 k
  · exact dW_P.mp hP1 k h
  · rw [hoff k h]
    have hat := dW_P.mp hP k hk1
    refine hat.kept (hk _ hat.lt (fun h2 => ?_))
    rcases dW_A.mp h2 with ⟨k2, hk2, e⟩ | h2
    · have := (dW_D.mp hD).1 k2 k ⟨hk2.1, hs k2 hk2.2⟩ hk1 e
      subst this
      exact h hk2
    · have := hat.lt
      exact absurd h2 (Nat.not_le.mpr this)
/-- behind any call of a method that makes no cells -/
theorem GW.call0 {av rest : List Value} (hs : ∀ k, P1 k = true → P k = true) (h0 : rm1.cells = 0) (h1 : rm1.slots = 0) (hM : DM l g P1 false y1 cc1 mL1 rt1 rm1 K1 σ av)
    (run : ∀ (ad : Nat → Nat) (A : Nat → Prop) (p : Program) (e : Env) (s : State) (m : MethodId) (args : Array Value) (below : List Frame) (meth : Method) (c : Code) (H : Heap) (locs : List Loc) (ls : Array Slot), dCx g cc mL rt own p s m args meth c A → zP g (dW P1 ad σ) H → va_D A (dW P1 ad σ) → lv_has ls mL (cl2 ad loc) → ∀ (Qc : Array Value → State → Outcome → State → Prop) (free : Addr → Prop), Met l y1 (zW y1 cc1 mL1 rt1) rm1 (va_Pc (av.map (cv ad)) (zA g (dW P1 ad σ) H.size)) Qc rm1.cells rm1.slots free →
      va_Run p l e (headSpec (zW y cc mL rt) rm).room s m args below meth c H locs cn sn rm1.cells rm1.slots (F0 m pc ls (S.map (cv ad))) (rest.map (cv ad)) (Qc (av.map (cv ad)).toArray) free)
    (kk : ∀ (σ1 : Nat → va_E) (r1 : Option Value), K1 σ1 r1 → (∀ k, ¬ dIn P1 k → σ1 k = σ k) → GW l g P Pf al y cc mL rt own rm K cn sn σ1 (pc + 3) loc (r1.toList ++ rest)) : GW l g P Pf al y cc mL rt own rm K cn sn σ pc loc S := by
  obtain ⟨σ1, r1, hK1, hoff1', hM⟩ := hM
  have hoff1 : ∀ k, ¬ dIn P1 k → σ1 k = σ k := fun k hk => hoff1' k hk (fun q => Bool.noConfusion q.1)
  obtain ⟨σ2, r, hK2, hoff, k⟩ := kk σ1 r1 hK1 hoff1
  refine ⟨σ2, r, hK2, fun j hj h4 => (hoff j hj h4).trans (hoff1 j (fun q => hj ⟨q.1, hs j q.2⟩)), fun ad A p e s m args below meth c H locs ls hC hP hD hS hl => ?_⟩
  have hr := run ad A p e s m args below meth c H locs ls hC (dW_subP hs hP) (dW_subD hs hD) hl _ _ (hM ad H.size)
  intro T hT X
  obtain ⟨v, st₀, t, T', L, h0', X', hL, e1, e2, ⟨⟨hv, ad2, hadj, hadf, hP2, hD2⟩, hz, hk⟩, st⟩ := hr T hT X
  have had := hadf rfl
  subst had
  rw [h0'] at hz hk
  have hv := Outcome.returned.inj hv
  subst hv
  have hfr : ∀ q : Nat, va_A (dW P1 ad2 σ) H.size q → A q := fun q h => by
    rcases dW_A.mp h with ⟨k2, hk2, rfl⟩ | h
    · exact (dW_D.mp hD).2 k2 ⟨hk2.1, hs k2 hk2.2⟩
    · exact hC.2.2.2.2.2.2.2.2.2 q (Nat.le_trans hS.1 h)
  rw [← e1] at hP2 hz hk
  obtain ⟨hPn, hDn⟩ := dW_after hs hP hD hoff1 hk hP2
  have hSn : va_S A s.heap T'.heap (locs ++ L) := ⟨Nat.le_trans hS.1 hz, fun q g1 g2 => (hk q (Nat.lt_of_lt_of_le g1 hS.1) (fun z => g2 (hfr q z))).trans (hS.2.1 q g1 g2), fun q hq => by
    rcases List.mem_append.mp hq with h | h
    · exact hS.2.2 q h
    · exact hfr _ (hL q h)⟩
  rw [h0, h1] at X'
  obtain ⟨t2, a1, b1⟩ := k ad2 A p e s m args below meth c T'.heap (locs ++ L) ls hC hPn hDn hSn hl T' rfl X'
  refine ⟨t2, st t2 ?_, b1⟩
  rw [cv_stack]
  exact a1
theorem GW.callV {As rest : List Value} {b ci index n : Nat} {fs : List Value} {q : vw_C} (hM : DM l g P1 false y1 cc1 mL1 rt1 rm1 K1 σ (.ref b :: As)) (hs : ∀ k, P1 k = true → P k = true) (h0 : rm1.cells = 0) (h1 : rm1.slots = 0)
    (hb : dIn P1 b) (hσ : σ b = .inr (ci, fs)) (hci : vwCl[ci]? = some q) (w1 : Cond.methodLink own index y1 ∈ zGW) (w2 : Cond.instanceMethod y1 ∈ zGW) (w3 : Cond.selects q.1 y1 y1 ∈ zGW) (w4 : Cond.initialized q.1 ∈ zGW) (w5 : Cond.code y1 cc1 mL1 rt1 ∈ zGW)
    (hd : y1.cls = q.1 ∧ y1.cls ≠ "java/lang/invoke/MethodHandle" ∧ y1.cls ≠ "java/lang/invoke/VarHandle" ∧ (parseMethodDescriptor y1.desc).map (fun d => d.parameters.length) = some n) (hR : rm1.frames + 1 ≤ rm.frames ∧ 8 + (mL1 + 11) + rm1.locals ≤ rm.locals) (hlen : As.length = n) (hrest : (rest.map fun v => v.category).sum ≤ 8) (hdg : decode cc pc = .ok (.invokevirtual index, 3)) (hcn : cn ≤ rm.cells) (hsn : sn ≤ rm.slots)
    (hst : S = As.reverse ++ .ref b :: rest) (kk : ∀ (σ1 : Nat → va_E) (r1 : Option Value), K1 σ1 r1 → (∀ k, ¬ dIn P1 k → σ1 k = σ k) → GW l g P Pf al y cc mL rt own rm K cn sn σ1 (pc + 3) loc (r1.toList ++ rest)) : GW l g P Pf al y cc mL rt own rm K cn sn σ pc loc S := by
  subst hst
  refine GW.call0 hs h0 h1 hM (fun ad A p e s m args below meth c H locs ls hC hP hD hl Qc free hMet => ?_) kk
  obtain ⟨i, hi, -⟩ := dW_at (ad := ad) (σ := σ) hb
  rw [hσ] at hi
  have pre := zA.pre (s := s) ((Value.ref b :: As).map (cv ad)) hP hC.2.2.2.2.2.2.2.1 hD hC.2.2.2.2.2.2.2.2.1
  exact va_runV (As := As.map (cv ad)) (rest := rest.map (cv ad)) ⟨hC.1, hC.2.1, hC.2.2.2.2.1, hC.2.2.2.2.2.1, hC.2.2.2.2.2.2.1⟩ hMet (cwV n hC.2.2.2.2.2.2.1 (z_gV w1 w2 w3 w4 w5) rfl rfl rfl hd hR) ⟨pre.1, va_recv hC.2.2.2.2.2.2.2.1 hP hci hi, pre.2⟩ rfl (by rw [List.length_map]; exact hlen) hl.1 (by show (As.reverse ++ Value.ref b :: rest).map (cv ad) = _; rw [List.map_append, List.map_reverse]; rfl) (lv_room (by rw [cv_cats]; exact hrest)) hdg ⟨by rw [h0]; exact hcn, by rw [h1]; exact hsn⟩
theorem GW.callS {As rest : List Value} {index n : Nat} (hM : DM l g P1 false y1 cc1 mL1 rt1 rm1 K1 σ As) (hs : ∀ k, P1 k = true → P k = true) (h0 : rm1.cells = 0) (h1 : rm1.slots = 0)
    (w1 : Cond.methodLink own index y1 ∈ zGW) (w2 : Cond.static y1 ∈ zGW) (w4 : Cond.initialized y1.cls ∈ zGW) (w5 : Cond.code y1 cc1 mL1 rt1 ∈ zGW)
    (hd : y1.cls ≠ "java/lang/invoke/MethodHandle" ∧ y1.cls ≠ "java/lang/invoke/VarHandle" ∧ (parseMethodDescriptor y1.desc).map (fun d => d.parameters.length) = some n) (hR : rm1.frames + 1 ≤ rm.frames ∧ 8 + (mL1 + 11) + rm1.locals ≤ rm.locals) (hlen : As.length = n) (hrest : (rest.map fun v => v.category).sum ≤ 8) (hdg : decode cc pc = .ok (.invokestatic index, 3)) (hcn : cn ≤ rm.cells) (hsn : sn ≤ rm.slots)
    (hst : S = As.reverse ++ rest) (kk : ∀ (σ1 : Nat → va_E) (r1 : Option Value), K1 σ1 r1 → (∀ k, ¬ dIn P1 k → σ1 k = σ k) → GW l g P Pf al y cc mL rt own rm K cn sn σ1 (pc + 3) loc (r1.toList ++ rest)) : GW l g P Pf al y cc mL rt own rm K cn sn σ pc loc S := by
  subst hst
  refine GW.call0 hs h0 h1 hM (fun ad A p e s m args below meth c H locs ls hC hP hD hl Qc free hMet => ?_) kk
  have pre := zA.pre (s := s) (As.map (cv ad)) hP hC.2.2.2.2.2.2.2.1 hD hC.2.2.2.2.2.2.2.2.1
  exact va_runS (As := As.map (cv ad)) (rest := rest.map (cv ad)) ⟨hC.1, hC.2.1, hC.2.2.2.2.1, hC.2.2.2.2.2.1, hC.2.2.2.2.2.2.1⟩ hMet (va_cwS n hC.2.2.2.2.2.2.1 (z_gS w1 w2 w4 w5) rfl rfl rfl hd hR) pre rfl (by rw [List.length_map]; exact hlen) hl.1 (by show (As.reverse ++ rest).map (cv ad) = _; rw [List.map_append, List.map_reverse]) (lv_room (by rw [cv_cats]; exact hrest)) hdg ⟨by rw [h0]; exact hcn, by rw [h1]; exact hsn⟩
theorem GW.callSN {As rest : List Value} {index n : Nat} {host : String} (hM : DM l g P1 false y1 cc1 mL1 rt1 rm1 K1 σ As) (hs : ∀ k, P1 k = true → P k = true) (h0 : rm1.cells = 0) (h1 : rm1.slots = 0)
    (kN : Nat) (w1 : zNW[kN]? = some (own, index, y1, host)) (w2 : Cond.static y1 ∈ zGW) (w4 : Cond.initialized y1.cls ∈ zGW) (w5 : Cond.code y1 cc1 mL1 rt1 ∈ zGW)
    (hd : y1.cls ≠ "java/lang/invoke/MethodHandle" ∧ y1.cls ≠ "java/lang/invoke/VarHandle" ∧ (parseMethodDescriptor y1.desc).map (fun d => d.parameters.length) = some n) (hR : rm1.frames + 1 ≤ rm.frames ∧ 8 + (mL1 + 11) + rm1.locals ≤ rm.locals) (hlen : As.length = n) (hrest : (rest.map fun v => v.category).sum ≤ 8) (hdg : decode cc pc = .ok (.invokestatic index, 3)) (hcn : cn ≤ rm.cells) (hsn : sn ≤ rm.slots)
    (hst : S = As.reverse ++ rest) (kk : ∀ (σ1 : Nat → va_E) (r1 : Option Value), K1 σ1 r1 → (∀ k, ¬ dIn P1 k → σ1 k = σ k) → GW l g P Pf al y cc mL rt own rm K cn sn σ1 (pc + 3) loc (r1.toList ++ rest)) : GW l g P Pf al y cc mL rt own rm K cn sn σ pc loc S := by
  subst hst
  refine GW.call0 hs h0 h1 hM (fun ad A p e s m args below meth c H locs ls hC hP hD hl Qc free hMet => ?_) kk
  have pre := zA.pre (s := s) (As.map (cv ad)) hP hC.2.2.2.2.2.2.2.1 hD hC.2.2.2.2.2.2.2.2.1
  have hg := hC.2.2.2.2.2.2.1
  exact va_runSN (As := As.map (cv ad)) (rest := rest.map (cv ad)) ⟨hC.1, hC.2.1, hC.2.2.2.2.1, hC.2.2.2.2.2.1, hg⟩ hMet ⟨va_cnB n hg (z_gN w5) rfl rfl rfl (hC.2.2.2.2.2.2.2.2.1.at kN w1) (hg _ w4) hd hR, hg _ w2, trivial⟩ pre rfl (by rw [List.length_map]; exact hlen) hl.1 (by show (As.reverse ++ rest).map (cv ad) = _; rw [List.map_append, List.map_reverse]) (lv_room (by rw [cv_cats]; exact hrest)) hdg ⟨by rw [h0]; exact hcn, by rw [h1]; exact hsn⟩
end GWC

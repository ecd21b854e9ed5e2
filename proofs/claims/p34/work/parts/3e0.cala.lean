/-! calls of methods that may make a cell: the one numbered 20 may lie elsewhere behind them -/
theorem arrV_cg {c : ClassId} {N : Nat} {F F2 : Nat → Value} (h : ∀ j, j < N → F j = F2 j) : arrV c N F = arrV c N F2 := by
  unfold arrV
  rw [show (fun j : Fin N => F j.val) = (fun j : Fin N => F2 j.val) from funext fun j => h j.val j.isLt]
theorem dQ_trans {g : zG} {P : Nat → Bool} {ad ad2 : Nat → Nat} {σ2 : Nat → va_E} {r : Option Value} {A : Nat → Prop} (h : ∀ j, j ≠ 20 → ad2 j = ad j) (hr : r.map (cv ad2) = r.map (cv ad)) {args : Array Value} {s t : State} {oc : Outcome} (hq : dQ g P true ad2 σ2 r A args s oc t) : dQ g P true ad σ2 r A args s oc t := by
  obtain ⟨⟨ho, ad3, h3, -, hP, hD⟩, hF⟩ := hq
  exact ⟨⟨ho.trans (by rw [hr]), ad3, fun j hj => (h3 j hj).trans (h j hj), fun q => Bool.noConfusion q, hP, hD⟩, hF⟩
def nr20 (v : Value) : Bool := match v with
  | .ref k => k != 20
  | _ => true
theorem cv_20 {ad ad2 : Nat → Nat} (h : ∀ j, j ≠ 20 → ad2 j = ad j) {v : Value} (hv : nr20 v = true) : cv ad2 v = cv ad v := by
  cases v with
  | ref k =>
    show Value.ref (ad2 k) = Value.ref (ad k)
    rw [h k (fun e => by rw [e] at hv; exact absurd hv (by decide))]
  | _ => rfl
theorem cvs_20 {ad ad2 : Nat → Nat} (h : ∀ j, j ≠ 20 → ad2 j = ad j) {S : List Value} (hv : S.all nr20 = true) : S.map (cv ad2) = S.map (cv ad) :=
  List.map_congr_left fun v hm => cv_20 h (List.all_eq_true.mp hv v hm)
theorem cl2_20 {ad ad2 : Nat → Nat} (h : ∀ j, j ≠ 20 → ad2 j = ad j) {loc : List (Nat × Value)} (hv : loc.all (fun q => nr20 q.2) = true) : cl2 ad2 loc = cl2 ad loc :=
  List.map_congr_left fun q hm => by rw [cv_20 h (List.all_eq_true.mp hv q hm)]
section GWA
variable {l : Launch} {g : zG} {P Pf : Nat → Bool} {y : MethodName} {cc : ByteArray} {mL : Nat} {rt : Option FieldType} {own : String} {rm : Room} {K : (Nat → va_E) → Option Value → Prop} {cn sn : Nat} {σ : Nat → va_E} {pc : Nat} {loc : List (Nat × Value)} {S : List Value}
variable {P1 : Nat → Bool} {y1 : MethodName} {cc1 : ByteArray} {mL1 : Nat} {rt1 : Option FieldType} {rm1 : Room} {K1 : (Nat → va_E) → Option Value → Prop}
theorem GW.callA0 {av rest : List Value} (hs : ∀ k, P1 k = true → P k = true) (h254 : P 254 = false) (hM : DM l g P1 true y1 cc1 mL1 rt1 rm1 K1 σ av)
    (hn : ∀ k, dIn P k → ¬ dIn P1 k → k ≠ 20 ∧ ∀ ad ad2 : Nat → Nat, (∀ j, j ≠ 20 → ad2 j = ad j) → ∀ (a : Nat) (H : Heap), va_at g.1 vwCl (a, ce ad (σ k)) H → va_at g.1 vwCl (a, ce ad2 (σ k)) H)
    (hloc : loc.all (fun q => nr20 q.2) = true) (hrest : rest.all nr20 = true)
    (hK : ∀ (σ : Nat → va_E) (r : Option Value), K σ r → ∀ ad ad2 : Nat → Nat, r.map (cv ad2) = r.map (cv ad)) (hK1 : ∀ (σ : Nat → va_E) (r : Option Value), K1 σ r → ∀ ad ad2 : Nat → Nat, r.map (cv ad2) = r.map (cv ad))
    (run : ∀ (ad : Nat → Nat) (A : Nat → Prop) (p : Program) (e : Env) (s : State) (m : MethodId) (args : Array Value) (below : List Frame) (meth : Method) (c : Code) (H : Heap) (locs : List Loc) (ls : Array Slot), dCx g cc mL rt own p s m args meth c A → zP g (dW P1 ad σ) H → va_D A (dW P1 ad σ) → lv_has ls mL (cl2 ad loc) → ∀ (Qc : Array Value → State → Outcome → State → Prop) (free : Addr → Prop), Met l y1 (zW y1 cc1 mL1 rt1) rm1 (va_Pc (av.map (cv ad)) (zA g (dW P1 ad σ) H.size)) Qc rm1.cells rm1.slots free →
      va_Run p l e (headSpec (zW y cc mL rt) rm).room s m args below meth c H locs cn sn rm1.cells rm1.slots (F0 m pc ls (S.map (cv ad))) (rest.map (cv ad)) (Qc (av.map (cv ad)).toArray) free)
    (kk : ∀ (σ1 : Nat → va_E) (r1 : Option Value), K1 σ1 r1 → (∀ k, ¬ dIn P1 k → k ≠ 254 → σ1 k = σ k) → GW l g P Pf true y cc mL rt own rm K (cn + rm1.cells) (sn + rm1.slots) σ1 (pc + 3) loc (r1.toList ++ rest)) : GW l g P Pf true y cc mL rt own rm K cn sn σ pc loc S := by
  obtain ⟨σ1, r1, hK1', hoff1, hM⟩ := hM
  have ho : ∀ k, ¬ dIn P1 k → k ≠ 254 → σ1 k = σ k := fun k h1 h2 => hoff1 k h1 (fun q => h2 q.2)
  obtain ⟨σ2, r, hK2, hoff, k⟩ := kk σ1 r1 hK1' ho
  refine ⟨σ2, r, hK2, fun j hj h4 => (hoff j hj h4).trans (ho j (fun q => hj ⟨q.1, hs j q.2⟩) (fun q => h4 ⟨rfl, q⟩)), fun ad A p e s m args below meth c H locs ls hC hP hD hS hl => ?_⟩
  have hr := run ad A p e s m args below meth c H locs ls hC (dW_subP hs hP) (dW_subD hs hD) hl _ _ (hM ad H.size)
  intro T hT X
  obtain ⟨v, st₀, t, T', L, h0', X', hL, e1, e2, ⟨⟨hv, ad2, hadj, -, hP2, hD2⟩, hz, hk⟩, st⟩ := hr T hT X
  rw [h0'] at hz hk
  have hv := Outcome.returned.inj hv
  subst hv
  have hfr : ∀ q : Nat, va_A (dW P1 ad σ) H.size q → A q := fun q h => by
    rcases dW_A.mp h with ⟨k2, hk2, rfl⟩ | h
    · exact (dW_D.mp hD).2 k2 ⟨hk2.1, hs k2 hk2.2⟩
    · exact hC.2.2.2.2.2.2.2.2.2 q (Nat.le_trans hS.1 h)
  rw [← e1] at hP2 hz hk
  have hPn : zP g (dW P ad2 σ1) T'.heap := dW_P.mpr fun k hk1 => by
    by_cases h : dIn P1 k
    · exact dW_P.mp hP2 k h
    · obtain ⟨h20, hc⟩ := hn k hk1 h
      have hx : k ≠ 254 := fun q => by
        rw [q] at hk1
        have h2 := hk1.2
        rw [h254] at h2
        exact Bool.noConfusion h2
      rw [ho k h hx, hadj k h20]
      have hat := dW_P.mp hP k hk1
      refine hc ad ad2 hadj _ _ (hat.kept (hk _ hat.lt (fun h2 => ?_)))
      rcases dW_A.mp h2 with ⟨k2, hk2, e⟩ | h2
      · have := (dW_D.mp hD).1 k2 k ⟨hk2.1, hs k2 hk2.2⟩ hk1 e
        subst this
        exact h hk2
      · have := hat.lt
        exact absurd h2 (Nat.not_le.mpr this)
  have hne : ∀ j k, dIn P1 j → dIn P k → ¬ dIn P1 k → ad2 j ≠ ad2 k := fun j k hj hk1 hk2 e => by
    obtain ⟨h20, -⟩ := hn k hk1 hk2
    rw [hadj k h20] at e
    have h1 := (dW_D.mp hD2).2 j hj
    rw [e] at h1
    rcases dW_A.mp h1 with ⟨k2, hk3, e2⟩ | h2
    · have := (dW_D.mp hD).1 k2 k ⟨hk3.1, hs k2 hk3.2⟩ hk1 e2
      subst this
      exact hk2 hk3
    · have := (dW_P.mp hP k hk1).lt
      exact absurd h2 (Nat.not_le.mpr this)
  have hDn : va_D A (dW P ad2 σ1) := dW_D.mpr ⟨fun j k hj hk1 e => by
    by_cases h1 : dIn P1 j
    · by_cases h2 : dIn P1 k
      · exact (dW_D.mp hD2).1 j k h1 h2 e
      · exact absurd e (hne j k h1 hk1 h2)
    · by_cases h2 : dIn P1 k
      · exact absurd e.symm (hne k j h2 hj h1)
      · rw [hadj j (hn j hj h1).1, hadj k (hn k hk1 h2).1] at e
        exact (dW_D.mp hD).1 j k hj hk1 e, fun k hk1 => by
    by_cases h : dIn P1 k
    · exact hfr _ ((dW_D.mp hD2).2 k h)
    · rw [hadj k (hn k hk1 h).1]
      exact (dW_D.mp hD).2 k hk1⟩
  have hSn : va_S A s.heap T'.heap (locs ++ L) := ⟨Nat.le_trans hS.1 hz, fun q g1 g2 => (hk q (Nat.lt_of_lt_of_le g1 hS.1) (fun z => g2 (hfr q z))).trans (hS.2.1 q g1 g2), fun q hq => by
    rcases List.mem_append.mp hq with h | h
    · exact hS.2.2 q h
    · exact hfr _ (hL q h)⟩
  obtain ⟨t2, a1, b1⟩ := k ad2 A p e s m args below meth c T'.heap (locs ++ L) ls hC hPn hDn hSn (by rw [cl2_20 hadj hloc]; exact hl) T' rfl X'
  refine ⟨t2, st t2 ?_, ?_⟩
  · rw [← hK1 _ _ hK1' ad ad2, ← cvs_20 hadj hrest, cv_stack]
    exact a1
  · obtain ⟨o, c1, c2, c3, c4⟩ := b1
    exact ⟨o, c1, c2, dQ_trans hadj (hK _ _ hK2 ad ad2) c3, c4⟩
theorem GW.callVA {As rest : List Value} {b ci index n : Nat} {fs : List Value} {q : vw_C} (hM : DM l g P1 true y1 cc1 mL1 rt1 rm1 K1 σ (.ref b :: As)) (hs : ∀ k, P1 k = true → P k = true) (h254 : P 254 = false)
    (hn : ∀ k, dIn P k → ¬ dIn P1 k → k ≠ 20 ∧ ∀ ad ad2 : Nat → Nat, (∀ j, j ≠ 20 → ad2 j = ad j) → ∀ (a : Nat) (H : Heap), va_at g.1 vwCl (a, ce ad (σ k)) H → va_at g.1 vwCl (a, ce ad2 (σ k)) H)
    (hloc : loc.all (fun q => nr20 q.2) = true) (hrest0 : rest.all nr20 = true)
    (hK : ∀ (σ : Nat → va_E) (r : Option Value), K σ r → ∀ ad ad2 : Nat → Nat, r.map (cv ad2) = r.map (cv ad)) (hK1 : ∀ (σ : Nat → va_E) (r : Option Value), K1 σ r → ∀ ad ad2 : Nat → Nat, r.map (cv ad2) = r.map (cv ad))
    (hb : dIn P1 b) (hσ : σ b = .inr (ci, fs)) (hci : vwCl[ci]? = some q) (w1 : Cond.methodLink own index y1 ∈ zGW) (w2 : Cond.instanceMethod y1 ∈ zGW) (w3 : Cond.selects q.1 y1 y1 ∈ zGW) (w4 : Cond.initialized q.1 ∈ zGW) (w5 : Cond.code y1 cc1 mL1 rt1 ∈ zGW)
    (hd : y1.cls = q.1 ∧ y1.cls ≠ "java/lang/invoke/MethodHandle" ∧ y1.cls ≠ "java/lang/invoke/VarHandle" ∧ (parseMethodDescriptor y1.desc).map (fun d => d.parameters.length) = some n) (hR : rm1.frames + 1 ≤ rm.frames ∧ 8 + (mL1 + 11) + rm1.locals ≤ rm.locals) (hlen : As.length = n) (hrest : (rest.map fun v => v.category).sum ≤ 8) (hdg : decode cc pc = .ok (.invokevirtual index, 3)) (hcn : cn + rm1.cells ≤ rm.cells) (hsn : sn + rm1.slots ≤ rm.slots)
    (hst : S = As.reverse ++ .ref b :: rest) (kk : ∀ (σ1 : Nat → va_E) (r1 : Option Value), K1 σ1 r1 → (∀ k, ¬ dIn P1 k → k ≠ 254 → σ1 k = σ k) → GW l g P Pf true y cc mL rt own rm K (cn + rm1.cells) (sn + rm1.slots) σ1 (pc + 3) loc (r1.toList ++ rest)) : GW l g P Pf true y cc mL rt own rm K cn sn σ pc loc S := by
  subst hst
  refine GW.callA0 hs h254 hM hn hloc hrest0 hK hK1 (fun ad A p e s m args below meth c H locs ls hC hP hD hl Qc free hMet => ?_) kk
  obtain ⟨i, hi, -⟩ := dW_at (ad := ad) (σ := σ) hb
  rw [hσ] at hi
  have pre := zA.pre (s := s) ((Value.ref b :: As).map (cv ad)) hP hC.2.2.2.2.2.2.2.1 hD hC.2.2.2.2.2.2.2.2.1
  exact va_runV (As := As.map (cv ad)) (rest := rest.map (cv ad)) ⟨hC.1, hC.2.1, hC.2.2.2.2.1, hC.2.2.2.2.2.1, hC.2.2.2.2.2.2.1⟩ hMet (cwV n hC.2.2.2.2.2.2.1 (z_gV w1 w2 w3 w4 w5) rfl rfl rfl hd hR) ⟨pre.1, va_recv hC.2.2.2.2.2.2.2.1 hP hci hi, pre.2⟩ rfl (by rw [List.length_map]; exact hlen) hl.1 (by show (As.reverse ++ Value.ref b :: rest).map (cv ad) = _; rw [List.map_append, List.map_reverse]; rfl) (lv_room (by rw [cv_cats]; exact hrest)) hdg ⟨hcn, hsn⟩
end GWA
theorem va_o20 {g : zG} {ad ad2 : Nat → Nat} (h : ∀ j, j ≠ 20 → ad2 j = ad j) {ci a : Nat} {vs : List Value} {H : Heap} (hv : vs.all nr20 = true) (hh : va_at g.1 vwCl (a, ce ad (.inr (ci, vs))) H) : va_at g.1 vwCl (a, ce ad2 (.inr (ci, vs))) H := by
  have e : ce ad2 (.inr (ci, vs)) = ce ad (.inr (ci, vs)) := by
    show (Sum.inr (ci, vs.map (cv ad2)) : va_E) = Sum.inr (ci, vs.map (cv ad))
    rw [cvs_20 h hv]
  rw [e]
  exact hh
theorem va_r20 {g : zG} {ad ad2 : Nat → Nat} {a n : Nat} {cA : ClassId} {f : Nat → Option Nat} {H : Heap} (hf : ∀ j, j < n → (f j).map ad2 = (f j).map ad) (hh : va_at g.1 vwCl (a, ce ad (.inl (cA, n, .inr (.inr (.inr (.inr f)))))) H) : va_at g.1 vwCl (a, ce ad2 (.inl (cA, n, .inr (.inr (.inr (.inr f)))))) H := by
  have e : arrV cA n (fun j => va_rf ((f j).map ad)) = arrV cA n (fun j => va_rf ((f j).map ad2)) := arrV_cg (fun j hj => by rw [hf j hj])
  show H[a]? = some (arrV cA n (fun j => va_rf ((f j).map ad2)))
  rw [← e]
  exact hh
theorem dv_l2i {l : Launch} {g : zG} {P Pf : Nat → Bool} {al : Bool} {yM : MethodName} {cc : ByteArray} {mL : Nat} {rt : Option FieldType} {own : String} {rm : Room} {K : (Nat → va_E) → Option Value → Prop} {cn sn : Nat} {σ : Nat → va_E} {pc : Nat} {loc : List (Nat × Value)} {S : List Value} {x : Int64} {v : Int32} (hdg : decode cc pc = .ok (.l2i, 1)) (hv : x.toInt32 = v) (k : GW l g P Pf al yM cc mL rt own rm K cn sn σ (pc + 1) loc (.int v :: S)) : GW l g P Pf al yM cc mL rt own rm K cn sn σ pc loc (.long x :: S) := k.go1 (fun _ _ _ _ _ _ _ _ _ _ _ _ ls _ hC hP hl kk => lv_l2i hC.1 hC.2.1 hdg hv (kk ls hl))

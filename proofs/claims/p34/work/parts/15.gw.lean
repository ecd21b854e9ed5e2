/-! a method's run told ahead of where it runs: what comes back and what lies there afterwards is chosen by the cells alone (references by number), then it is so at all addresses, in all heaps -/
abbrev idn : Nat → Nat := fun k => k
def cv (ad : Nat → Nat) (v : Value) : Value := match v with
  | .ref k => .ref (ad k)
  | v => v
def cf (ad : Nat → Nat) (x : (Nat → Int32) ⊕ (Nat → Int64) ⊕ (Nat → UInt32) ⊕ (Nat → UInt64) ⊕ (Nat → Option Nat)) : (Nat → Int32) ⊕ (Nat → Int64) ⊕ (Nat → UInt32) ⊕ (Nat → UInt64) ⊕ (Nat → Option Nat) := match x with
  | .inl f => .inl f
  | .inr (.inl f) => .inr (.inl f)
  | .inr (.inr (.inl f)) => .inr (.inr (.inl f))
  | .inr (.inr (.inr (.inl f))) => .inr (.inr (.inr (.inl f)))
  | .inr (.inr (.inr (.inr f))) => .inr (.inr (.inr (.inr (fun i => (f i).map ad))))
def ce (ad : Nat → Nat) (e : va_E) : va_E := match e with
  | .inl a => .inl (a.1, a.2.1, cf ad a.2.2)
  | .inr o => .inr (o.1, o.2.map (cv ad))
def cl2 (ad : Nat → Nat) (loc : List (Nat × Value)) : List (Nat × Value) := loc.map (fun q => (q.1, cv ad q.2))
theorem cv_cat (ad : Nat → Nat) (v : Value) : (cv ad v).category = v.category := by cases v <;> rfl
theorem cv_cats (ad : Nat → Nat) (S : List Value) : (S.map (cv ad)).map (fun v => v.category) = S.map (fun v => v.category) := by
  rw [List.map_map]
  exact List.map_congr_left fun v _ => cv_cat ad v
theorem cl2_at {ad : Nat → Nat} {loc : List (Nat × Value)} {k i : Nat} {v : Value} (h : loc[k]? = some (i, v)) : (cl2 ad loc)[k]? = some (i, cv ad v) := by
  unfold cl2
  rw [List.getElem?_map, h]
  rfl
theorem cl2_filter (ad : Nat → Nat) (i : Nat) : ∀ loc : List (Nat × Value), (cl2 ad loc).filter (fun q => !(q.1 == i) && !(q.1 + 1 == i && q.2.category == 2)) = cl2 ad (loc.filter (fun q => !(q.1 == i) && !(q.1 + 1 == i && q.2.category == 2)))
  | [] => rfl
  | q :: r => by
    have ih := cl2_filter ad i r
    unfold cl2 at ih ⊢
    rw [List.map_cons, List.filter_cons, List.filter_cons, ih]
    simp only [cv_cat]
    split <;> rfl
theorem cl2_filter2 (ad : Nat → Nat) (i : Nat) : ∀ loc : List (Nat × Value), (cl2 ad loc).filter (fun q => !(q.1 == i) && (!(q.1 == i + 1) && !(q.1 + 1 == i && q.2.category == 2))) = cl2 ad (loc.filter (fun q => !(q.1 == i) && (!(q.1 == i + 1) && !(q.1 + 1 == i && q.2.category == 2))))
  | [] => rfl
  | q :: r => by
    have ih := cl2_filter2 ad i r
    unfold cl2 at ih ⊢
    rw [List.map_cons, List.filter_cons, List.filter_cons, ih]
    simp only [cv_cat]
    split <;> rfl
theorem cl2_args (ad : Nat → Nat) : ∀ (n : Nat) (av : List Value), lv_args n (av.map (cv ad)) = cl2 ad (lv_args n av)
  | n, [] => rfl
  | n, v :: r => by
    simp only [List.map_cons, lv_args, cv_cat]
    split
    · simp only [cl2, List.map_cons, cl2_args ad _ r]
    · simp only [cl2, List.map_cons, cl2_args ad _ r]
theorem cl2_pick {ad : Nat → Nat} {loc loc2 : List (Nat × Value)} (ks : List Nat) (h : lv_pick loc ks = loc2) : lv_pick (cl2 ad loc) ks = cl2 ad loc2 := by
  subst h
  unfold lv_pick cl2
  rw [List.map_filterMap]
  refine congrArg (fun f => List.filterMap f ks) (funext fun k => ?_)
  rw [List.getElem?_map]
/-- which cells a method's world has -/
def dIn (P : Nat → Bool) (k : Nat) : Prop := k < 260 ∧ P k = true
def dL (P : Nat → Bool) : List Nat := (List.range 260).filter P
def dW (P : Nat → Bool) (ad : Nat → Nat) (σ : Nat → va_E) : va_W := (dL P).map (fun k => (ad k, ce ad (σ k)))
theorem dL_mem {P : Nat → Bool} {k : Nat} : k ∈ dL P ↔ dIn P k := by
  unfold dL dIn
  rw [List.mem_filter, List.mem_range]
theorem dL_inj {P : Nat → Bool} {i j k : Nat} (hi : (dL P)[i]? = some k) (hj : (dL P)[j]? = some k) : i = j := by
  have h : (dL P).Pairwise (· < ·) := List.Pairwise.filter _ List.pairwise_lt_range
  rw [List.pairwise_iff_getElem] at h
  obtain ⟨a1, b1⟩ := List.getElem?_eq_some_iff.mp hi
  obtain ⟨a2, b2⟩ := List.getElem?_eq_some_iff.mp hj
  rcases Nat.lt_trichotomy i j with q | q | q
  · have := h i j a1 a2 q
    omega
  · exact q
  · have := h j i a2 a1 q
    omega
theorem dW_at {P : Nat → Bool} {ad : Nat → Nat} {σ : Nat → va_E} {k : Nat} (hk : dIn P k) : ∃ i, (dW P ad σ)[i]? = some (ad k, ce ad (σ k)) ∧ ∀ e, (dW P ad σ).set i (ad k, ce ad e) = dW P ad (va_up σ k e) := by
  obtain ⟨i, hi⟩ := List.getElem?_of_mem (dL_mem.mpr hk)
  refine ⟨i, by unfold dW; rw [List.getElem?_map, hi]; rfl, fun e => ?_⟩
  unfold dW
  apply List.ext_getElem?
  intro j
  rw [List.getElem?_map]
  by_cases hj : j = i
  · subst hj
    rw [List.getElem?_set_self (by rw [List.length_map]; exact (List.getElem?_eq_some_iff.mp hi).1), hi]
    show _ = some (ad k, ce ad (va_up σ k e k))
    rw [va_up_self]
  · rw [List.getElem?_set_ne (Ne.symm hj), List.getElem?_map]
    cases hx : (dL P)[j]? with
    | none => rfl
    | some x =>
      have hne : x ≠ k := fun q => hj (dL_inj (by rw [hx, q]) hi)
      show some (ad x, ce ad (σ x)) = some (ad x, ce ad (va_up σ k e x))
      rw [va_up_ne _ _ hne]
theorem dW_get {P : Nat → Bool} {ad : Nat → Nat} {σ : Nat → va_E} {i : Nat} {x : Nat × va_E} (h : (dW P ad σ)[i]? = some x) : ∃ k, dIn P k ∧ (dL P)[i]? = some k ∧ x = (ad k, ce ad (σ k)) := by
  unfold dW at h
  rw [List.getElem?_map] at h
  cases hk : (dL P)[i]? with
  | none => rw [hk] at h; cases h
  | some k =>
    rw [hk] at h
    exact ⟨k, dL_mem.mp (List.mem_of_getElem? hk), rfl, (Option.some.inj h).symm⟩
/-- worlds of the same cells are the same -/
theorem dW_congr {P : Nat → Bool} {ad : Nat → Nat} {σ τ : Nat → va_E} (h : ∀ k, dIn P k → σ k = τ k) : dW P ad σ = dW P ad τ := by
  unfold dW
  exact List.map_congr_left fun k hk => by rw [h k (dL_mem.mp hk)]
theorem dW_ad {P : Nat → Bool} {ad ad2 : Nat → Nat} {σ τ : Nat → va_E} (h : ∀ k, dIn P k → (ad k, ce ad (σ k)) = (ad2 k, ce ad2 (τ k))) : dW P ad σ = dW P ad2 τ := by
  unfold dW
  exact List.map_congr_left fun k hk => h k (dL_mem.mp hk)
theorem dW_P {g : zG} {P : Nat → Bool} {ad : Nat → Nat} {σ : Nat → va_E} {H : Heap} : zP g (dW P ad σ) H ↔ ∀ k, dIn P k → va_at g.1 vwCl (ad k, ce ad (σ k)) H := by
  constructor
  · intro h k hk
    obtain ⟨i, hi, -⟩ := dW_at (ad := ad) (σ := σ) hk
    exact h i _ hi
  · intro h i x hx
    obtain ⟨k, hk, -, rfl⟩ := dW_get hx
    exact h k hk
theorem dW_D {A : Nat → Prop} {P : Nat → Bool} {ad : Nat → Nat} {σ : Nat → va_E} : va_D A (dW P ad σ) ↔ (∀ j k, dIn P j → dIn P k → ad j = ad k → j = k) ∧ ∀ k, dIn P k → A (ad k) := by
  constructor
  · intro h
    refine ⟨fun j k hj hk e => ?_, fun k hk => ?_⟩
    · obtain ⟨i1, h1⟩ := List.getElem?_of_mem (dL_mem.mpr hj)
      obtain ⟨i2, h2⟩ := List.getElem?_of_mem (dL_mem.mpr hk)
      have e1 : (dW P ad σ)[i1]? = some (ad j, ce ad (σ j)) := by unfold dW; rw [List.getElem?_map, h1]; rfl
      have e2 : (dW P ad σ)[i2]? = some (ad k, ce ad (σ k)) := by unfold dW; rw [List.getElem?_map, h2]; rfl
      have := h.1 i1 i2 _ _ e1 e2 e
      subst this
      exact Option.some.inj (h1.symm.trans h2)
    · obtain ⟨i, hi, -⟩ := dW_at (ad := ad) (σ := σ) hk
      exact h.2 i _ hi
  · intro h
    refine ⟨fun i j x y hx hy e => ?_, fun i x hx => ?_⟩
    · obtain ⟨k1, hk1, h1, rfl⟩ := dW_get hx
      obtain ⟨k2, hk2, h2, rfl⟩ := dW_get hy
      have := h.1 k1 k2 hk1 hk2 e
      subst this
      exact dL_inj h1 h2
    · obtain ⟨k, hk, -, rfl⟩ := dW_get hx
      exact h.2 k hk
def dCx (g : zG) (cc : ByteArray) (mL : Nat) (rt : Option FieldType) (own : String) (p : Program) (s : State) (m : MethodId) (args : Array Value) (meth : Method) (c : Code) (A : Nat → Prop) : Prop :=
  p.tables.exec = Jvm.exec ∧ c.code = cc ∧ meth.sig.returnType = rt ∧ meth.locks = false ∧ c.maxLocals = mL ∧ s.vm.findClass own = some m.cls ∧ (∀ w ∈ zGW, w.before args s = true) ∧ zK g s ∧ zN s ∧ ∀ q : Nat, s.heap.size ≤ q → A q
def dQ (g : zG) (P : Nat → Bool) (al : Bool) (ad : Nat → Nat) (σ2 : Nat → va_E) (r : Option Value) (A : Nat → Prop) : Array Value → State → Outcome → State → Prop := fun _ st oc t =>
  (oc = .returned (r.map (cv ad)) ∧ ∃ ad2 : Nat → Nat, (∀ j, j ≠ 20 → ad2 j = ad j) ∧ (al = false → ad2 = ad) ∧ zP g (dW P ad2 σ2) t.heap ∧ va_D A (dW P ad2 σ2)) ∧ va_F A st t
def GW (l : Launch) (g : zG) (P Pf : Nat → Bool) (al : Bool) (y : MethodName) (cc : ByteArray) (mL : Nat) (rt : Option FieldType) (own : String) (rm : Room) (K : (Nat → va_E) → Option Value → Prop) (cn sn : Nat) (σ : Nat → va_E) (pc : Nat) (loc : List (Nat × Value)) (S : List Value) : Prop :=
  ∃ (σ2 : Nat → va_E) (r : Option Value), K σ2 r ∧ (∀ k, ¬ dIn P k → ¬ (al = true ∧ k = 254) → σ2 k = σ k) ∧ ∀ (ad : Nat → Nat) (A : Nat → Prop) (p : Program) (e : Env) (s : State) (m : MethodId) (args : Array Value) (below : List Frame) (meth : Method) (c : Code) (H : Heap) (locs : List Loc) (ls : Array Slot),
    dCx g cc mL rt own p s m args meth c A → zP g (dW P ad σ) H → va_D A (dW P ad σ) → va_S A s.heap H locs → lv_has ls mL (cl2 ad loc) →
    W p l e (headSpec (zW y cc mL rt) rm).room s m args below meth c H locs cn sn (MQ below (dQ g Pf al ad σ2 r A) args s rm.cells rm.slots A) (F0 m pc ls (S.map (cv ad)))
def DM (l : Launch) (g : zG) (P : Nat → Bool) (al : Bool) (y : MethodName) (cc : ByteArray) (mL : Nat) (rt : Option FieldType) (rm : Room) (K : (Nat → va_E) → Option Value → Prop) (σ : Nat → va_E) (av : List Value) : Prop :=
  ∃ (σ2 : Nat → va_E) (r : Option Value), K σ2 r ∧ (∀ k, ¬ dIn P k → ¬ (al = true ∧ k = 254) → σ2 k = σ k) ∧ ∀ (ad : Nat → Nat) (sz : Nat), Met l y (zW y cc mL rt) rm (va_Pc (av.map (cv ad)) (zA g (dW P ad σ) sz)) (dQ g P al ad σ2 r (va_A (dW P ad σ) sz)) rm.cells rm.slots (va_A (dW P ad σ) sz)
section GWS
variable {l : Launch} {g : zG} {P Pf : Nat → Bool} {al : Bool} {y : MethodName} {cc : ByteArray} {mL : Nat} {rt : Option FieldType} {own : String} {rm : Room} {K : (Nat → va_E) → Option Value → Prop} {cn sn : Nat} {σ : Nat → va_E} {pc : Nat} {loc : List (Nat × Value)} {S : List Value}
theorem GW.met {av : List Value} (hy : plainName y.cls = true) (hown : y.cls = own) (hloc : lv_args 0 av = loc) (hn : (lg_sl av).length ≤ mL) (h : GW l g P P al y cc mL rt own rm K 0 0 σ 0 loc []) : DM l g P al y cc mL rt rm K σ av := by
  obtain ⟨σ2, r, hK2, hoff, h⟩ := h
  refine ⟨σ2, r, hK2, hoff, fun ad sz => Met.ofW (cc := cc) (maxL := mL) (ret := rt) hy rfl ?_⟩
  intro p e s m args below meth c s₁ B hml hv
  obtain ⟨rfl, hsz, hP, hK, hD0, hN⟩ := hv
  subst hsz
  have hsl : (lg_sl (av.map (cv ad))).length = (lg_sl av).length := by
    unfold lg_sl
    rw [List.flatMap_map, List.length_flatMap, List.length_flatMap]
    refine congrArg List.sum (List.map_congr_left fun v _ => ?_)
    simp only [cv_cat]
    split <;> rfl
  have hl := lv_entry (av.map (cv ad)) (n := mL) (by rw [hsl]; exact hn)
  rw [cl2_args, hloc] at hl
  have q := h ad (va_A (dW P ad σ) s.heap.size) p e s m (av.map (cv ad)).toArray below meth c s.heap [] _ ⟨B.exec, B.bytes, B.returns, B.notSynchronized, hml, by rw [← hown]; exact findClass_of_methodNamed B.named, zW.law (atoms_spec (ws := zW y cc mL rt) B.pre), hK, hN, fun q hq => Or.inr hq⟩ hP hD0.self va_S.rf hl
  rw [lg_entry_eq]
  exact q
theorem GW.eq {pc2 : Nat} {loc2 : List (Nat × Value)} {S2 : List Value} (h1 : pc = pc2) (h2 : loc = loc2) (h3 : S = S2) (k : GW l g P Pf al y cc mL rt own rm K cn sn σ pc2 loc2 S2) : GW l g P Pf al y cc mL rt own rm K cn sn σ pc loc S := by
  subst h1 h2 h3
  exact k
/-- one step that leaves the cells as they are -/
theorem GW.go1 {pc2 : Nat} {loc2 : List (Nat × Value)} {S2 : List Value}
    (h : ∀ (ad : Nat → Nat) (A : Nat → Prop) (p : Program) (e : Env) (s : State) (m : MethodId) (args : Array Value) (below : List Frame) (meth : Method) (c : Code) (H : Heap) (locs : List Loc) (ls : Array Slot) (Q : State → Prop), dCx g cc mL rt own p s m args meth c A → zP g (dW P ad σ) H → lv_has ls mL (cl2 ad loc) →
      (∀ ls2 : Array Slot, lv_has ls2 mL (cl2 ad loc2) → W p l e (headSpec (zW y cc mL rt) rm).room s m args below meth c H locs cn sn Q (F0 m pc2 ls2 (S2.map (cv ad)))) → W p l e (headSpec (zW y cc mL rt) rm).room s m args below meth c H locs cn sn Q (F0 m pc ls (S.map (cv ad))))
    (k : GW l g P Pf al y cc mL rt own rm K cn sn σ pc2 loc2 S2) : GW l g P Pf al y cc mL rt own rm K cn sn σ pc loc S := by
  obtain ⟨σ2, r, hK2, hoff, k⟩ := k
  exact ⟨σ2, r, hK2, hoff, fun ad A p e s m args below meth c H locs ls hC hP hD hS hl => h ad A p e s m args below meth c H locs ls _ hC hP hl (fun ls2 hl2 => k ad A p e s m args below meth c H locs ls2 hC hP hD hS hl2)⟩
/-- one step that writes a cell -/
theorem GW.go2 {pc2 : Nat} {loc2 : List (Nat × Value)} {S2 : List Value} {q : Nat} {en : va_E} (hq : dIn P q)
    (h : ∀ (ad : Nat → Nat) (A : Nat → Prop) (p : Program) (e : Env) (s : State) (m : MethodId) (args : Array Value) (below : List Frame) (meth : Method) (c : Code) (H : Heap) (locs : List Loc) (ls : Array Slot) (Q : State → Prop) (i : Nat), dCx g cc mL rt own p s m args meth c A → zP g (dW P ad σ) H → va_D A (dW P ad σ) → va_S A s.heap H locs → lv_has ls mL (cl2 ad loc) → (dW P ad σ)[i]? = some (ad q, ce ad (σ q)) →
      (∀ (H1 : Heap) (locs1 : List Loc) (ls2 : Array Slot), zP g ((dW P ad σ).set i (ad q, ce ad en)) H1 → va_D A ((dW P ad σ).set i (ad q, ce ad en)) → va_S A s.heap H1 locs1 → lv_has ls2 mL (cl2 ad loc2) → W p l e (headSpec (zW y cc mL rt) rm).room s m args below meth c H1 locs1 cn sn Q (F0 m pc2 ls2 (S2.map (cv ad)))) → W p l e (headSpec (zW y cc mL rt) rm).room s m args below meth c H locs cn sn Q (F0 m pc ls (S.map (cv ad))))
    (k : GW l g P Pf al y cc mL rt own rm K cn sn (va_up σ q en) pc2 loc2 S2) : GW l g P Pf al y cc mL rt own rm K cn sn σ pc loc S := by
  obtain ⟨σ2, r, hK2, hoff, k⟩ := k
  refine ⟨σ2, r, hK2, fun j hj h4 => (hoff j hj h4).trans (va_up_ne _ _ (fun e => hj (e ▸ hq))), fun ad A p e s m args below meth c H locs ls hC hP hD hS hl => ?_⟩
  obtain ⟨i, hi, hset⟩ := dW_at (ad := ad) (σ := σ) hq
  refine h ad A p e s m args below meth c H locs ls _ i hC hP hD hS hl hi (fun H1 locs1 ls2 hP1 hD1 hS1 hl2 => ?_)
  rw [hset] at hP1 hD1
  exact k ad A p e s m args below meth c H1 locs1 ls2 hC hP1 hD1 hS1 hl2
end GWS

/-! names of the array types, nest words; derived rows. g.1: the classes' numbers, g.2: the array classes' -/
abbrev zG : Type := va_G × (Nat → ClassId)
abbrev zT (g : zG) : List (ClassId × FieldType) := [(g.2 0, .int), (g.2 1, .long), (g.2 2, .int), (g.2 3, .int), (g.2 4, .object "TwoFit$Column"), (g.2 5, .object "TwoFit$Book"), (g.2 6, .object "TwoFit$Gossip"), (g.2 7, .array .int)]
abbrev zP (g : zG) (ws : va_W) (H : Heap) : Prop := va_P g.1 vwCl ws H
abbrev zK (g : zG) (U : State) : Prop := va_K g.1 vwCl (zT g) U
def zNW : List (String × Nat × MethodName × String) := [("TwoFit", 21, yX7_init, "TwoFit"), ("TwoFit", 34, yX5_init, "TwoFit"), ("TwoFit", 47, yX6_init, "TwoFit"), ("TwoFit", 54, yX0_init, "TwoFit"), ("TwoFit", 61, yX1_init, "TwoFit"), ("TwoFit", 69, yX4_init, "TwoFit"), ("TwoFit", 82, yX2_init, "TwoFit"), ("TwoFit$Column", 31, yX8_within, "TwoFit"), ("TwoFit$Column", 39, yX8_isValue, "TwoFit"), ("TwoFit$Tape", 19, yX8_within, "TwoFit"), ("TwoFit$Book", 31, yX8_within, "TwoFit"), ("TwoFit$Book", 35, yX8_isColumn, "TwoFit"), ("TwoFit$Matching", 61, yX8_lowest, "TwoFit"), ("TwoFit$Matching", 68, yX8_within, "TwoFit"), ("TwoFit$Asking", 32, yX8_lowest, "TwoFit"), ("TwoFit$Asking", 64, yX8_within, "TwoFit"), ("TwoFit$Blurs", 36, yX8_isColumn, "TwoFit"), ("TwoFit$Blurs", 40, yX8_isLevel, "TwoFit"), ("TwoFit$Blurs", 43, yX8_within, "TwoFit")]
def zAOA (ty : FieldType) (U : State) : Prop := (Cond.arrayOver (.array ty)).before #[] U = true
theorem zAOA.use {ty : FieldType} {A : Array Value} {U : State} (h : zAOA ty U) : (Cond.arrayOver (.array ty)).before A U = true := h
theorem zAOA.of {ty : FieldType} {A : Array Value} {U : State} (h : (Cond.arrayOver (.array ty)).before A U = true) : zAOA ty U := h
theorem zAOA.moved {u U : State} (hvm : u.vm.Alike U.vm) {t : FieldType} (h : zAOA t u) : zAOA t U := by
  obtain ⟨comp, c, k, h1, h2, h3, h4, h5⟩ := Jvm.Stand.arrayOver_specB h
  obtain ⟨k', hk', he⟩ := hvm.2.2 _ _ h3
  have hi : (U.vm.classes.findIdx? fun (x : Class) => match x.kind with | .array component _ => component == comp | _ => false) = some c := by
    refine (va_idx_bare U.vm comp).symm.trans ?_
    first | rw [hvm.bare_eq] | rw [← hvm.bare_eq]
    exact (va_idx_bare u.vm comp).trans h2
  have hkind : k'.kind = .array comp (.array t) := by rw [he]; exact h4
  have f1 : U.vm.findClass (FieldType.array t).toString = some comp := by rw [hvm.findClass]; exact h1
  have f2 : U.vm.findClass ("[" ++ (FieldType.array t).toString) = some c := by rw [hvm.findClass]; exact h5
  unfold zAOA Cond.before Cond.holds
  simp only [Cond.value]
  rw [f1, Option.bind_some]
  refine (congrArg (fun o : Option Nat => (o.bind (fun c => (U.vm.classes[c]?).map fun (k : Class) => match k.kind with | .array _ ty => decide (ty = FieldType.array t) && decide (U.vm.findClass ("[" ++ (FieldType.array t).toString) = some c) | _ => false) == some true)) hi).trans ?_
  simp [hk', hkind, f2]
def zN (U : State) : Prop := (∀ q ∈ zNW, va_Nw (.methodLinkNest q.1 q.2.1 q.2.2.1 q.2.2.2) U) ∧ va_AO "TwoFit$Column" U ∧ va_AO "TwoFit$Book" U ∧ va_AO "TwoFit$Gossip" U ∧ zAOA .int U
theorem zN.warm {s U : State} (hW : s.WarmedH U.vm) (h : zN s) : zN U := ⟨fun q hq => va_Nw.warmM hW (h.1 q hq), h.2.1.moved hW.alike, h.2.2.1.moved hW.alike, h.2.2.2.1.moved hW.alike, h.2.2.2.2.moved hW.alike⟩
theorem zN.same {u U : State} (e : u.vm = U.vm) (h : zN u) : zN U := ⟨fun q hq => va_Nw.same rfl e (h.1 q hq), h.2.1.moved (e ▸ Vm.Alike.refl u.vm), h.2.2.1.moved (e ▸ Vm.Alike.refl u.vm), h.2.2.2.1.moved (e ▸ Vm.Alike.refl u.vm), h.2.2.2.2.moved (e ▸ Vm.Alike.refl u.vm)⟩
theorem zN.at {U : State} (h : zN U) (k : Nat) {q : String × Nat × MethodName × String} (hk : zNW[k]? = some q) : va_Nw (.methodLinkNest q.1 q.2.1 q.2.2.1 q.2.2.2) U := h.1 q (List.mem_of_getElem? hk)
/-- a method's start: it may write -/
def zA (g : zG) (ws : va_W) (sz : Nat) (U : State) : Prop := U.heap.size = sz ∧ zP g ws U.heap ∧ zK g U ∧ va_D (fun _ => True) ws ∧ zN U
/-- a method's start: it only reads -/
def zR (g : zG) (ws : va_W) (U : State) : Prop := zP g ws U.heap ∧ zK g U ∧ zN U
theorem zA.blind (g : zG) (ws : va_W) (sz : Nat) (av : List Value) : FrameBlind (va_Pc av (zA g ws sz)) := fun a U gg mk q => by
  obtain ⟨q0, q1, q2, q3, q4, q5⟩ := q
  exact ⟨q0, q1, q2, va_K.moved (u := U) (U := U.calling gg mk a) (Vm.Alike.refl U.vm) q3, q4, zN.same (u := U) (U := U.calling gg mk a) rfl q5⟩
theorem zR.blind (g : zG) (ws : va_W) (av : List Value) : FrameBlind (va_Pc av (zR g ws)) := fun a U gg mk q => by
  obtain ⟨q0, q2, q3, q5⟩ := q
  exact ⟨q0, q2, va_K.moved (u := U) (U := U.calling gg mk a) (Vm.Alike.refl U.vm) q3, zN.same (u := U) (U := U.calling gg mk a) rfl q5⟩
theorem zA.pre {g : zG} {ws : va_W} {s : State} {H : Heap} {A : Nat → Prop} (av : List Value) (hP : zP g ws H) (hK : zK g s) (hD : va_D A ws) (hN : zN s) : FrameBlind (va_Pc av (zA g ws H.size)) ∧ ∀ U : State, U.heap = H → s.WarmedH U.vm → va_Pc av (zA g ws H.size) av.toArray U :=
  ⟨zA.blind g ws H.size av, fun U hU hW => ⟨rfl, by rw [hU], by rw [hU]; exact hP, va_K.moved hW.alike hK, hD.weaken (fun _ _ _ _ => trivial), hN.warm hW⟩⟩
theorem zR.pre {g : zG} {ws : va_W} {s : State} {H : Heap} (av : List Value) (hP : zP g ws H) (hK : zK g s) (hN : zN s) : FrameBlind (va_Pc av (zR g ws)) ∧ ∀ U : State, U.heap = H → s.WarmedH U.vm → va_Pc av (zR g ws) av.toArray U :=
  ⟨zR.blind g ws av, fun U hU hW => ⟨rfl, by rw [hU]; exact hP, va_K.moved hW.alike hK, hN.warm hW⟩⟩
section ZC
variable {p : Program} {l : Launch} {e : Env} {R : Room} {s : State} {m : MethodId} {args : Array Value} {below : List Frame} {meth : Method} {c : Code} {H : Heap} {locs : List Loc} {cells slots : Nat} {Q : State → Prop}
variable {pc : Nat} {ls : Array Slot} {rest st0 : List Value} {a : Array Value}
/-- a call that only reads: an int, a long, nothing comes back -/
theorem zc_i {post : Int32 → Prop} (hr : va_Run p l e R s m args below meth c H locs cells slots 0 0 (F0 m pc ls st0) rest (vp_Si post a) (fun _ => False))
    (kk : ∀ r : Int32, post r → W p l e R s m args below meth c H locs cells slots Q (F0 m (pc + 3) ls (.int r :: rest))) : W p l e R s m args below meth c H locs cells slots Q (F0 m pc ls st0) := by
  intro T hT X
  obtain ⟨v, st₀, t, T', L, h0, X', hL, e1, -, ⟨r, hv, hp, hh⟩, st⟩ := hr T hT X
  cases hv
  obtain ⟨t2, a1, b1⟩ := kk r hp T' (by rw [e1, hh, h0]) (Stand.forget X' (fun q h => (hL q h).elim))
  exact ⟨t2, st t2 a1, b1⟩
theorem zc_l {post : Int64 → Prop} (hr : va_Run p l e R s m args below meth c H locs cells slots 0 0 (F0 m pc ls st0) rest (vp_Sl post a) (fun _ => False))
    (kk : ∀ r : Int64, post r → W p l e R s m args below meth c H locs cells slots Q (F0 m (pc + 3) ls (.long r :: rest))) : W p l e R s m args below meth c H locs cells slots Q (F0 m pc ls st0) := by
  intro T hT X
  obtain ⟨v, st₀, t, T', L, h0, X', hL, e1, -, ⟨r, hv, hp, hh⟩, st⟩ := hr T hT X
  cases hv
  obtain ⟨t2, a1, b1⟩ := kk r hp T' (by rw [e1, hh, h0]) (Stand.forget X' (fun q h => (hL q h).elim))
  exact ⟨t2, st t2 a1, b1⟩
end ZC
-- arrays of references by a list of what they hold
def zS (l : List (Option Nat)) : Nat → Option Nat := fun i => (l[i]?).getD none
theorem zS_up (l : List (Option Nat)) (k : Nat) (v : Option Nat) (h : k < l.length) : va_up (zS l) k v = zS (l.set k v) := by
  funext i
  unfold zS va_up
  by_cases e : i = k
  · subst e
    simp [h]
  · rw [if_neg e, List.getElem?_set_ne (fun q => e q.symm)]
theorem zS_none (n : Nat) : (fun _ => none : Nat → Option Nat) = zS (List.replicate n none) := by
  funext i
  unfold zS
  rw [List.getElem?_replicate]
  split <;> rfl
-- numbers by toInt
theorem z_lt {x y : Int32} {a b : Int} (hx : x.toInt = a) (hy : y.toInt = b) : x < y ↔ a < b := by rw [Int32.lt_iff_toInt_lt, hx, hy]
theorem z_le {x y : Int32} {a b : Int} (hx : x.toInt = a) (hy : y.toInt = b) : x ≤ y ↔ a ≤ b := by rw [Int32.le_iff_toInt_le, hx, hy]
theorem z_eq {x y : Int32} {a b : Int} (hx : x.toInt = a) (hy : y.toInt = b) : x = y ↔ a = b := by rw [← Int32.toInt_inj, hx, hy]
theorem z_add {x y : Int32} {a b : Int} (hx : x.toInt = a) (hy : y.toInt = b) (h1 : -2147483648 ≤ a + b) (h2 : a + b ≤ 2147483647) : (x + y).toInt = a + b := by
  rw [Int32.toInt_add, hx, hy]
  exact Int.bmod_eq_of_le (by omega) (by omega)
theorem z_sub {x y : Int32} {a b : Int} (hx : x.toInt = a) (hy : y.toInt = b) (h1 : -2147483648 ≤ a - b) (h2 : a - b ≤ 2147483647) : (x - y).toInt = a - b := by
  rw [Int32.toInt_sub, hx, hy]
  exact Int.bmod_eq_of_le (by omega) (by omega)
theorem z_mul {x y : Int32} {a b : Int} (hx : x.toInt = a) (hy : y.toInt = b) (h1 : -2147483648 ≤ a * b) (h2 : a * b ≤ 2147483647) : (x * y).toInt = a * b := by
  rw [Int32.toInt_mul, hx, hy]
  exact Int.bmod_eq_of_le (by omega) (by omega)
theorem z_in {x : Int32} {a : Int} {n : Nat} (hx : x.toInt = a) (h1 : 0 ≤ a) (h2 : a < n) : vp_in x n := vp_in_iff.mpr ⟨by rw [hx]; exact h1, by rw [hx]; exact h2⟩
theorem z_cl {x : Int32} {k : Nat} (hx : x.toInt = (k : Int)) : x.toNatClampNeg = k := by
  rw [Int32.toNatClampNeg, hx]
  exact Int.toNat_natCast k
theorem z_nI {x : Int32} {k : Nat} (hx : x.toInt = (k : Int)) : x = nI k := by
  have h : x.toInt < 2147483648 := by
    have := Int32.toInt_lt x
    omega
  exact Int32.toInt_inj.mp (by rw [hx, nI_toInt (by omega)])
-- new arrays, at the classes that are known
section ZN
variable {p : Program} {l : Launch} {e : Env} {R : Room} {s : State} {m : MethodId} {args : Array Value} {below : List Frame} {meth : Method} {c : Code} {H : Heap} {locs : List Loc} {cells slots : Nat} {Q : State → Prop}
variable {cc : ByteArray} {pc : Nat} {ls : Array Slot} {rest : List Value} {g : zG} {A : Nat → Prop} {a : Nat} {ws : va_W} {H0 : Heap}
theorem z_uniq {D : va_G} {cl : List vw_C} {tys : List (ClassId × FieldType)} {U : State} (hK : va_K D cl tys U) {i j : Nat} {x y : ClassId} {ty : FieldType} (hi : tys[i]? = some (x, ty)) (hj : tys[j]? = some (y, ty)) : x = y := by
  have h1 := (hK.2 i _ hi).2
  have h2 := (hK.2 j _ hj).2
  cases ty with
  | object C =>
    obtain ⟨-, -, -, -, -, q1⟩ := h1
    obtain ⟨-, -, -, -, -, q2⟩ := h2
    exact Option.some.inj (q1.symm.trans q2)
  | _ => exact Option.some.inj (Eq.trans (Eq.symm h1) h2)
theorem z_newI (hexec : p.tables.exec = Jvm.exec) (hb : c.code = cc) (harr : (Cond.arrayClass .int).before args s = true) (hK : zK g s) (hP : zP g ws H) (hD : va_D A ws) (hS : va_S A H0 H locs) (hA : ∀ q, H0.size ≤ q → A q)
    {n : Int32} {N' : Nat} (hn : ¬ n < 0) (hN : n.toNatClampNeg = N') (hbytes : N' * 4 ≤ 536870912) (hcells : cells + 1 ≤ R.cells) (hslots : slots + N' ≤ R.slots) (hdg : decode cc pc = .ok (.newarray .int, 2))
    (kk : ∀ (q : Nat) (H1 : Heap), zP g (ws ++ [(q, .inl (g.2 0, N', .inl (fun _ => 0)))]) H1 → va_D A (ws ++ [(q, .inl (g.2 0, N', .inl (fun _ => 0)))]) → va_S A H0 H1 locs →
      W p l e R s m args below meth c H1 locs (cells + 1) (slots + N') Q (F0 m (pc + 2) ls (.ref q :: rest))) : W p l e R s m args below meth c H locs cells slots Q (F0 m pc ls (.int n :: rest)) :=
  va_newa (atype := .int) hexec hb harr rfl hK hP hD hS hA (a0 := (N', .inl (fun _ => 0))) (fun _ => rfl) hn hN hbytes hcells hslots hdg (fun q cA H1 hK1 hP1 hD1 hS1 => by
    have e1 : cA = g.2 0 := z_uniq hK1 (i := 8) (j := 0) (ty := .int) rfl rfl
    subst e1
    exact kk q H1 hP1 hD1 hS1)
theorem z_newJ (hexec : p.tables.exec = Jvm.exec) (hb : c.code = cc) (harr : (Cond.arrayClass .long).before args s = true) (hK : zK g s) (hP : zP g ws H) (hD : va_D A ws) (hS : va_S A H0 H locs) (hA : ∀ q, H0.size ≤ q → A q)
    {n : Int32} {N' : Nat} (hn : ¬ n < 0) (hN : n.toNatClampNeg = N') (hbytes : N' * 8 ≤ 536870912) (hcells : cells + 1 ≤ R.cells) (hslots : slots + N' ≤ R.slots) (hdg : decode cc pc = .ok (.newarray .long, 2))
    (kk : ∀ (q : Nat) (H1 : Heap), zP g (ws ++ [(q, .inl (g.2 1, N', .inr (.inl (fun _ => 0))))]) H1 → va_D A (ws ++ [(q, .inl (g.2 1, N', .inr (.inl (fun _ => 0))))]) → va_S A H0 H1 locs →
      W p l e R s m args below meth c H1 locs (cells + 1) (slots + N') Q (F0 m (pc + 2) ls (.ref q :: rest))) : W p l e R s m args below meth c H locs cells slots Q (F0 m pc ls (.int n :: rest)) :=
  va_newa (atype := .long) hexec hb harr rfl hK hP hD hS hA (a0 := (N', .inr (.inl (fun _ => 0)))) (fun _ => rfl) hn hN hbytes hcells hslots hdg (fun q cA H1 hK1 hP1 hD1 hS1 => by
    have e1 : cA = g.2 1 := z_uniq hK1 (i := 8) (j := 1) (ty := .long) rfl rfl
    subst e1
    exact kk q H1 hP1 hD1 hS1)
/-- an array of references to objects of a class C, the k-th of the array types -/
theorem z_newQ (hexec : p.tables.exec = Jvm.exec) (hb : c.code = cc) {own C : String} {index : Nat} (k : Nat) (hown : s.vm.findClass own = some m.cls) (hclink : (Cond.classLink own index C).before args s = true) (hover : va_AO C s) (hK : zK g s) (hkt : (zT g)[k]? = some (g.2 k, .object C)) (hP : zP g ws H) (hD : va_D A ws) (hS : va_S A H0 H locs) (hA : ∀ q, H0.size ≤ q → A q)
    {n : Int32} {N' : Nat} (hn : ¬ n < 0) (hN : n.toNatClampNeg = N') (hbytes : N' * 4 ≤ 536870912) (hcells : cells + 1 ≤ R.cells) (hslots : slots + N' ≤ R.slots) (hdg : decode cc pc = .ok (.anewarray index, 3))
    (kk : ∀ (q : Nat) (H1 : Heap), zP g (ws ++ [(q, .inl (g.2 k, N', .inr (.inr (.inr (.inr (zS (List.replicate N' none)))))))]) H1 → va_D A (ws ++ [(q, .inl (g.2 k, N', .inr (.inr (.inr (.inr (zS (List.replicate N' none)))))))]) → va_S A H0 H1 locs →
      W p l e R s m args below meth c H1 locs (cells + 1) (slots + N') Q (F0 m (pc + 3) ls (.ref q :: rest))) : W p l e R s m args below meth c H locs cells slots Q (F0 m pc ls (.int n :: rest)) :=
  va_newq hexec hb hown hclink hover hK hP hD hS hA hn hN hbytes hcells hslots hdg (fun q cA H1 hK1 hP1 hD1 hS1 => by
    have e1 : cA = g.2 k := z_uniq hK1 (i := 8) (j := k) (ty := .object C) rfl (by
      rw [List.getElem?_append_left (List.getElem?_eq_some_iff.mp hkt).1]
      exact hkt)
    subst e1
    rw [zS_none N'] at hP1 hD1
    exact kk q H1 hP1 hD1 hS1)
end ZN
/-! new int[n][k]: the outer array, then its rows -/
theorem z_outer (c : ClassId) (N h0 : Nat) : ∀ i : Nat, Jvm.Free.Multi.outerC c N h0 i = arrV c N (fun j => va_rf (if j < i then some (h0 + 1 + j) else none))
  | 0 => by
    show ({ cls := c, slots := Array.replicate N .null, vm := .none } : Cell) = _
    rw [arrV_new]
    refine congrArg (arrV c N) (funext fun j => ?_)
    simp [va_rf]
  | i + 1 => by
    show (Jvm.Free.Multi.outerC c N h0 i).setSlot i (.ref (h0 + 1 + i)) = _
    rw [z_outer c N h0 i, arrV_store]
    refine congrArg (arrV c N) (funext fun j => ?_)
    by_cases e : j = i
    · subst e
      simp [updV, va_rf]
    · by_cases h : j < i
      · simp [updV, e, h, Nat.lt_succ_of_lt h]
      · simp [updV, e, h, show ¬ j < i + 1 by omega]
theorem z_outS (N q : Nat) : (fun j => if j < N then some (q + 1 + j) else none : Nat → Option Nat) = zS ((List.range N).map (fun i => some (q + 1 + i))) := by
  funext j
  unfold zS
  rw [List.getElem?_map]
  by_cases h : j < N
  · rw [if_pos h, List.getElem?_range h]
    rfl
  · rw [if_neg h, List.getElem?_eq_none (by rw [List.length_range]; omega)]
    rfl
section ZM
variable {p : Program} {l : Launch} {e : Env} {R : Room} {s : State} {m : MethodId} {args : Array Value} {below : List Frame} {meth : Method} {c : Code} {H : Heap} {locs : List Loc} {cells slots : Nat} {Q : State → Prop}
variable {cc : ByteArray} {pc : Nat} {ls : Array Slot} {rest : List Value} {g : zG} {A : Nat → Prop} {a : Nat} {ws : va_W} {H0 : Heap}
theorem z_mna (hexec : p.tables.exec = Jvm.exec) (hb : c.code = cc) {own : String} {index : Nat} (hown : s.vm.findClass own = some m.cls) (hclink : (Cond.classLink own index "[[I").before args s = true) (hN2 : zN s) (harr : (Cond.arrayClass .int).before args s = true)
    (hK : zK g s) (hP : zP g ws H) (hD : va_D A ws) (hS : va_S A H0 H locs) (hA : ∀ q, H0.size ≤ q → A q) {n k : Int32} {N' K' : Nat} (hn : ¬ n < 0) (hk : ¬ k < 0) (hN : n.toNatClampNeg = N') (hM : k.toNatClampNeg = K')
    (hb1 : N' * 4 ≤ 536870912) (hb2 : K' * 4 ≤ 536870912) (hb3 : K' ≤ 536870912) (hcells : cells + (1 + N') ≤ R.cells) (hslots : slots + (N' + N' * K') ≤ R.slots) (hdg : decode cc pc = .ok (.multianewarray index 2, 4))
    (kk : ∀ (q : Nat) (H1 : Heap), zP g (ws ++ ((q, .inl (g.2 7, N', .inr (.inr (.inr (.inr (zS ((List.range N').map (fun i => some (q + 1 + i))))))))) :: (List.range N').map (fun i => (q + 1 + i, .inl (g.2 0, K', .inl (fun _ => 0)))))) H1 →
      va_D A (ws ++ ((q, .inl (g.2 7, N', .inr (.inr (.inr (.inr (zS ((List.range N').map (fun i => some (q + 1 + i))))))))) :: (List.range N').map (fun i => (q + 1 + i, .inl (g.2 0, K', .inl (fun _ => 0)))))) → va_S A H0 H1 locs →
      W p l e R s m args below meth c H1 locs (cells + 1 + N') (slots + N' + N' * K') Q (F0 m (pc + 4) ls (.ref q :: rest))) : W p l e R s m args below meth c H locs cells slots Q (F0 m pc ls (.int k :: .int n :: rest)) := by
  subst hN
  subst hM
  intro T hT Xs
  have hstr : ("[" ++ (FieldType.array FieldType.int).toString) = "[[I" := by decide +kernel
  have hcy : s.vm.findClass (FieldType.array FieldType.int).toString = some (g.2 0) := (hK.2 0 _ rfl).2
  have hcz : s.vm.findClass ("[" ++ (FieldType.array FieldType.int).toString) = some (g.2 7) := (hK.2 7 _ rfl).2
  obtain ⟨vm₁, cA, comp, -, fA, fC, hO, -, X', step⟩ := Xs.multianewarray2F (ty := .int) hexec hown (by rw [hstr]; exact hclink) (zAOA.use hN2.2.2.2.2) harr (g := F0 m pc ls (.int k :: .int n :: rest)) rfl (by rw [hb]; exact hdg) rfl hn hk hb1 hb2 hb3 rfl rfl hcells hslots
  have ec : some (g.2 0) = some comp := hcy.symm.trans fC
  have ez : some (g.2 7) = some cA := hcz.symm.trans fA
  have ec := Option.some.inj ec
  have ez := Option.some.inj ez
  subst ec
  subst ez
  generalize hF : Jvm.Free.Multi.fill (T.setVm vm₁) (g.2 7) (g.2 0) n.toNatClampNeg k.toNatClampNeg (defaultValue .int) n.toNatClampNeg = F at X' step
  have hTh : (T.setVm vm₁).heap = H := hT
  obtain ⟨f1, f2, -, -⟩ := Jvm.Free.Multi.fill_facts (T.setVm vm₁) (g.2 7) (g.2 0) n.toNatClampNeg k.toNatClampNeg (defaultValue .int) n.toNatClampNeg
  rw [hF, hTh] at f1 f2
  have hold : ∀ x : Nat, x < H.size → F.heap[x]? = H[x]? := fun x hx => by
    have := Jvm.Free.Multi.fill_old (T.setVm vm₁) (g.2 7) (g.2 0) n.toNatClampNeg k.toNatClampNeg (defaultValue .int) (a := x) (by rw [hTh]; exact hx) n.toNatClampNeg
    rw [hF, hTh] at this
    exact this
  have hin : Jvm.Free.Multi.innerC (g.2 0) k.toNatClampNeg (defaultValue .int) = vp_cell (g.2 0) (k.toNatClampNeg, .inl (fun _ => 0)) := arrV_new (g.2 0) k.toNatClampNeg (.int 0)
  have hrow : ∀ j : Nat, j < n.toNatClampNeg → F.heap[H.size + 1 + j]? = some (vp_cell (g.2 0) (k.toNatClampNeg, .inl (fun _ => 0))) := fun j hj => by
    have := Jvm.Free.Multi.fill_inner (T.setVm vm₁) (g.2 7) (g.2 0) n.toNatClampNeg k.toNatClampNeg (defaultValue .int) n.toNatClampNeg j hj
    rw [hF, hTh, hin] at this
    exact this
  have hout : Jvm.Free.Multi.outerC (g.2 7) n.toNatClampNeg H.size n.toNatClampNeg = vp_cell (g.2 7) (n.toNatClampNeg, .inr (.inr (.inr (.inr (zS ((List.range n.toNatClampNeg).map (fun i => some (H.size + 1 + i)))))))) := by
    rw [vp_cell_q, ← z_outS]
    exact z_outer (g.2 7) n.toNatClampNeg H.size n.toNatClampNeg
  rw [hout] at f2
  have hP0 : zP g ws F.heap := hP.kept (fun k9 x hx => hold x.1 ((hP k9 x hx).lt))
  generalize hNW : ((H.size, .inl (g.2 7, n.toNatClampNeg, .inr (.inr (.inr (.inr (zS ((List.range n.toNatClampNeg).map (fun i => some (H.size + 1 + i))))))))) :: (List.range n.toNatClampNeg).map (fun i => ((H.size + 1 + i, .inl (g.2 0, k.toNatClampNeg, .inl (fun _ => 0))) : Nat × va_E)) : va_W) = nw
  have hnw : ∀ (k9 : Nat) (x : Nat × va_E), nw[k9]? = some x → x.1 = H.size + k9 ∧ va_at g.1 vwCl x F.heap := fun k9 x hx => by
    subst hNW
    cases k9 with
    | zero =>
      rw [List.getElem?_cons_zero] at hx
      cases hx
      exact ⟨rfl, f2⟩
    | succ k9 =>
      rw [List.getElem?_cons_succ, List.getElem?_map] at hx
      by_cases h9 : k9 < n.toNatClampNeg
      · rw [List.getElem?_range h9] at hx
        cases hx
        exact ⟨by show H.size + 1 + k9 = H.size + (k9 + 1); omega, hrow k9 h9⟩
      · have hn0 : (List.range n.toNatClampNeg)[k9]? = none := List.getElem?_eq_none (by rw [List.length_range]; omega)
        rw [hn0] at hx
        cases hx
  have hP1 : zP g (ws ++ nw) F.heap := hP0.app (fun k9 x hx => (hnw k9 x hx).2)
  have hD1 : va_D A (ws ++ nw) := by
    refine va_D.app hD ⟨fun i j x y hi hj hxy => ?_, fun k9 x hx => ?_⟩ (fun i j x y hi hj hxy => ?_)
    · have h1 := (hnw i x hi).1
      have h2 := (hnw j y hj).1
      omega
    · have h1 := (hnw k9 x hx).1
      have h2 := hS.1
      exact hA _ (by omega)
    · have h1 := (hP i x hi).lt
      have h2 := (hnw j y hj).1
      omega
  subst hNW
  obtain ⟨t, a1, b1⟩ := kk H.size F.heap hP1 hD1 ⟨by rw [f1]; have := hS.1; omega, fun x h1 h2 => (hold x (Nat.lt_of_lt_of_le h1 hS.1)).trans (hS.2.1 x h1 h2), hS.2.2⟩ F rfl X'
  refine ⟨t, step t ?_, b1⟩
  have e : T.heap.size = H.size := by rw [hT]
  rw [e]
  exact a1
end ZM
-- words: one list for all methods
def zGW : List Cond := lw_tbl.filter goodWord
abbrev zW (y : MethodName) (c : ByteArray) (n : Nat) (r : Option FieldType) : List Cond := Cond.code y c n r :: zGW
theorem zW.law {y : MethodName} {c : ByteArray} {n : Nat} {r : Option FieldType} {args : Array Value} {s : State} (h : ∀ w ∈ zW y c n r, w.before args s = true) : ∀ w ∈ zGW, w.before args s = true := fun w hw => h w (List.mem_cons_of_mem _ hw)
theorem z_good {w : Cond} (h : w ∈ zGW) : w ∈ zGW ∧ ((w.onTables && w.keeps) = true ∨ ∃ ty, w = .arrayClass ty) := ⟨h, good_of_word (List.mem_filter.mp h).2⟩
theorem z_gN {y : MethodName} {c : ByteArray} {n : Nat} {r : Option FieldType} (h : Cond.code y c n r ∈ zGW) : GoodIn zGW (zW y c n r) := fun w hw => by
  rcases List.mem_cons.mp hw with rfl | hw
  · exact z_good h
  · exact z_good hw
theorem z_gV {own C : String} {idx : Nat} {y : MethodName} {c : ByteArray} {n : Nat} {r : Option FieldType} (h1 : Cond.methodLink own idx y ∈ zGW) (h2 : Cond.instanceMethod y ∈ zGW) (h3 : Cond.selects C y y ∈ zGW) (h4 : Cond.initialized C ∈ zGW) (h : Cond.code y c n r ∈ zGW) : GoodIn zGW (wsV own idx C y (zW y c n r)) := fun w hw => by
  unfold wsV at hw
  rcases List.mem_append.mp hw with hw | hw
  · rcases List.mem_cons.mp hw with rfl | hw
    · exact z_good h1
    rcases List.mem_cons.mp hw with rfl | hw
    · exact z_good h2
    rcases List.mem_cons.mp hw with rfl | hw
    · exact z_good h3
    rcases List.mem_cons.mp hw with rfl | hw
    · exact z_good h4
    · exact absurd hw List.not_mem_nil
  · exact z_gN h w hw
theorem z_gS {own : String} {idx : Nat} {y : MethodName} {c : ByteArray} {n : Nat} {r : Option FieldType} (h1 : Cond.methodLink own idx y ∈ zGW) (h2 : Cond.static y ∈ zGW) (h4 : Cond.initialized y.cls ∈ zGW) (h : Cond.code y c n r ∈ zGW) : GoodIn zGW (va_wsS own idx y (zW y c n r)) := fun w hw => by
  unfold va_wsS at hw
  rcases List.mem_append.mp hw with hw | hw
  · rcases List.mem_cons.mp hw with rfl | hw
    · exact z_good h1
    rcases List.mem_cons.mp hw with rfl | hw
    · exact z_good h2
    rcases List.mem_cons.mp hw with rfl | hw
    · exact z_good h4
    · exact absurd hw List.not_mem_nil
  · exact z_gN h w hw
-- cases, places
theorem z_ofI {x y : Int32} {a : Int} (hx : x.toInt = a) (hy : y.toInt = a) : x = y := Int32.toInt_inj.mp (hx.trans hy.symm)
theorem z_c4 (x : Int32) (h1 : 0 ≤ x.toInt) (h2 : x.toInt < 4) : x = 0 ∨ x = 1 ∨ x = 2 ∨ x = 3 := by
  have h : x.toInt = 0 ∨ x.toInt = 1 ∨ x.toInt = 2 ∨ x.toInt = 3 := by omega
  rcases h with h | h | h | h
  · exact Or.inl (z_ofI h (by decide))
  · exact Or.inr (Or.inl (z_ofI h (by decide)))
  · exact Or.inr (Or.inr (Or.inl (z_ofI h (by decide))))
  · exact Or.inr (Or.inr (Or.inr (z_ofI h (by decide))))
theorem z_clt {x : Int32} {a : Int} {n : Nat} (hx : x.toInt = a) (h1 : 0 ≤ a) (h2 : a < n) : x.toNatClampNeg < n := by
  rw [z_cl (k := a.toNat) (by rw [hx]; omega)]
  omega
theorem z_clg {x : Int32} {a : Int} {n : Nat} (hx : x.toInt = a) (h2 : (n : Int) ≤ a) : n ≤ x.toNatClampNeg := by
  rw [z_cl (k := a.toNat) (by rw [hx]; omega)]
  omega
theorem z_rng (x : Int32) : -2147483648 ≤ x.toInt ∧ x.toInt ≤ 2147483647 := by
  have h1 := Int32.le_toInt x
  have h2 := Int32.toInt_lt x
  omega
theorem z_subw (x y : Int32) : (x - y).toInt = x.toInt - y.toInt ∨ (x - y).toInt = x.toInt - y.toInt + 4294967296 ∨ (x - y).toInt = x.toInt - y.toInt - 4294967296 := by
  rw [Int32.toInt_sub]
  have h1 := z_rng x
  have h2 := z_rng y
  unfold Int.bmod
  dsimp only
  split <;> omega
theorem z_w6 (x : Int32) : x = 0 ∨ x = 1 ∨ x = 2 ∨ x = 3 ∨ x = 4 ∨ x = 5 ∨ (x.toInt < 0 ∨ 5 < x.toInt) := by
  have h : x.toInt = 0 ∨ x.toInt = 1 ∨ x.toInt = 2 ∨ x.toInt = 3 ∨ x.toInt = 4 ∨ x.toInt = 5 ∨ (x.toInt < 0 ∨ 5 < x.toInt) := by omega
  rcases h with h | h | h | h | h | h | h
  · exact Or.inl (z_ofI h (by decide))
  · exact Or.inr (Or.inl (z_ofI h (by decide)))
  · exact Or.inr (Or.inr (Or.inl (z_ofI h (by decide))))
  · exact Or.inr (Or.inr (Or.inr (Or.inl (z_ofI h (by decide)))))
  · exact Or.inr (Or.inr (Or.inr (Or.inr (Or.inl (z_ofI h (by decide))))))
  · exact Or.inr (Or.inr (Or.inr (Or.inr (Or.inr (Or.inl (z_ofI h (by decide)))))))
  · exact Or.inr (Or.inr (Or.inr (Or.inr (Or.inr (Or.inr h)))))

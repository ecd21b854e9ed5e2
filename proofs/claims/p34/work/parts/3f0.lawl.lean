/-! the law's own walks: two towns and some arrays in one world -/
theorem zP_l {g : zG} {w1 w2 : va_W} {H : Heap} (h : zP g (w1 ++ w2) H) : zP g w1 H := fun k x hx => h k x (by rw [List.getElem?_append_left (List.getElem?_eq_some_iff.mp hx).1]; exact hx)
theorem zP_mem {g : zG} {w : va_W} {H : Heap} : zP g w H ↔ ∀ x, x ∈ w → va_at g.1 vwCl x H := ⟨fun h x hx => by
  obtain ⟨i, hi⟩ := List.getElem?_of_mem hx
  exact h i x hi, fun h k x hx => h x (List.mem_of_getElem? hx)⟩
theorem zD_nd {A : Nat → Prop} {w : va_W} : va_D A w ↔ (w.map Prod.fst).Nodup ∧ ∀ x, x ∈ w → A x.1 := by
  constructor
  · intro h
    refine ⟨?_, fun x hx => ?_⟩
    · rw [List.nodup_iff_pairwise_ne, List.pairwise_map, List.pairwise_iff_getElem]
      intro i j hi hj hij e
      have := h.1 i j _ _ (List.getElem?_eq_getElem hi) (List.getElem?_eq_getElem hj) e
      omega
    · obtain ⟨i, hi⟩ := List.getElem?_of_mem hx
      exact h.2 i x hi
  · intro h
    refine ⟨fun i j x y hx hy e => ?_, fun k x hx => h.2 x (List.mem_of_getElem? hx)⟩
    have h1 := h.1
    rw [List.nodup_iff_pairwise_ne, List.pairwise_map, List.pairwise_iff_getElem] at h1
    obtain ⟨a1, b1⟩ := List.getElem?_eq_some_iff.mp hx
    obtain ⟨a2, b2⟩ := List.getElem?_eq_some_iff.mp hy
    rcases Nat.lt_trichotomy i j with q | q | q
    · exact absurd (by rw [b1, b2]; exact e) (h1 i j a1 a2 q)
    · exact q
    · exact absurd (by rw [b1, b2]; exact e.symm) (h1 j i a2 a1 q)
theorem zP_perm {g : zG} {w1 w2 : va_W} {H : Heap} (e : w1.Perm w2) (h : zP g w1 H) : zP g w2 H := zP_mem.mpr fun x hx => zP_mem.mp h x (e.mem_iff.mpr hx)
theorem zD_perm {A : Nat → Prop} {w1 w2 : va_W} (e : w1.Perm w2) (h : va_D A w1) : va_D A w2 := by
  rw [zD_nd] at h ⊢
  exact ⟨(e.map Prod.fst).nodup_iff.mp h.1, fun x hx => h.2 x (e.mem_iff.mpr hx)⟩
theorem zD_l {A : Nat → Prop} {w1 w2 : va_W} (h : va_D A (w1 ++ w2)) : va_D A w1 := by
  have e : ∀ (k : Nat) (x : Nat × va_E), w1[k]? = some x → (w1 ++ w2)[k]? = some x := fun k x hx => by rw [List.getElem?_append_left (List.getElem?_eq_some_iff.mp hx).1]; exact hx
  exact ⟨fun i j x y hx hy hxy => h.1 i j x y (e i x hx) (e j y hy) hxy, fun k x hx => h.2 k x (e k x hx)⟩
/-- the town stands first -/
theorem pm_1 {E D F : va_W} : (E ++ (D ++ F)).Perm (D ++ (E ++ F)) := by
  rw [← List.append_assoc, ← List.append_assoc]
  exact List.Perm.append_right _ List.perm_append_comm
section LLC
variable {p : Program} {l : Launch} {e : Env} {R : Room} {s : State} {m : MethodId} {args : Array Value} {below : List Frame} {meth : Method} {c : Code} {H : Heap} {locs : List Loc} {cn sn pc : Nat} {ls : Array Slot} {S rest : List Value} {Q : State → Prop}
variable {g : zG} {A : Nat → Prop} {P1 : Nat → Bool} {ad : Nat → Nat} {ct : Nat → va_E} {E F : va_W} {y1 : MethodName} {cc1 : ByteArray} {mL1 : Nat} {rt1 : Option FieldType} {rm1 : Room} {K1 : (Nat → va_E) → Option Value → Prop} {av : List Value}
/-- a call on one town -/
theorem LC (hs : ∀ k, P1 k = true → pAll k = true) (h0 : rm1.cells = 0) (h1 : rm1.slots = 0) (hM : DM l g P1 false y1 cc1 mL1 rt1 rm1 K1 ct av)
    (hP : zP g (E ++ (dW pAll ad ct ++ F)) H) (hD : va_D A (E ++ (dW pAll ad ct ++ F))) (hS : va_S A s.heap H locs) (hA : ∀ q : Nat, s.heap.size ≤ q → A q)
    (run : zP g (dW P1 ad ct) H → va_D A (dW P1 ad ct) → ∀ (Qc : Array Value → State → Outcome → State → Prop) (free : Addr → Prop), Met l y1 (zW y1 cc1 mL1 rt1) rm1 (va_Pc (av.map (cv ad)) (zA g (dW P1 ad ct) H.size)) Qc rm1.cells rm1.slots free → va_Run p l e R s m args below meth c H locs cn sn rm1.cells rm1.slots (F0 m pc ls S) rest (Qc (av.map (cv ad)).toArray) free)
    (kk : ∀ (ct2 : Nat → va_E) (r : Option Value), K1 ct2 r → (∀ k, ¬ dIn P1 k → ct2 k = ct k) → ∀ (H1 : Heap) (locs1 : List Loc), zP g (E ++ (dW pAll ad ct2 ++ F)) H1 → va_D A (E ++ (dW pAll ad ct2 ++ F)) → va_S A s.heap H1 locs1 → W p l e R s m args below meth c H1 locs1 cn sn Q (F0 m (pc + 3) ls ((r.map (cv ad)).toList ++ rest))) : W p l e R s m args below meth c H locs cn sn Q (F0 m pc ls S) := by
  obtain ⟨σ1, r1, hK1, hoff1', hM⟩ := hM
  have hoff1 : ∀ k, ¬ dIn P1 k → σ1 k = ct k := fun k hk => hoff1' k hk (fun q => Bool.noConfusion q.1)
  have hPs := zP_perm (pm_1 (E := E) (D := dW pAll ad ct) (F := F)) hP
  have hDs := zD_perm (pm_1 (E := E) (D := dW pAll ad ct) (F := F)) hD
  have hPc := zP_l hPs
  have hDc := zD_l hDs
  have hr := run (dW_subP hs hPc) (dW_subD hs hDc) _ _ (hM ad H.size)
  intro T hT X
  obtain ⟨v, st₀, t, T', L, h0', X', hL, e1, e2, ⟨⟨hv, ad2, hadj, hadf, hP2, hD2⟩, hz, hk⟩, st⟩ := hr T hT X
  have had := hadf rfl
  subst had
  rw [h0'] at hz hk
  have hv := Outcome.returned.inj hv
  subst hv
  have hfr : ∀ q : Nat, va_A (dW P1 ad2 ct) H.size q → A q := fun q h => by
    rcases dW_A.mp h with ⟨k2, hk2, rfl⟩ | h
    · exact (dW_D.mp hDc).2 k2 ⟨hk2.1, hs k2 hk2.2⟩
    · exact hA q (Nat.le_trans hS.1 h)
  have hfa : ∀ q : Nat, va_A (dW pAll ad2 ct) H.size q → A q := fun q h => by
    rcases dW_A.mp h with ⟨k2, hk2, rfl⟩ | h
    · exact (dW_D.mp hDc).2 k2 hk2
    · exact hA q (Nat.le_trans hS.1 h)
  rw [← e1] at hP2 hz hk
  obtain ⟨hPn, hDn⟩ := dW_after hs hPc hDc hoff1 hk hP2
  have hD3 : va_D (va_A (dW pAll ad2 ct) H.size) (dW pAll ad2 σ1) := dW_D.mpr ⟨(dW_D.mp hDn).1, fun k hk => dW_A.mpr (Or.inl ⟨k, hk, rfl⟩)⟩
  obtain ⟨hPw, hDw⟩ := z_two hPs hDs (fun q q1 q2 => hk q q1 (fun z => q2 (by
    rcases dW_A.mp z with ⟨k2, hk2, z2⟩ | z
    · exact dW_A.mpr (Or.inl ⟨k2, ⟨hk2.1, hs k2 hk2.2⟩, z2⟩)
    · exact dW_A.mpr (Or.inr z)))) hfa hPn hD3
  have hSn : va_S A s.heap T'.heap (locs ++ L) := ⟨Nat.le_trans hS.1 hz, fun q g1 g2 => (hk q (Nat.lt_of_lt_of_le g1 hS.1) (fun z => g2 (hfr q z))).trans (hS.2.1 q g1 g2), fun q hq => by
    rcases List.mem_append.mp hq with h | h
    · exact hS.2.2 q h
    · exact hfr _ (hL q h)⟩
  rw [h0, h1] at X'
  obtain ⟨t2, a1, b1⟩ := kk σ1 r1 hK1 hoff1 T'.heap (locs ++ L) (zP_perm pm_1.symm hPw) (zD_perm pm_1.symm hDw) hSn T' rfl X'
  exact ⟨t2, st t2 a1, b1⟩
/-- a call on one town that may make a cell -/
theorem LCA (hM : DM l g pAll true y1 cc1 mL1 rt1 rm1 K1 ct av)
    (hP : zP g (E ++ (dW pAll ad ct ++ F)) H) (hD : va_D A (E ++ (dW pAll ad ct ++ F))) (hS : va_S A s.heap H locs) (hA : ∀ q : Nat, s.heap.size ≤ q → A q)
    (run : zP g (dW pAll ad ct) H → va_D A (dW pAll ad ct) → ∀ (Qc : Array Value → State → Outcome → State → Prop) (free : Addr → Prop), Met l y1 (zW y1 cc1 mL1 rt1) rm1 (va_Pc (av.map (cv ad)) (zA g (dW pAll ad ct) H.size)) Qc rm1.cells rm1.slots free → va_Run p l e R s m args below meth c H locs cn sn rm1.cells rm1.slots (F0 m pc ls S) rest (Qc (av.map (cv ad)).toArray) free)
    (kk : ∀ (ct2 : Nat → va_E) (r : Option Value) (ad2 : Nat → Nat), K1 ct2 r → (∀ j, j ≠ 20 → ad2 j = ad j) → ∀ (H1 : Heap) (locs1 : List Loc), zP g (E ++ (dW pAll ad2 ct2 ++ F)) H1 → va_D A (E ++ (dW pAll ad2 ct2 ++ F)) → va_S A s.heap H1 locs1 → W p l e R s m args below meth c H1 locs1 (cn + rm1.cells) (sn + rm1.slots) Q (F0 m (pc + 3) ls ((r.map (cv ad)).toList ++ rest))) : W p l e R s m args below meth c H locs cn sn Q (F0 m pc ls S) := by
  obtain ⟨σ1, r1, hK1, hoff1', hM⟩ := hM
  have hPs := zP_perm (pm_1 (E := E) (D := dW pAll ad ct) (F := F)) hP
  have hDs := zD_perm (pm_1 (E := E) (D := dW pAll ad ct) (F := F)) hD
  have hPc := zP_l hPs
  have hDc := zD_l hDs
  have hr := run hPc hDc _ _ (hM ad H.size)
  intro T hT X
  obtain ⟨v, st₀, t, T', L, h0', X', hL, e1, e2, ⟨⟨hv, ad2, hadj, hadf, hP2, hD2⟩, hz, hk⟩, st⟩ := hr T hT X
  rw [h0'] at hz hk
  have hv := Outcome.returned.inj hv
  subst hv
  have hfr : ∀ q : Nat, va_A (dW pAll ad ct) H.size q → A q := fun q h => by
    rcases dW_A.mp h with ⟨k2, hk2, rfl⟩ | h
    · exact (dW_D.mp hDc).2 k2 hk2
    · exact hA q (Nat.le_trans hS.1 h)
  rw [← e1] at hP2 hz hk
  obtain ⟨hPw, hDw⟩ := z_two hPs hDs hk hfr hP2 hD2
  have hSn : va_S A s.heap T'.heap (locs ++ L) := ⟨Nat.le_trans hS.1 hz, fun q g1 g2 => (hk q (Nat.lt_of_lt_of_le g1 hS.1) (fun z => g2 (hfr q z))).trans (hS.2.1 q g1 g2), fun q hq => by
    rcases List.mem_append.mp hq with h | h
    · exact hS.2.2 q h
    · exact hfr _ (hL q h)⟩
  obtain ⟨t2, a1, b1⟩ := kk σ1 r1 ad2 hK1 hadj T'.heap (locs ++ L) (zP_perm pm_1.symm hPw) (zD_perm pm_1.symm hDw) hSn T' rfl X'
  exact ⟨t2, st t2 a1, b1⟩
end LLC
theorem pm_2 {E D D2 : va_W} : (E ++ (D ++ D2)).Perm ((E ++ D) ++ (D2 ++ [])) := by
  rw [List.append_nil, List.append_assoc]

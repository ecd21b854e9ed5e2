-- what every contract says of sizes
theorem Met.post {l : Launch} {y : MethodName} {ws : List Cond} {rm : Room} {Pc : Array Value → State → Prop} {Qc Qc' : Array Value → State → Outcome → State → Prop} {mc ms : Nat} {free : Addr → Prop} (h : Met l y ws rm Pc Qc mc ms free)
    (hq : ∀ a s o t L, Pc a s → Qc a s o t → FrameEnd s o t L mc ms → Qc' a s o t) : Met l y ws rm Pc Qc' mc ms free := fun p e h1 h2 h3 s m args below h4 h5 hP hK => by
  obtain ⟨n, o, a1, a2, a3, hQ, L, hF, hL⟩ := h p e h1 h2 h3 s m args below h4 h5 hP hK
  exact ⟨n, o, a1, a2, a3, hq _ _ _ _ L hP hQ hF, L, hF, hL⟩
theorem Met.preS {l : Launch} {y : MethodName} {ws : List Cond} {rm : Room} {Pc Pc' : Array Value → State → Prop} {Qc : Array Value → State → Outcome → State → Prop} {mc ms : Nat} {free : Addr → Prop} (h : Met l y ws rm Pc Qc mc ms free)
    (hp : ∀ a s, Pc' a s → Pc a s) : Met l y ws rm Pc' Qc mc ms free := fun p e h1 h2 h3 s m args below h4 h5 hP hK => h p e h1 h2 h3 s m args below h4 h5 (hp _ _ hP) hK
def zst (ad : Nat → Nat) (ct : Nat → va_E) (H : Heap) : Prop := ∃ c : Cell, H[ad 20]? = some c ∧ c.slots.size = zlen (ct 20)
theorem z20_at {g : zG} {ad : Nat → Nat} {pe : Int32} {ct : Nat → va_E} {H : Heap} (hI : Inv8 g ad pe ct) (hP : zP g (zw 126 ad ct) H) : zst ad ct H := by
  obtain ⟨n, f, h1, h2, h3⟩ := a8_20 hI
  exact ⟨_, hP 20 _ (zw_at (by omega) h3), by rw [h3]; exact arrV_size _ _ _⟩
theorem zst.eq {g : zG} {ad : Nat → Nat} {pe : Int32} {ct ct2 : Nat → va_E} {H : Heap} (h : zst ad ct H) (hP : zP g (zw 126 ad ct2) H) (hI : Inv8 g ad pe ct2) : zlen (ct2 20) = zlen (ct 20) := by
  obtain ⟨c, h1, h2⟩ := h
  obtain ⟨c2, h3, h4⟩ := z20_at hI hP
  rw [h1] at h3
  cases h3
  omega
theorem zs_end {s t : State} {o : Outcome} {L : List Loc} {k n : Nat} (h : FrameEnd s o t L k n) {q : Nat} {c : Cell} (hc : s.heap[q]? = some c) : ∃ c2 : Cell, t.heap[q]? = some c2 ∧ c2.slots.size = c.slots.size := by
  obtain ⟨c2, h1, -, h2, -⟩ := h.2.2.2.2.2.2.2 q c hc
  exact ⟨c2, h1, h2⟩
theorem zs_frame {g : zG} {sz : Nat} {ad : Nat → Nat} {pe : Int32} {ct : Nat → va_E} {av : List Value} {a : Array Value} {s t : State} {o : Outcome} {L : List Loc} {k n : Nat} (hI : Inv8 g ad pe ct) (hp : va_Pc av (zA g (zw 126 ad ct) sz) a s) (h : FrameEnd s o t L k n) : zst ad ct t.heap := by
  obtain ⟨c, h1, h2⟩ := z20_at hI hp.2.2.1
  obtain ⟨c2, h3, h4⟩ := zs_end h h1
  exact ⟨c2, h3, h4.trans h2⟩
section ZS
variable {l : Launch} {y : MethodName} {ws : List Cond} {rm : Room} {g : zG} {sz : Nat} {ad : Nat → Nat} {pe : Int32} {ct : Nat → va_E} {av : List Value} {S : Type} {B : S → State → Prop} {A : Nat → Prop} {mc ms : Nat} {free : Addr → Prop}
theorem zs_i {post : Int32 → S → Prop} (hI : Inv8 g ad pe ct) (h : Met l y ws rm (va_Pc av (zA g (zw 126 ad ct) sz)) (va_Qi post B A) mc ms free) : Met l y ws rm (va_Pc av (zA g (zw 126 ad ct) sz)) (va_Qi post (fun u t => B u t ∧ zst ad ct t.heap) A) mc ms free :=
  h.post fun a s o t L hp hq hF => ⟨by obtain ⟨⟨r, u, h1, h2, h3⟩, -⟩ := hq; exact ⟨r, u, h1, h2, h3, zs_frame hI hp hF⟩, hq.2⟩
theorem zs_l {post : Int64 → S → Prop} (hI : Inv8 g ad pe ct) (h : Met l y ws rm (va_Pc av (zA g (zw 126 ad ct) sz)) (va_Ql post B A) mc ms free) : Met l y ws rm (va_Pc av (zA g (zw 126 ad ct) sz)) (va_Ql post (fun u t => B u t ∧ zst ad ct t.heap) A) mc ms free :=
  h.post fun a s o t L hp hq hF => ⟨by obtain ⟨⟨r, u, h1, h2, h3⟩, -⟩ := hq; exact ⟨r, u, h1, h2, h3, zs_frame hI hp hF⟩, hq.2⟩
theorem zs_v {post : S → Prop} (hI : Inv8 g ad pe ct) (h : Met l y ws rm (va_Pc av (zA g (zw 126 ad ct) sz)) (va_Qv post B A) mc ms free) : Met l y ws rm (va_Pc av (zA g (zw 126 ad ct) sz)) (va_Qv post (fun u t => B u t ∧ zst ad ct t.heap) A) mc ms free :=
  h.post fun a s o t L hp hq hF => ⟨by obtain ⟨⟨u, h1, h2, h3⟩, -⟩ := hq; exact ⟨u, h1, h2, h3, zs_frame hI hp hF⟩, hq.2⟩
end ZS
-- counters by the heap
def hsum (H : Heap) (a : Nat) : Nat := ((H.toList.drop a).map (fun c : Cell => c.slots.size)).sum
section WT
variable {p : Program} {l : Launch} {e : Env} {R : Room} {s : State} {m : MethodId} {args : Array Value} {below : List Frame} {meth : Method} {c : Code} {H : Heap} {locs : List Loc} {cells slots : Nat} {Q : State → Prop} {gg : JFrame}
theorem W.know (kk : s.heap.size ≤ H.size → H.size ≤ s.heap.size + cells → hsum H s.heap.size ≤ slots → W p l e R s m args below meth c H locs cells slots Q gg) : W p l e R s m args below meth c H locs cells slots Q gg := fun T hT X => by
  have h1 : s.heap.size ≤ T.heap.size := X.same.2.1
  have h2 : T.heap.size ≤ s.heap.size + cells := X.same.2.2.1
  have h3 : hsum T.heap s.heap.size ≤ slots := X.same.2.2.2.2.1
  rw [hT] at h1 h2 h3
  exact kk h1 h2 h3 T hT X
theorem W.tight {k n : Nat} (h1 : H.size ≤ s.heap.size + k) (h2 : hsum H s.heap.size ≤ n) (kk : W p l e R s m args below meth c H locs k n Q gg) : W p l e R s m args below meth c H locs cells slots Q gg := fun T hT X =>
  kk T hT { X with same := ⟨X.same.1, X.same.2.1, by rw [show (T.setVm s.vm).heap = H from hT]; exact h1, X.same.2.2.2.1, by rw [show (T.setVm s.vm).heap = H from hT]; exact h2, X.same.2.2.2.2.2⟩ }
end WT
theorem hsum_0 {H : Heap} {a : Nat} (h : H.size ≤ a) : hsum H a = 0 := by
  unfold hsum
  rw [List.drop_eq_nil_of_le (by rw [Array.length_toList]; exact h)]
  rfl
theorem hsum_1 {H : Heap} {a : Nat} {c : Cell} (hc : H[a]? = some c) : hsum H a = c.slots.size + hsum H (a + 1) := by
  have hlt : a < H.size := (Array.getElem?_eq_some_iff.mp hc).1
  unfold hsum
  rw [List.drop_eq_getElem_cons (by rw [Array.length_toList]; exact hlt)]
  rw [List.map_cons, List.sum_cons]
  have : H.toList[a]'(by rw [Array.length_toList]; exact hlt) = c := by
    have h2 := (Array.getElem?_eq_some_iff.mp hc).2
    rw [← h2]
    simp
  rw [this]
/-- cells keep their sizes: what was counted is counted again, and the new ones beside it -/
theorem hsum_grow {H H2 : Heap} (hs : ∀ (q : Nat) (c : Cell), H[q]? = some c → ∃ c2 : Cell, H2[q]? = some c2 ∧ c2.slots.size = c.slots.size) : ∀ (n a : Nat), H.size - a = n → a ≤ H.size → hsum H2 a = hsum H a + hsum H2 H.size := by
  intro n
  induction n with
  | zero =>
    intro a h1 h2
    have : a = H.size := by omega
    subst this
    rw [hsum_0 (Nat.le_refl _), Nat.zero_add]
  | succ n ih =>
    intro a h1 h2
    have hlt : a < H.size := by omega
    obtain ⟨c2, h3, h4⟩ := hs a H[a] (Array.getElem?_eq_getElem hlt)
    rw [hsum_1 h3, hsum_1 (Array.getElem?_eq_getElem hlt), ih (a + 1) (by omega) (by omega), h4]
    omega
theorem zP_lt {g : zG} {n : Nat} {ad : Nat → Nat} {ct : Nat → va_E} {H : Heap} (hP : zP g (zw n ad ct) H) {k : Nat} (hk : k < n) : ad k < H.size := (hP k _ (zw_at hk rfl)).lt
theorem z_newq {A : Nat → Prop} {sz n : Nat} {ad ad0 : Nat → Nat} {ct ct0 : Nat → va_E} {q : Nat} {e : va_E} (hA : va_A (zw n ad ct0) sz = A) (hD : va_D A (zw n ad ct ++ [(q, e)])) : sz ≤ q := by
  have hq : (zw n ad ct ++ [(q, e)])[n]? = some (q, e) := by rw [List.getElem?_append_right (by simp)]; simp
  have h := hD.2 n (q, e) hq
  rw [← hA] at h
  rcases h with ⟨k, e2, h⟩ | h
  · exfalso
    rw [List.getElem?_map] at h
    by_cases hk : k < n
    · rw [List.getElem?_range hk] at h
      have h2 : ad k = q := congrArg Prod.fst (Option.some.inj h)
      have := hD.1 k n (ad k, ct k) (q, e) (by rw [List.getElem?_append_left (by simp [hk])]; exact zw_at hk rfl) hq h2
      omega
    · rw [List.getElem?_eq_none (by simp; omega)] at h
      cases h
  · exact h
theorem zF_ad {ad ad2 : Nat → Nat} {b of st n : Nat} (h : ∀ i, i < n → ad (b + of + st * i) = ad2 (b + of + st * i)) : (fun i => if i < n then some (ad (b + of + st * i)) else none) = (fun i => if i < n then some (ad2 (b + of + st * i)) else none) := by
  funext i
  by_cases hi : i < n
  · rw [if_pos hi, if_pos hi, h i hi]
  · rw [if_neg hi, if_neg hi]
theorem kd8_rg {k : Nat} (hk : k < 126) : (kd8 k = k ∧ (k < 26 ∨ k = 34)) ∨ (kd8 k = 26 ∧ 26 ≤ k ∧ k < 34) ∨ (35 ≤ kd8 k ∧ 35 ≤ k) := by
  unfold kd8
  split
  · split <;> omega
  · split
    · omega
    · split
      · split <;> omega
      · omega
/-- the place of the one array that is made anew is another -/
theorem ok8_ad {g : zG} {ad ad2 : Nat → Nat} {pe : Int32} {k : Nat} {e : va_E} (hh : ∀ j, j ≠ 20 → ad j = ad2 j) (hk : k < 126) (hk2 : k ≠ 17) (h : ok8 g ad pe k e) : ok8 g ad2 pe k e := by
  unfold ok8 at h ⊢
  have hd := kd8_rg hk
  generalize kd8 k = d at h hd ⊢
  have e1 : zF1 ad 0 = zF1 ad2 0 := zF_ad fun i _ => hh _ (by omega)
  have e5 : zF5 ad 0 = zF5 ad2 0 := zF_ad fun i _ => hh _ (by omega)
  have e22 : zF22 ad 0 = zF22 ad2 0 := zF_ad fun i _ => hh _ (by omega)
  have e23 : zF23 ad 0 = zF23 ad2 0 := zF_ad fun i _ => hh _ (by omega)
  have e42 : 35 ≤ k → zF42 ad k = zF42 ad2 k := fun q => zF_ad fun i _ => hh _ (by omega)
  have h9 : ∀ j : Nat, ad (99 + 3 * j) = ad2 (99 + 3 * j) := fun j => hh _ (by omega)
  unfold okk8 at h ⊢
  split at h
  · simp only [hh (1) (by omega), hh (2) (by omega), hh (3) (by omega), hh (5) (by omega), hh (6) (by omega), hh (9) (by omega), hh (10) (by omega), hh (17) (by omega), hh (21) (by omega), hh (34) (by omega), h9] at h
    exact h
  · rw [e1] at h
    exact h
  · exact h
  · simp only [hh (4) (by omega)] at h
    exact h
  · exact h
  · rw [e5] at h
    exact h
  · simp only [hh (7) (by omega), hh (8) (by omega)] at h
    exact h
  · exact h
  · exact h
  · simp only [h9] at h
    exact h
  · simp only [hh (11) (by omega), hh (12) (by omega), hh (13) (by omega), hh (14) (by omega), hh (15) (by omega), hh (16) (by omega)] at h
    exact h
  · exact h
  · exact h
  · exact h
  · exact h
  · exact h
  · exact h
  · exact absurd rfl (show ¬ 17 = 17 from fun _ => hk2 (by omega))
  · exact h
  · exact h
  · exact h
  · simp only [hh (22) (by omega), hh (23) (by omega), hh (24) (by omega), hh (25) (by omega)] at h
    exact h
  · rw [e22] at h
    exact h
  · rw [e23] at h
    exact h
  · exact h
  · exact h
  · exact h
  · exact h
  · have hk3 : 35 ≤ k := by omega
    simp only [hh (k + 1) (by omega), hh (k + 2) (by omega), hh (k + 3) (by omega), hh (k + 4) (by omega)] at h
    exact h
  · exact h
  · exact h
  · exact h
  · exact h
  · have hk3 : 35 ≤ k := by omega
    simp only [hh (k + 1) (by omega), hh (k + 2) (by omega)] at h
    exact h
  · exact h
  · rw [e42 (by omega)] at h
    exact h
  · exact h
  · have hk3 : 35 ≤ k := by omega
    simp only [hh (k + 1) (by omega), hh (k + 2) (by omega)] at h
    exact h
  · exact h
  · exact h
  · exact h
theorem up8_ad {g : zG} {ad ad2 : Nat → Nat} {pe : Int32} {ct : Nat → va_E} {e : va_E} (hI : Inv8 g ad pe ct) (hh : ∀ j, j ≠ 20 → ad j = ad2 j) (h : ok8 g ad2 pe 17 e) : Inv8 g ad2 pe (va_up ct 17 e) := ⟨hI.1, fun j hj => by
  by_cases hk : j = 17
  · subst hk
    rw [va_up_self]
    exact h
  · rw [va_up_ne _ _ hk]
    exact ok8_ad hh hj hk (hI.2 j hj)⟩

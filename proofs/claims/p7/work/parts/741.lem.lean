def tieT (ad8 ad9 : Nat → Nat) : Prop := ∀ c i : Nat, c < 4 → i < 32 → zTr ad8 (1000 + 100 * (0 + 35 + 5 * c)) i = zTr ad9 (4000 + 32 * c) i
theorem tieT_0 {ad8 ad9 : Nat → Nat} (h8 : ∀ j, 126 ≤ j → ad8 j = 0) (h9 : ∀ j, 32 ≤ j → ad9 j = 0) : tieT ad8 ad9 := fun c i _ _ => by
  rw [zT_0 h8 (by omega), zT_0 h9 (by omega)]
theorem tieT_20 {ad8 ad2 ad9 : Nat → Nat} (h : ∀ j : Nat, j ≠ 20 → ad2 j = ad8 j) (hT : tieT ad8 ad9) : tieT ad2 ad9 := fun c i hc hi => by
  rw [← hT c i hc hi]
  unfold zTr
  rw [h _ (by omega)]
theorem gh_ag {ad ad2 : Nat → Nat} {k x : Nat} {u r : Int32} {C D : Prop} (hk : 1000 ≤ k) (g1 : u = 1 → ad2 = va_up ad k x) (g0 : u = 0 → ad2 = ad) (h : ((r = 1 ∧ C) ∨ (r = 0 ∧ D)) ∧ u = r) : ∀ j, j < 1000 → ad2 j = ad j := fun j hj => by
  obtain ⟨h, e⟩ := h
  rcases h with ⟨q, -⟩ | ⟨q, -⟩
  · rw [g1 (e.trans q), va_up_ne _ _ (by omega)]
  · rw [g0 (e.trans q)]
theorem zst_ag {ad ad2 : Nat → Nat} {ct : Nat → va_E} {H : Heap} (h : zst ad ct H) (e : ad2 20 = ad 20) : zst ad2 ct H := by
  unfold zst at h ⊢
  rw [e]
  exact h
theorem tieT_up {ad8 ad9 ad8b ad9b : Nat → Nat} {c nd up : Int32} {u8 u9 r8 r9 : Int32} {C8 C9 : Prop} (i8 : C8 → C9) (i9 : C9 → C8) (ic : C8 → (0 ≤ c.toInt ∧ c.toInt ≤ 3) ∧ 0 ≤ nd.toInt ∧ nd.toInt ≤ 31) (hT : tieT ad8 ad9)
    (h8 : ((r8 = 1 ∧ C8) ∨ (r8 = 0 ∧ ¬ C8)) ∧ u8 = r8) (a1 : u8 = 1 → ad8b = va_up ad8 (3 * (1000 + 100 * (0 + 35 + 5 * c.toInt.toNat) + nd.toInt.toNat) + 1) (up.toInt + 1).toNat) (a0 : u8 = 0 → ad8b = ad8)
    (h9 : ((r9 = 1 ∧ C9) ∨ (r9 = 0 ∧ ¬ C9)) ∧ u9 = r9) (b1 : u9 = 1 → ad9b = va_up ad9 (3 * (4000 + 32 * c.toInt.toNat + nd.toInt.toNat) + 1) (up.toInt + 1).toNat) (b0 : u9 = 0 → ad9b = ad9) : tieT ad8b ad9b := by
  obtain ⟨h8, e8⟩ := h8
  obtain ⟨h9, e9⟩ := h9
  rcases h8 with ⟨q8, w8⟩ | ⟨q8, w8⟩ <;> rcases h9 with ⟨q9, w9⟩ | ⟨q9, w9⟩
  · obtain ⟨c1, c2⟩ := ic w8
    rw [a1 (e8.trans q8), b1 (e9.trans q9)]
    intro k i hk hi
    have h := hT k i hk hi
    unfold zTr at h ⊢
    by_cases q : k = c.toInt.toNat ∧ i = nd.toInt.toNat
    · rw [q.1, q.2, va_up_self, va_up_self]
    · rw [va_up_ne _ _ (by omega), va_up_ne _ _ (by omega)]
      exact h
  · exact absurd (i8 w8) w9
  · exact absurd (i9 w9) w8
  · rw [a0 (e8.trans q8), b0 (e9.trans q9)]
    exact hT
theorem zP_l {g : zG} {w1 w2 : va_W} {H : Heap} (h : zP g (w1 ++ w2) H) : zP g w1 H := fun k x hx => h k x (by rw [List.getElem?_append_left (List.getElem?_eq_some_iff.mp hx).1]; exact hx)
theorem zP_r {g : zG} {w1 w2 : va_W} {H : Heap} (h : zP g (w1 ++ w2) H) : zP g w2 H := fun k x hx => h (w1.length + k) x (by rw [List.getElem?_append_right (by omega)]; rw [show w1.length + k - w1.length = k by omega]; exact hx)
theorem zD_l {A : Nat → Prop} {w1 w2 : va_W} (h : va_D A (w1 ++ w2)) : va_D A w1 := by
  have e : ∀ (k : Nat) (x : Nat × va_E), w1[k]? = some x → (w1 ++ w2)[k]? = some x := fun k x hx => by rw [List.getElem?_append_left (List.getElem?_eq_some_iff.mp hx).1]; exact hx
  exact ⟨fun i j x y hx hy hxy => h.1 i j x y (e i x hx) (e j y hy) hxy, fun k x hx => h.2 k x (e k x hx)⟩
theorem zD_r {A : Nat → Prop} {w1 w2 : va_W} (h : va_D A (w1 ++ w2)) : va_D A w2 := by
  have e : ∀ (k : Nat) (x : Nat × va_E), w2[k]? = some x → (w1 ++ w2)[w1.length + k]? = some x := fun k x hx => by rw [List.getElem?_append_right (by omega)]; rw [show w1.length + k - w1.length = k by omega]; exact hx
  exact ⟨fun i j x y hx hy hxy => by have := h.1 _ _ x y (e i x hx) (e j y hy) hxy; omega, fun k x hx => h.2 _ x (e k x hx)⟩
theorem z_at2 {w1 w2 : va_W} {k : Nat} {x : Nat × va_E} (hx : (w1 ++ w2)[k]? = some x) : w1[k]? = some x ∨ (w1.length ≤ k ∧ w2[k - w1.length]? = some x) := by
  by_cases h : k < w1.length
  · rw [List.getElem?_append_left h] at hx
    exact Or.inl hx
  · rw [List.getElem?_append_right (by omega)] at hx
    exact Or.inr ⟨by omega, hx⟩
theorem z_swapP {g : zG} {w1 w2 : va_W} {H : Heap} (h : zP g (w1 ++ w2) H) : zP g (w2 ++ w1) H := fun k x hx => by
  rcases z_at2 hx with q | ⟨-, q⟩
  · exact zP_r h k x q
  · exact zP_l h _ x q
theorem z_swapD {A : Nat → Prop} {w1 w2 : va_W} (h : va_D A (w1 ++ w2)) : va_D A (w2 ++ w1) := by
  have e1 : ∀ (k : Nat) (x : Nat × va_E), w1[k]? = some x → (w1 ++ w2)[k]? = some x := fun k x hx => by rw [List.getElem?_append_left (List.getElem?_eq_some_iff.mp hx).1]; exact hx
  have e2 : ∀ (k : Nat) (x : Nat × va_E), w2[k]? = some x → (w1 ++ w2)[w1.length + k]? = some x := fun k x hx => by rw [List.getElem?_append_right (by omega)]; rw [show w1.length + k - w1.length = k by omega]; exact hx
  have lt1 : ∀ (k : Nat) (x : Nat × va_E), w1[k]? = some x → k < w1.length := fun k x hx => (List.getElem?_eq_some_iff.mp hx).1
  refine ⟨fun i j x y hx hy hxy => ?_, fun k x hx => ?_⟩
  · rcases z_at2 hx with q1 | ⟨l1, q1⟩ <;> rcases z_at2 hy with q2 | ⟨l2, q2⟩
    · have := h.1 _ _ x y (e2 i x q1) (e2 j y q2) hxy
      omega
    · have := h.1 _ _ x y (e2 i x q1) (e1 _ y q2) hxy
      have := lt1 _ _ q2
      omega
    · have := h.1 _ _ x y (e1 _ x q1) (e2 j y q2) hxy
      have := lt1 _ _ q1
      omega
    · have := h.1 _ _ x y (e1 _ x q1) (e1 _ y q2) hxy
      omega
  · rcases z_at2 hx with q | ⟨-, q⟩
    · exact h.2 _ x (e2 k x q)
    · exact h.2 _ x (e1 _ x q)
/-- a contract with the heap at its start -/
theorem zg_i {l : Launch} {y : MethodName} {ws : List Cond} {rm : Room} {g : zG} {sz : Nat} {w : va_W} {av : List Value} {S : Type} {B : S → State → Prop} {A : Nat → Prop} {mc ms : Nat} {free : Addr → Prop} {post : Int32 → S → Prop}
    (h : Met l y ws rm (va_Pc av (zA g w sz)) (va_Qi post B A) mc ms free) (H0 : Heap) (_ : H0.size = sz) : Met l y ws rm (va_Pc av (fun U => U.heap = H0 ∧ zA g w sz U)) (va_Qi post (fun u t => B u t ∧ ∀ (q : Nat) (c : Cell), H0[q]? = some c → ∃ c2 : Cell, t.heap[q]? = some c2 ∧ c2.slots.size = c.slots.size) A) mc ms free :=
  (h.preS (Pc' := va_Pc av (fun U => U.heap = H0 ∧ zA g w sz U)) (fun a s hp => ⟨hp.1, hp.2.2⟩)).post fun a s o t L hp hq hF => ⟨by obtain ⟨⟨r, u, h1, h2, h3⟩, -⟩ := hq; exact ⟨r, u, h1, h2, h3, fun q c hc => zs_end hF (by rw [hp.2.1]; exact hc)⟩, hq.2⟩
theorem zA.preH {g : zG} {ws : va_W} {s : State} {H : Heap} {A : Nat → Prop} (av : List Value) (hP : zP g ws H) (hK : zK g s) (hD : va_D A ws) (hN : zN s) : FrameBlind (va_Pc av (fun U => U.heap = H ∧ zA g ws H.size U)) ∧ ∀ U : State, U.heap = H → s.WarmedH U.vm → va_Pc av (fun U => U.heap = H ∧ zA g ws H.size U) av.toArray U :=
  ⟨fun a U gg mk q => ⟨q.1, q.2.1, (zA.blind g ws H.size av a U gg mk ⟨q.1, q.2.2⟩).2⟩, fun U hU hW => ⟨rfl, hU, ((zA.pre av hP hK hD hN).2 U hU hW).2⟩⟩
/-- what the law has made so far, by how long the one array is that grows -/
def lwJ (kq nq z : Nat) : Prop := (∃ j : Nat, kq ≤ 400 + j ∧ 2 ^ j ≤ z) ∧ nq ≤ 210000 + 2 * z ∧ z ≤ 131072
theorem lwJ_b {kq nq z : Nat} (h : lwJ kq nq z) : kq ≤ 131472 ∧ nq ≤ 472144 := by
  obtain ⟨⟨j, h1, h2⟩, h3, h4⟩ := h
  have := Nat.lt_two_pow_self (n := j)
  omega
theorem lw_grow {g : zG} {ad8b : Nat → Nat} {pe : Int32} {ct8 ct8b : Nat → va_E} {H H1 : Heap} {a kq nq : Nat} (hJ : lwJ kq nq (zlen (ct8 20))) (k1 : a ≤ H.size) (k2 : H.size ≤ a + kq) (k3 : hsum H a ≤ nq) (hkeep : ∀ (q : Nat) (c : Cell), H[q]? = some c → ∃ c2 : Cell, H1[q]? = some c2 ∧ c2.slots.size = c.slots.size) (hP1 : zP g (zw 126 ad8b ct8b) H1) (hI : Inv8 g ad8b pe ct8b)
    (hgr : (H1.size = H.size ∧ zlen (ct8b 20) = zlen (ct8 20)) ∨ (H1.size = H.size + 1 ∧ ad8b 20 = H.size ∧ 2 * zlen (ct8 20) ≤ zlen (ct8b 20))) : ∃ kq2 nq2 : Nat, H1.size ≤ a + kq2 ∧ hsum H1 a ≤ nq2 ∧ lwJ kq2 nq2 (zlen (ct8b 20)) := by
  have hg := hsum_grow hkeep _ a rfl k1
  obtain ⟨n_q, f_q, q1, q2, q3⟩ := a8_20 hI
  have hz : zlen (ct8b 20) = n_q := by rw [q3]; rfl
  rcases hgr with ⟨g1, g2⟩ | ⟨g1, g2, g3⟩
  · refine ⟨kq, nq, by omega, ?_, by rw [g2]; exact hJ⟩
    have e0 : hsum H1 H.size = 0 := hsum_0 (by omega)
    rw [hg, e0]
    omega
  · have h20 := hP1 20 _ (zw_at (by omega) q3)
    replace h20 : H1[ad8b 20]? = _ := h20
    rw [g2] at h20
    obtain ⟨⟨j, j1, j2⟩, j3, j4⟩ := hJ
    have hs : hsum H1 H.size = n_q := by
      have e0 : hsum H1 (H.size + 1) = 0 := hsum_0 (by omega)
      rw [hsum_1 h20, e0]
      exact arrV_size _ _ _
    refine ⟨kq + 1, nq + n_q, by omega, by omega, ⟨j + 1, by omega, ?_⟩, by omega, by omega⟩
    rw [Nat.pow_succ]
    omega

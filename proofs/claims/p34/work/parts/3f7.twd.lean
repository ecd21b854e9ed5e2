/-! the law's town, as a function of the clean cells -/
def tX (L : Nat) (xs : Nat → Int32) : Int32 := if L = 0 then 0 else xs 0
def pvF (L : Nat) (xs : Nat → Int32) (p : Nat) : Int32 := if p + 1 < L then xs (p + 1) else 91 * nI p + tX L xs
def rvF (L : Nat) (xs : Nat → Int32) (p c : Nat) : Int32 := (pvF L xs p >>> (((4 : Int32) * nI c) &&& 31)) &&& (if c = 0 then 15 else if c = 1 then 7 else 3)
theorem rvF_rg {L : Nat} {xs : Nat → Int32} {p c : Nat} : 0 ≤ (rvF L xs p c).toInt ∧ (rvF L xs p c).toInt ≤ 15 := by
  unfold rvF
  split
  · have h := z_andr (x := pvF L xs p >>> (((4 : Int32) * nI c) &&& 31)) (y := 15) (by decide : (15 : Int32).toInt = 15) (by omega)
    omega
  · split
    · have h := z_andr (x := pvF L xs p >>> (((4 : Int32) * nI c) &&& 31)) (y := 7) (by decide : (7 : Int32).toInt = 7) (by omega)
      omega
    · have h := z_andr (x := pvF L xs p >>> (((4 : Int32) * nI c) &&& 31)) (y := 3) (by decide : (3 : Int32).toInt = 3) (by omega)
      omega
/-- whom the first book tells, as bytes -/
def bmS (f : Int32) : Nat → Int32 × Int32
  | 0 => (0, 0)
  | i + 1 => if i < 4 then ((bmS f i).1 ||| (((f + nI i) - (f + nI i) / 7 * 7) <<< ((24 - 8 * nI i) &&& 31)), (bmS f i).2) else ((bmS f i).1, ((f + nI i) - (f + nI i) / 7 * 7) <<< ((24 : Int32) &&& 31))
def fd5 (f0 : Nat → Int32) (a b c d e : Int32) : Nat → Int32 := apB (apB (apB (apB (apB f0 0 1 2 3 a) 4 5 6 7 b) 8 9 10 11 c) 12 13 14 15 d) 16 17 18 19 e
theorem fd5_at {f0 : Nat → Int32} {a b c d e : Int32} : fd5 f0 a b c d e 0 = bt a 24 ∧ fd5 f0 a b c d e 1 = bt a 16 ∧ fd5 f0 a b c d e 2 = bt a 8 ∧ fd5 f0 a b c d e 3 = bt a 0 ∧ fd5 f0 a b c d e 4 = bt b 24 := ⟨rfl, rfl, rfl, rfl, rfl⟩
def fdj (a b : Int32) (j : Nat) : Int32 := if j = 0 then bt a 24 else if j = 1 then bt a 16 else if j = 2 then bt a 8 else if j = 3 then bt a 0 else bt b 24
theorem fd5_j {f0 : Nat → Int32} {a b c d e : Int32} {j : Nat} (hj : j < 5) : fd5 f0 a b c d e j = fdj a b j := by
  obtain ⟨h0, h1, h2, h3, h4⟩ := fd5_at (f0 := f0) (a := a) (b := b) (c := c) (d := d) (e := e)
  match j, hj with
  | 0, _ => exact h0
  | 1, _ => exact h1
  | 2, _ => exact h2
  | 3, _ => exact h3
  | 4, _ => exact h4
  | n + 5, h => exact absurd h (by omega)
set_option maxRecDepth 20000 in
theorem bm_ok : ∀ f, f < 8 → ∀ n, n < 6 → ∀ j, j < n → (fdj (bmS (nI f) n).1 (bmS (nI f) n).2 j).toInt = (((f + j) % 7 : Nat) : Int) := by decide +kernel
set_option maxRecDepth 20000 in
theorem bm_2 : ∀ j, j < 4 → (fdj 16909060 0 j).toInt = ((j + 1 : Nat) : Int) := by decide +kernel
section TWD
variable (l : Launch) (g : zG) (L : Nat) (xs : Nat → Int32) (ct : Nat → va_E)
noncomputable def tw1 (c : Nat) : Nat → (Nat → va_E)
  | 0 => ct
  | v + 1 => (w_ux l g 0 (tw1 c v) (nI c) (nI v) ((16 : Int32) + nI v / (if c < 2 then 2 else 4))).1
noncomputable def tw2 (c : Nat) : Nat → (Nat → va_E)
  | 0 => ct
  | k + 1 => (w_ux l g 0 (tw2 c k) (nI c) (nI (16 + k)) ((24 : Int32) + (nI (16 + k) - 16) / 4)).1
end TWD
section TWE
variable (l : Launch) (g : zG) (L : Nat) (xs : Nat → Int32) (ct : Nat → va_E)
noncomputable def tw0 : Nat → (Nat → va_E)
  | 0 => ct
  | c + 1 => tw2 l g (tw1 l g (tw0 c) c 16) c 8
noncomputable def twp : Nat → (Nat → va_E)
  | 0 => tw0 l g ct 4
  | p + 1 => (w_px l g (nI p) (twp p) (rvF L xs p 0) (rvF L xs p 1) (rvF L xs p 2) (rvF L xs p 3)).1
def twN : Int32 := (2 : Int32) + (tX L xs &&& 3)
def twFi : Int32 := (tX L xs >>> ((6 : Int32) &&& 31)) &&& 7
noncomputable def TWN : Nat → va_E := (w_bx l g 7 (w_fdx l g 7 (twp l g L xs ct 7) (bmS (twFi L xs) (twN L xs).toInt.toNat).1 (bmS (twFi L xs) (twN L xs).toInt.toNat).2 0 0 0).1 (twN L xs) ((1 : Int32) + ((tX L xs >>> ((2 : Int32) &&& 31)) &&& 1)) ((tX L xs >>> ((3 : Int32) &&& 31)) &&& 3) ((1 : Int32) + ((tX L xs >>> ((5 : Int32) &&& 31)) &&& 1)) 2).1
end TWE
theorem pm_3 {w : va_W} {x : Nat × va_E} : (w ++ [x]).Perm (x :: w) := List.perm_append_comm (l₁ := w) (l₂ := [x])
/-- a script besides the world -/
def zB (g : zG) (ws : va_W) (b L : Nat) (xs : Nat → Int32) (sz : Nat) (U : State) : Prop := zA g ws sz U ∧ va_X b L xs U U.heap ∧ b < sz ∧ ¬ va_A ws sz b
theorem zB.pre {g : zG} {ws : va_W} {s : State} {H : Heap} {A : Nat → Prop} {b L : Nat} {xs : Nat → Int32} (av : List Value) (hP : zP g ws H) (hK : zK g s) (hD : va_D A ws) (hN : zN s) (hX : va_X b L xs s H) (hb : b < H.size) (hA : ¬ va_A ws H.size b) : FrameBlind (va_Pc av (zB g ws b L xs H.size)) ∧ ∀ U : State, U.heap = H → s.WarmedH U.vm → va_Pc av (zB g ws b L xs H.size) av.toArray U := by
  have h := zA.pre av hP hK hD hN
  refine ⟨fun a U gg mk q => ?_, fun U hU hW => ?_⟩
  · obtain ⟨q0, q1, q2, q3, q4⟩ := q
    exact ⟨q0, (zA.blind g ws H.size av a U gg mk ⟨q0, q1⟩).2, va_X.moved (u := U) (U := U.calling gg mk a) (Vm.Alike.refl U.vm) q2, q3, q4⟩
  · obtain ⟨r0, r1⟩ := h.2 U hU hW
    exact ⟨r0, r1, by rw [hU]; exact va_X.moved hW.alike hX, hb, hA⟩

/-! what the law's last rows ask, of any BOOK or none -/
section LQ
variable {l : Launch} {g : zG} {pe : Int32} {ct : Nat → va_E}
theorem lq_few (hI : Inv8 g idn pe ct) {b : Int32} (hb : 0 ≤ b.toInt ∧ b.toInt ≤ 3) : (qFew l g pe ct b 1).toInt = 0 ↔ 0 < (qGiv l g pe ct b 1).toInt := by
  by_cases h : b.toInt < (bkF ct).toInt
  · exact q_few hI hb h (by decide)
  · have e1 : qFew l g pe ct b 1 = -1 := by
      unfold qFew gBk
      rw [if_neg (fun q => h q.2.1)]
    have e2 : qGiv l g pe ct b 1 = -1 := by
      unfold qGiv
      rw [if_neg (fun q => h q.2.1)]
    rw [e1, e2]
    decide
theorem lq_found (hI : Inv8 g idn pe ct) {b i : Int32} (hb : 0 ≤ b.toInt ∧ b.toInt ≤ 3) (hi : 0 ≤ i.toInt ∧ i.toInt ≤ 7) (hs : 0 < (qGiv l g pe ct b 1).toInt) (hw : 0 ≤ (qStp l g pe ct b 1 i).toInt) (hf : ib (qStp l g pe ct b 1 8) i.toInt.toNat = true) : ∃ q, q < 16 ∧ qStp l g pe ct b 1 i = (1 : Int32) <<< (nI q &&& 31) ∧ qMust l g pe ct b i (nI q) 1 = 2 := by
  have ei : i = nI i.toInt.toNat := z_nI (by omega)
  by_cases h : b.toInt < (bkF ct).toInt
  · rw [ei] at hw ⊢
    exact q_found hI hb h (by decide) (by omega) hs hw hf
  · have e2 : qGiv l g pe ct b 1 = -1 := by
      unfold qGiv
      rw [if_neg (fun q => h q.2.1)]
    rw [e2] at hs
    exact absurd hs (by decide)
end LQ
theorem twN_rg {L : Nat} {xs : Nat → Int32} : 2 ≤ (twN L xs).toInt ∧ (twN L xs).toInt ≤ 5 := by
  unfold twN
  have h := z_andr (x := tX L xs) (y := 3) (by decide : (3 : Int32).toInt = 3) (by omega)
  rw [z_add (by decide : (2 : Int32).toInt = 2) rfl (by omega) (by omega)]
  omega
theorem pm_t1 {E D D2 : va_W} : (E ++ (D ++ D2)).Perm ((E ++ (D ++ [])) ++ D2) := by
  rw [List.append_nil, List.append_assoc]
theorem pm_t2 {E D D2 : va_W} : (E ++ (D ++ D2)).Perm ((E ++ (D2 ++ [])) ++ D) := by
  rw [List.append_nil, List.append_assoc]
  exact List.Perm.append_left _ List.perm_append_comm
theorem pm_al {E D D2 : va_W} : (E ++ (D ++ D2)).Perm (([] ++ (D ++ D2)) ++ E) := List.perm_append_comm
/-- a script lies there yet, and apart -/
theorem vaX_at {s : State} {b L : Nat} {xs : Nat → Int32} {A : Nat → Prop} {H : Heap} {locs : List Loc} (hX : va_X b L xs s s.heap) (hbl : b < s.heap.size) (hbA : ¬ A b) (hS : va_S A s.heap H locs) : va_X b L xs s H := hX.kept (hS.2.1 b hbl hbA)
theorem nb_at {A : Nat → Prop} {w : va_W} {b sz : Nat} (hF : ∀ q, va_A w sz q → A q) (hbA : ¬ A b) : ¬ va_A w sz b := fun h => hbA (hF b h)
theorem zb_askS {x y : Int32} {p : Nat} (hy : y.toInt = (p : Int)) (hp : p < 31) {r : Int32} (hr : r = (x >>> (y &&& 31)) &&& 1) : (r.toInt = 1 ∧ ib x p = true) ∨ (r.toInt = 0 ∧ ib x p = false) := by
  obtain rfl : y = nI p := z_nI hy
  have e1 : ∀ j, j < 31 → ((nI j &&& 31).toBitVec.smod 32).toNat = j := by decide +kernel
  have h1 : ∀ i, i < 32 → (1#32).getLsbD i = decide (i = 0) := by decide +kernel
  have hb : r.toBitVec = (x.toBitVec.sshiftRight p) &&& 1#32 := by
    subst hr
    rw [Int32.toBitVec_and, Int32.toBitVec_shiftRight]
    unfold BitVec.sshiftRight'
    rw [e1 p hp]
    rfl
  have hc : r.toBitVec = if ib x p = true then 1#32 else 0#32 := by
    rw [hb]
    apply BitVec.eq_of_getLsbD_eq
    intro i hi
    rw [BitVec.getLsbD_and, h1 i hi]
    by_cases h0 : i = 0
    · subst h0
      rw [BitVec.getLsbD_sshiftRight, if_pos (show p + 0 < 32 by omega)]
      show (!decide (32 ≤ 0) && ib x (p + 0) && decide (0 = 0)) = _
      rw [Nat.add_zero]
      cases ib x p <;> rfl
    · rw [show decide (i = 0) = false from decide_eq_false h0, Bool.and_false]
      split
      · rw [h1 i hi]
        exact (decide_eq_false h0).symm
      · exact BitVec.getLsbD_zero.symm
  cases h : ib x p with
  | true =>
    rw [h] at hc
    exact Or.inl ⟨by show r.toBitVec.toInt = 1; rw [hc]; rfl, rfl⟩
  | false =>
    rw [h] at hc
    exact Or.inr ⟨by show r.toBitVec.toInt = 0; rw [hc]; rfl, rfl⟩

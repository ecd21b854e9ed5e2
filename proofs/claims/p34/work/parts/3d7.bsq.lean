/-! bestSwap's iteration: its steps, and what it doesn't depend on -/
section BSQ
variable {l : Launch} {g : zG} {pe b k wh : Int32} {L L2 : Nat → Int32} {s : Int32 × Int32 × (Nat → va_E)}
theorem sisR_L (h : ∀ j, j < 8 → L j = L2 j) {ct : Nat → va_E} {i j c0 : Int32} : sisR l g pe ct b k i j c0 L = sisR l g pe ct b k i j c0 L2 := by
  unfold sisR
  rw [SLF_c (fun j hj => FTL_L (h j hj))]
theorem bs1_L (h : ∀ j, j < 8 → L j = L2 j) {c i j : Nat} : bs1 l g pe b k wh L c i j s = bs1 l g pe b k wh L2 c i j s := by
  unfold bs1
  rw [sisR_L h]
theorem bsj_L (h : ∀ j, j < 8 → L j = L2 j) {c i : Nat} : ∀ n, bsj l g pe b k wh L c i s n = bsj l g pe b k wh L2 c i s n
  | 0 => rfl
  | n + 1 => by
    show bs1 _ _ _ _ _ _ _ _ _ _ _ = bs1 _ _ _ _ _ _ _ _ _ _ _
    rw [bsj_L h n, bs1_L h]
theorem bsi_L (h : ∀ j, j < 8 → L j = L2 j) {c : Nat} : ∀ n, bsi l g pe b k wh L c s n = bsi l g pe b k wh L2 c s n
  | 0 => rfl
  | n + 1 => by
    show bsj _ _ _ _ _ _ _ _ _ _ _ = bsj _ _ _ _ _ _ _ _ _ _ _
    rw [bsi_L h n, bsj_L h]
theorem bsc_L (h : ∀ j, j < 8 → L j = L2 j) : ∀ n, bsc l g pe b k wh L s n = bsc l g pe b k wh L2 s n
  | 0 => rfl
  | n + 1 => by
    show bsi _ _ _ _ _ _ _ _ _ _ = bsi _ _ _ _ _ _ _ _ _ _
    rw [bsc_L h n, bsi_L h]
theorem bsj_st {c i j n : Nat} (e : i + 1 + n = j) : bsj l g pe b k wh L c i s (n + 1) = bs1 l g pe b k wh L c i j (bsj l g pe b k wh L c i s n) := by
  subst e
  rfl
theorem bs1_no {c i j : Nat} {r mo an : Int32} (ha : an = s.1) (hm : mo = s.2.1) (hr : r = sisR l g pe s.2.2 b k (nI i) (nI j) (nI c) L) (hn : ¬ mo.toInt < r.toInt) : an = (bs1 l g pe b k wh L c i j s).1 ∧ mo = (bs1 l g pe b k wh L c i j s).2.1 := by
  unfold bs1
  rw [← hr, ← hm, ← ha]
  exact ⟨(if_neg hn).symm, (if_neg hn).symm⟩
theorem bs1_yes {c i j : Nat} {r mo x : Int32} (hm : mo = s.2.1) (hr : r = sisR l g pe s.2.2 b k (nI i) (nI j) (nI c) L) (hn : mo.toInt < r.toInt) (hx : x = bsX wh (nI c) (nI i) (nI j) r) : x = (bs1 l g pe b k wh L c i j s).1 ∧ r = (bs1 l g pe b k wh L c i j s).2.1 := by
  unfold bs1
  rw [← hr, ← hm, hx]
  exact ⟨(if_pos hn).symm, (if_pos hn).symm⟩
theorem bs1_w {c i j : Nat} {vc vi vj : Int32} {ct1 ct2 : Nat → va_E} (h1 : ∀ q, ¬ dIn pM q → ct1 q = s.2.2 q) (h2 : ∀ q, ¬ dIn pM q → ct2 q = sisW l g pe ct1 b vi vj vc q) (ei : vi = nI i) (ej : vj = nI j) (ec : vc = nI c) : ∀ q, ¬ dIn pM q → ct2 q = (bs1 l g pe b k wh L c i j s).2.2 q := fun q hq => by
  subst ei ej ec
  rw [h2 q hq, sisW_c h1]
  rfl
end BSQ
section SWQ
variable (l : Launch) (g : zG) (pe : Int32) (ct : Nat → va_E)
noncomputable def bsF (b k wh : Int32) : Int32 × Int32 × (Nat → va_E) := bsc l g pe b k wh (LDF l g pe (cln g ct) b (eOpen l g pe (cln g ct) b)) (-2, -1, cln g ct) 4
noncomputable def qSwp (b k wh : Int32) : Int32 := if 0 ≤ b.toInt ∧ b.toInt < (bkF (cln g ct)).toInt ∧ 1 ≤ k.toInt ∧ k.toInt ≤ 16 ∧ 0 ≤ wh.toInt ∧ wh.toInt ≤ 3 then (bsF l g pe ct b k wh).1 else -1
noncomputable def qSwW (b k wh : Int32) : Nat → va_E := if 0 ≤ b.toInt ∧ b.toInt < (bkF (cln g ct)).toInt ∧ 1 ≤ k.toInt ∧ k.toInt ≤ 16 ∧ 0 ≤ wh.toInt ∧ wh.toInt ≤ 3 then (bsF l g pe ct b k wh).2.2 else cln g ct
end SWQ
theorem bsF_e {l : Launch} {g : zG} {pe : Int32} {ct : Nat → va_E} {b k wh : Int32} {L : Nat → Int32} (h : ∀ j, j < 8 → L j = LDF l g pe ct b (eOpen l g pe ct b) j) : bsc l g pe b k wh L (-2, -1, cln g ct) 4 = bsF l g pe ct b k wh := by
  unfold bsF
  exact bsc_L (fun j hj => by rw [h j hj, LDF_o cln_o, eOpen_o cln_o]) 4

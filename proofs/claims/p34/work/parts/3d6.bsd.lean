/-! bestSwap as an iteration: answer, most, what lies there -/
def bsX (wh c i j r : Int32) : Int32 := if wh.toInt = 0 then c else if wh.toInt = 1 then i else if wh.toInt = 2 then j else r
section BSD
variable (l : Launch) (g : zG) (pe : Int32) (b k wh : Int32) (L : Nat → Int32)
noncomputable def bs1 (c i j : Nat) (s : Int32 × Int32 × (Nat → va_E)) : Int32 × Int32 × (Nat → va_E) := (if s.2.1.toInt < (sisR l g pe s.2.2 b k (nI i) (nI j) (nI c) L).toInt then bsX wh (nI c) (nI i) (nI j) (sisR l g pe s.2.2 b k (nI i) (nI j) (nI c) L) else s.1, if s.2.1.toInt < (sisR l g pe s.2.2 b k (nI i) (nI j) (nI c) L).toInt then sisR l g pe s.2.2 b k (nI i) (nI j) (nI c) L else s.2.1, sisW l g pe s.2.2 b (nI i) (nI j) (nI c))
noncomputable def bsj (c i : Nat) (s : Int32 × Int32 × (Nat → va_E)) : Nat → Int32 × Int32 × (Nat → va_E)
  | 0 => s
  | n + 1 => bs1 l g pe b k wh L c i (i + 1 + n) (bsj c i s n)
noncomputable def bsi (c : Nat) (s : Int32 × Int32 × (Nat → va_E)) : Nat → Int32 × Int32 × (Nat → va_E)
  | 0 => s
  | i + 1 => bsj l g pe b k wh L c i (bsi c s i) (8 - (i + 1))
noncomputable def bsc (s : Int32 × Int32 × (Nat → va_E)) : Nat → Int32 × Int32 × (Nat → va_E)
  | 0 => s
  | c + 1 => bsi l g pe b k wh L c (bsc s c) 8
end BSD
theorem sisR_c {l : Launch} {g : zG} {pe : Int32} {ct ct2 : Nat → va_E} {b k i j c0 : Int32} {L : Nat → Int32} (h : ∀ q, ¬ dIn pM q → ct2 q = ct q) : sisR l g pe ct2 b k i j c0 L = sisR l g pe ct b k i j c0 L := by
  unfold sisR
  rw [wSwap_c h]
theorem sisW_c {l : Launch} {g : zG} {pe : Int32} {ct ct2 : Nat → va_E} {b i j c0 : Int32} (h : ∀ q, ¬ dIn pM q → ct2 q = ct q) : sisW l g pe ct2 b i j c0 = sisW l g pe ct b i j c0 := by
  unfold sisW
  rw [wSwap_c h]

set_option maxHeartbeats 4000000 in
set_option maxRecDepth 100000 in
theorem k_X9_factOf (l : Launch) (g : zG) (ad : Nat → Nat) (me : Int32) (ct : Nat → va_E) (ch : Int32) (hI : IR g ad me ct) : Met l yX9_factOf (zW yX9_factOf cX9_factOf 1 (some .int)) ({ frames := 0, cells := 0, slots := 0, locals := 0 }) (va_Pc [.int ch] (zR g (zw 32 ad ct))) (vp_Si (fun r : Int32 => ((r.toInt = -1 ∨ (0 ≤ r.toInt ∧ r.toInt ≤ 6 ∧ 0 ≤ ch.toInt))))) 0 0 (fun _ => False) := by
  refine Met.ofW (cc := cX9_factOf) (maxL := 1) (ret := (some .int)) (by decide) rfl ?_
  intro p e s m args below meth c s₁ B hml hv
  obtain ⟨rfl, hP, hK, hN⟩ := hv
  have hx := B.exec
  have hb := B.bytes
  have hr := B.returns
  have hg := zW.law (atoms_spec (ws := (zW yX9_factOf cX9_factOf 1 (some .int))) B.pre)
  have hown : s.vm.findClass RX9 = some m.cls := findClass_of_methodNamed B.named
  have hlocks := B.notSynchronized
  have hpe0 := hI.1.1
  have hl := lv_entry ([.int ch]) (n := 1) (Nat.le_of_ble_eq_true rfl)
  rw [lg_entry_eq]
  generalize (lg_sl ([.int ch]) ++ List.replicate (1 - (lg_sl ([.int ch])).length) Slot.unset).toArray = ls at hl ⊢
  have hl : lv_has ls 1 [(0, .int ch)] := hl
  have rg_ch := z_rng ch
  refine lv_iload_n hx hb dX9_factOf_0 rfl (lv_at hl 0 rfl) ?_
  rcases (show ch.toInt = 97 ∨ ch.toInt = 98 ∨ ch.toInt = 99 ∨ ch.toInt = 100 ∨ ch.toInt = 101 ∨ ch.toInt = 102 ∨ ch.toInt = 103 ∨ ch.toInt = 104 ∨ ch.toInt = 105 ∨ ch.toInt = 106 ∨ ch.toInt = 107 ∨ ch.toInt = 108 ∨ ch.toInt = 109 ∨ ch.toInt = 110 ∨ ch.toInt = 111 ∨ ch.toInt = 112 ∨ ch.toInt = 113 ∨ ch.toInt = 114 ∨ ch.toInt = 115 ∨ ch.toInt = 116 ∨ ch.toInt = 117 ∨ ch.toInt = 118 ∨ ch.toInt = 119 ∨ ch.toInt < 97 ∨ 119 < ch.toInt by omega) with hw1 | hw1 | hw1 | hw1 | hw1 | hw1 | hw1 | hw1 | hw1 | hw1 | hw1 | hw1 | hw1 | hw1 | hw1 | hw1 | hw1 | hw1 | hw1 | hw1 | hw1 | hw1 | hw1 | hw1
  · skip
    refine lv_tableIn (tgt := 108) (off := 107) hx hb dX9_factOf_1 (by omega) (by omega) (by rw [hw1]; rfl) (by decide) ?_
    refine lv_iconst (v := 0) hx hb dX9_factOf_108 (by decide) ?_
    have q2 : (0 : Int32).toInt = 0 := by decide
    exact W.iret (v := 0) hx hb hr (fun t ht hW => ⟨0, rfl, by omega, ht⟩) (fun q hq => by cases hq) dX9_factOf_109
  · skip
    refine lv_tableIn (tgt := 110) (off := 109) hx hb dX9_factOf_1 (by omega) (by omega) (by rw [hw1]; rfl) (by decide) ?_
    refine lv_iconst (v := 1) hx hb dX9_factOf_110 (by decide) ?_
    have q3 : (1 : Int32).toInt = 1 := by decide
    exact W.iret (v := 1) hx hb hr (fun t ht hW => ⟨1, rfl, by omega, ht⟩) (fun q hq => by cases hq) dX9_factOf_111
  · skip
    refine lv_tableIn (tgt := 112) (off := 111) hx hb dX9_factOf_1 (by omega) (by omega) (by rw [hw1]; rfl) (by decide) ?_
    refine lv_iconst (v := 2) hx hb dX9_factOf_112 (by decide) ?_
    have q4 : (2 : Int32).toInt = 2 := by decide
    exact W.iret (v := 2) hx hb hr (fun t ht hW => ⟨2, rfl, by omega, ht⟩) (fun q hq => by cases hq) dX9_factOf_113
  · skip
    refine lv_tableIn (tgt := 114) (off := 113) hx hb dX9_factOf_1 (by omega) (by omega) (by rw [hw1]; rfl) (by decide) ?_
    refine lv_iconst (v := 3) hx hb dX9_factOf_114 (by decide) ?_
    have q5 : (3 : Int32).toInt = 3 := by decide
    exact W.iret (v := 3) hx hb hr (fun t ht hW => ⟨3, rfl, by omega, ht⟩) (fun q hq => by cases hq) dX9_factOf_115
  · skip
    refine lv_tableIn (tgt := 123) (off := 122) hx hb dX9_factOf_1 (by omega) (by omega) (by rw [hw1]; rfl) (by decide) ?_
    refine lv_iconst (v := (-1)) hx hb dX9_factOf_123 (by decide) ?_
    have q6 : ((-1) : Int32).toInt = -1 := by decide
    exact W.iret (v := (-1)) hx hb hr (fun t ht hW => ⟨(-1), rfl, by omega, ht⟩) (fun q hq => by cases hq) dX9_factOf_124
  · skip
    refine lv_tableIn (tgt := 123) (off := 122) hx hb dX9_factOf_1 (by omega) (by omega) (by rw [hw1]; rfl) (by decide) ?_
    refine lv_iconst (v := (-1)) hx hb dX9_factOf_123 (by decide) ?_
    have q7 : ((-1) : Int32).toInt = -1 := by decide
    exact W.iret (v := (-1)) hx hb hr (fun t ht hW => ⟨(-1), rfl, by omega, ht⟩) (fun q hq => by cases hq) dX9_factOf_124
  · skip
    refine lv_tableIn (tgt := 123) (off := 122) hx hb dX9_factOf_1 (by omega) (by omega) (by rw [hw1]; rfl) (by decide) ?_
    refine lv_iconst (v := (-1)) hx hb dX9_factOf_123 (by decide) ?_
    have q8 : ((-1) : Int32).toInt = -1 := by decide
    exact W.iret (v := (-1)) hx hb hr (fun t ht hW => ⟨(-1), rfl, by omega, ht⟩) (fun q hq => by cases hq) dX9_factOf_124
  · skip
    refine lv_tableIn (tgt := 123) (off := 122) hx hb dX9_factOf_1 (by omega) (by omega) (by rw [hw1]; rfl) (by decide) ?_
    refine lv_iconst (v := (-1)) hx hb dX9_factOf_123 (by decide) ?_
    have q9 : ((-1) : Int32).toInt = -1 := by decide
    exact W.iret (v := (-1)) hx hb hr (fun t ht hW => ⟨(-1), rfl, by omega, ht⟩) (fun q hq => by cases hq) dX9_factOf_124
  · skip
    refine lv_tableIn (tgt := 123) (off := 122) hx hb dX9_factOf_1 (by omega) (by omega) (by rw [hw1]; rfl) (by decide) ?_
    refine lv_iconst (v := (-1)) hx hb dX9_factOf_123 (by decide) ?_
    have q10 : ((-1) : Int32).toInt = -1 := by decide
    exact W.iret (v := (-1)) hx hb hr (fun t ht hW => ⟨(-1), rfl, by omega, ht⟩) (fun q hq => by cases hq) dX9_factOf_124
  · skip
    refine lv_tableIn (tgt := 123) (off := 122) hx hb dX9_factOf_1 (by omega) (by omega) (by rw [hw1]; rfl) (by decide) ?_
    refine lv_iconst (v := (-1)) hx hb dX9_factOf_123 (by decide) ?_
    have q11 : ((-1) : Int32).toInt = -1 := by decide
    exact W.iret (v := (-1)) hx hb hr (fun t ht hW => ⟨(-1), rfl, by omega, ht⟩) (fun q hq => by cases hq) dX9_factOf_124
  · skip
    refine lv_tableIn (tgt := 123) (off := 122) hx hb dX9_factOf_1 (by omega) (by omega) (by rw [hw1]; rfl) (by decide) ?_
    refine lv_iconst (v := (-1)) hx hb dX9_factOf_123 (by decide) ?_
    have q12 : ((-1) : Int32).toInt = -1 := by decide
    exact W.iret (v := (-1)) hx hb hr (fun t ht hW => ⟨(-1), rfl, by omega, ht⟩) (fun q hq => by cases hq) dX9_factOf_124
  · skip
    refine lv_tableIn (tgt := 120) (off := 119) hx hb dX9_factOf_1 (by omega) (by omega) (by rw [hw1]; rfl) (by decide) ?_
    refine lv_bipush (v := 6) hx hb dX9_factOf_120 (by decide) ?_
    have q13 : (6 : Int32).toInt = 6 := by decide
    exact W.iret (v := 6) hx hb hr (fun t ht hW => ⟨6, rfl, by omega, ht⟩) (fun q hq => by cases hq) dX9_factOf_122
  · skip
    refine lv_tableIn (tgt := 123) (off := 122) hx hb dX9_factOf_1 (by omega) (by omega) (by rw [hw1]; rfl) (by decide) ?_
    refine lv_iconst (v := (-1)) hx hb dX9_factOf_123 (by decide) ?_
    have q14 : ((-1) : Int32).toInt = -1 := by decide
    exact W.iret (v := (-1)) hx hb hr (fun t ht hW => ⟨(-1), rfl, by omega, ht⟩) (fun q hq => by cases hq) dX9_factOf_124
  · skip
    refine lv_tableIn (tgt := 123) (off := 122) hx hb dX9_factOf_1 (by omega) (by omega) (by rw [hw1]; rfl) (by decide) ?_
    refine lv_iconst (v := (-1)) hx hb dX9_factOf_123 (by decide) ?_
    have q15 : ((-1) : Int32).toInt = -1 := by decide
    exact W.iret (v := (-1)) hx hb hr (fun t ht hW => ⟨(-1), rfl, by omega, ht⟩) (fun q hq => by cases hq) dX9_factOf_124
  · skip
    refine lv_tableIn (tgt := 123) (off := 122) hx hb dX9_factOf_1 (by omega) (by omega) (by rw [hw1]; rfl) (by decide) ?_
    refine lv_iconst (v := (-1)) hx hb dX9_factOf_123 (by decide) ?_
    have q16 : ((-1) : Int32).toInt = -1 := by decide
    exact W.iret (v := (-1)) hx hb hr (fun t ht hW => ⟨(-1), rfl, by omega, ht⟩) (fun q hq => by cases hq) dX9_factOf_124
  · skip
    refine lv_tableIn (tgt := 116) (off := 115) hx hb dX9_factOf_1 (by omega) (by omega) (by rw [hw1]; rfl) (by decide) ?_
    refine lv_iconst (v := 4) hx hb dX9_factOf_116 (by decide) ?_
    have q17 : (4 : Int32).toInt = 4 := by decide
    exact W.iret (v := 4) hx hb hr (fun t ht hW => ⟨4, rfl, by omega, ht⟩) (fun q hq => by cases hq) dX9_factOf_117
  · skip
    refine lv_tableIn (tgt := 123) (off := 122) hx hb dX9_factOf_1 (by omega) (by omega) (by rw [hw1]; rfl) (by decide) ?_
    refine lv_iconst (v := (-1)) hx hb dX9_factOf_123 (by decide) ?_
    have q18 : ((-1) : Int32).toInt = -1 := by decide
    exact W.iret (v := (-1)) hx hb hr (fun t ht hW => ⟨(-1), rfl, by omega, ht⟩) (fun q hq => by cases hq) dX9_factOf_124
  · skip
    refine lv_tableIn (tgt := 123) (off := 122) hx hb dX9_factOf_1 (by omega) (by omega) (by rw [hw1]; rfl) (by decide) ?_
    refine lv_iconst (v := (-1)) hx hb dX9_factOf_123 (by decide) ?_
    have q19 : ((-1) : Int32).toInt = -1 := by decide
    exact W.iret (v := (-1)) hx hb hr (fun t ht hW => ⟨(-1), rfl, by omega, ht⟩) (fun q hq => by cases hq) dX9_factOf_124
  · skip
    refine lv_tableIn (tgt := 123) (off := 122) hx hb dX9_factOf_1 (by omega) (by omega) (by rw [hw1]; rfl) (by decide) ?_
    refine lv_iconst (v := (-1)) hx hb dX9_factOf_123 (by decide) ?_
    have q20 : ((-1) : Int32).toInt = -1 := by decide
    exact W.iret (v := (-1)) hx hb hr (fun t ht hW => ⟨(-1), rfl, by omega, ht⟩) (fun q hq => by cases hq) dX9_factOf_124
  · skip
    refine lv_tableIn (tgt := 123) (off := 122) hx hb dX9_factOf_1 (by omega) (by omega) (by rw [hw1]; rfl) (by decide) ?_
    refine lv_iconst (v := (-1)) hx hb dX9_factOf_123 (by decide) ?_
    have q21 : ((-1) : Int32).toInt = -1 := by decide
    exact W.iret (v := (-1)) hx hb hr (fun t ht hW => ⟨(-1), rfl, by omega, ht⟩) (fun q hq => by cases hq) dX9_factOf_124
  · skip
    refine lv_tableIn (tgt := 123) (off := 122) hx hb dX9_factOf_1 (by omega) (by omega) (by rw [hw1]; rfl) (by decide) ?_
    refine lv_iconst (v := (-1)) hx hb dX9_factOf_123 (by decide) ?_
    have q22 : ((-1) : Int32).toInt = -1 := by decide
    exact W.iret (v := (-1)) hx hb hr (fun t ht hW => ⟨(-1), rfl, by omega, ht⟩) (fun q hq => by cases hq) dX9_factOf_124
  · skip
    refine lv_tableIn (tgt := 123) (off := 122) hx hb dX9_factOf_1 (by omega) (by omega) (by rw [hw1]; rfl) (by decide) ?_
    refine lv_iconst (v := (-1)) hx hb dX9_factOf_123 (by decide) ?_
    have q23 : ((-1) : Int32).toInt = -1 := by decide
    exact W.iret (v := (-1)) hx hb hr (fun t ht hW => ⟨(-1), rfl, by omega, ht⟩) (fun q hq => by cases hq) dX9_factOf_124
  · skip
    refine lv_tableIn (tgt := 118) (off := 117) hx hb dX9_factOf_1 (by omega) (by omega) (by rw [hw1]; rfl) (by decide) ?_
    refine lv_iconst (v := 5) hx hb dX9_factOf_118 (by decide) ?_
    have q24 : (5 : Int32).toInt = 5 := by decide
    exact W.iret (v := 5) hx hb hr (fun t ht hW => ⟨5, rfl, by omega, ht⟩) (fun q hq => by cases hq) dX9_factOf_119
  · skip
    refine lv_tableOut (tgt := 123) hx hb dX9_factOf_1 (by omega) (by decide) ?_
    refine lv_iconst (v := (-1)) hx hb dX9_factOf_123 (by decide) ?_
    have q25 : ((-1) : Int32).toInt = -1 := by decide
    exact W.iret (v := (-1)) hx hb hr (fun t ht hW => ⟨(-1), rfl, by omega, ht⟩) (fun q hq => by cases hq) dX9_factOf_124

section ZII
variable {p : Program} {l : Launch} {e : Env} {R : Room} {s : State} {m : MethodId} {args : Array Value} {below : List Frame} {meth : Method} {c : Code} {H : Heap} {locs : List Loc} {cells slots : Nat} {Q : State → Prop}
variable {cc : ByteArray} {pc : Nat} {ls : Array Slot} {rest : List Value} {D : va_G} {cl : List vw_C} {a : Nat} {tys : List (ClassId × FieldType)} {ws : va_W}
/-- a load from an array of int arrays -/
theorem z_aldII (hexec : p.tables.exec = Jvm.exec) (hb : c.code = cc) (hK : va_K D cl tys s) (hP : va_P D cl ws H) (q0 t0 : Nat) {cA : ClassId} {n : Nat} {f : Nat → Option Nat} (ha : ws[q0]? = some (a, .inl (cA, n, .inr (.inr (.inr (.inr f)))))) (ht : tys[t0]? = some (cA, .array .int)) {i : Int32} (hin : vp_in i n) (hdg : decode cc pc = .ok (.aaload, 1))
    (kk : W p l e R s m args below meth c H locs cells slots Q (F0 m (pc + 1) ls (va_rf (f i.toNatClampNeg) :: rest))) : W p l e R s m args below meth c H locs cells slots Q (F0 m pc ls (.int i :: .ref a :: rest)) := by
  have hlt : i.toNatClampNeg < n := Nat.not_le.mp fun q => hin (Or.inr q)
  exact W.aald (v := va_rf (f i.toNatClampNeg)) (ty := .array .int) hexec hb (hP q0 _ ha) ((hK.2 t0 _ ht).1 n (fun j => va_rf (f j))) rfl (fun q => by cases q) (by show ¬ (i < 0 ∨ (arrV _ _ _).slots.size ≤ _); rw [arrV_size]; exact hin) (by show (arrV _ _ _).slots[_]? = _; rw [arrV_read _ _ hlt]) rfl rfl hdg kk
end ZII
theorem z_nz {y : Int32} (h : ¬ y.toInt = 0) : ¬ y = 0 := fun q => h (by rw [q]; rfl)
/-- the people's number alone is changed -/
theorem ok8_pe {g : zG} {ad : Nat → Nat} {pe pe2 : Int32} {k : Nat} {e : va_E} (hk : k ≠ 0) (h : ok8 g ad pe k e) : ok8 g ad pe2 k e := by
  unfold ok8 at h ⊢
  have hd : kd8 k ≠ 0 := by
    unfold kd8
    split
    · split <;> omega
    · split
      · omega
      · split
        · split <;> omega
        · omega
  generalize kd8 k = d at h hd ⊢
  unfold okk8 at h ⊢
  split at h <;> first | exact absurd rfl hd | exact h
theorem up8_pe {g : zG} {ad : Nat → Nat} {pe pe2 : Int32} {ct : Nat → va_E} {e : va_E} (hI : Inv8 g ad pe ct) (hb : 0 ≤ pe2.toInt ∧ pe2.toInt ≤ 16) (h : ok8 g ad pe2 0 e) : Inv8 g ad pe2 (va_up ct 0 e) := ⟨hb, fun j hj => by
  by_cases hk : j = 0
  · subst hk
    rw [va_up_self]
    exact h
  · rw [va_up_ne _ _ hk]
    exact ok8_pe hk (hI.2 j hj)⟩

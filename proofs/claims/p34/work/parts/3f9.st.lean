theorem zS_F1 {ad : Nat → Nat} : zS [some (ad 35), some (ad 40), some (ad 45), some (ad 50)] = zF1 ad 0 := by
  funext i
  match i with
  | 0 => rfl
  | 1 => rfl
  | 2 => rfl
  | 3 => rfl
  | n + 4 =>
    show none = (if n + 4 < 4 then _ else none)
    rw [if_neg (by omega)]
theorem zS_F5 {ad : Nat → Nat} : zS [some (ad 55), some (ad 66), some (ad 77), some (ad 88)] = zF5 ad 0 := by
  funext i
  match i with
  | 0 => rfl
  | 1 => rfl
  | 2 => rfl
  | 3 => rfl
  | n + 4 =>
    show none = (if n + 4 < 4 then _ else none)
    rw [if_neg (by omega)]
theorem zS_F22 {ad : Nat → Nat} : zS [some (ad 26), some (ad 27), some (ad 28), some (ad 29)] = zF22 ad 0 := by
  funext i
  match i with
  | 0 => rfl
  | 1 => rfl
  | 2 => rfl
  | 3 => rfl
  | n + 4 =>
    show none = (if n + 4 < 4 then _ else none)
    rw [if_neg (by omega)]
theorem zS_F23 {ad : Nat → Nat} : zS [some (ad 30), some (ad 31), some (ad 32), some (ad 33)] = zF23 ad 0 := by
  funext i
  match i with
  | 0 => rfl
  | 1 => rfl
  | 2 => rfl
  | 3 => rfl
  | n + 4 =>
    show none = (if n + 4 < 4 then _ else none)
    rw [if_neg (by omega)]
theorem zS_F42 {ad : Nat → Nat} {k : Nat} : zS [some (ad (k + 1)), some (ad (k + 2)), some (ad (k + 3)), some (ad (k + 4)), some (ad (k + 5)), some (ad (k + 6)), some (ad (k + 7)), some (ad (k + 8))] = zF42 ad k := by
  funext i
  match i with
  | 0 => rfl
  | 1 => rfl
  | 2 => rfl
  | 3 => rfl
  | 4 => rfl
  | 5 => rfl
  | 6 => rfl
  | 7 => rfl
  | n + 8 =>
    show none = (if n + 8 < 8 then _ else none)
    rw [if_neg (by omega)]
def ctk8 (g : zG) (ad : Nat → Nat) (F : Nat → Nat → Int32) (kd k : Nat) : va_E := match kd with
  | 0 => .inr (8, [.ref (ad (1)), .ref (ad (2)), .ref (ad (3)), .ref (ad (5)), .ref (ad (6)), .ref (ad (9)), .ref (ad (10)), .ref (ad (17)), .ref (ad (21)), .ref (ad (34)), .ref (ad (99 + 3 * 8)), .int 0, .int 0])
  | 1 => .inl (g.2 4, 4, .inr (.inr (.inr (.inr (zS [some (ad 35), some (ad 40), some (ad 45), some (ad 50)])))))
  | 2 => .inl (g.2 0, 16, .inl (fun _ => 0))
  | 3 => .inr (7, [.int 0, .ref (ad (4))])
  | 4 => .inl (g.2 0, 200, .inl (fun _ => 0))
  | 5 => .inl (g.2 5, 4, .inr (.inr (.inr (.inr (zS [some (ad 55), some (ad 66), some (ad 77), some (ad 88)])))))
  | 6 => .inr (5, [.int 0, .ref (ad (7)), .ref (ad (8))])
  | 7 => .inl (g.2 0, 40, .inl (fun _ => 0))
  | 8 => .inl (g.2 0, 40, .inl (fun _ => 0))
  | 9 => .inl (g.2 6, 8, .inr (.inr (.inr (.inr (zS [some (ad 99), some (ad 102), some (ad 105), some (ad 108), some (ad 111), some (ad 114), some (ad 117), some (ad 120)])))))
  | 10 => .inr (6, [.int 0, .int 0, .int 0, .int 0, .ref (ad (11)), .ref (ad (12)), .ref (ad (13)), .ref (ad (14)), .ref (ad (15)), .ref (ad (16))])
  | 11 => .inl (g.2 0, 8, .inl (fun _ => 0))
  | 12 => .inl (g.2 0, 8, .inl (fun _ => 0))
  | 13 => .inl (g.2 0, 8, .inl (fun _ => 0))
  | 14 => .inl (g.2 0, 256, .inl (fun _ => 0))
  | 15 => .inl (g.2 1, 256, .inr (.inl (fun _ => 0)))
  | 16 => .inl (g.2 0, 8, .inl (fun _ => 0))
  | 17 => .inr (0, [.ref (ad (18)), .int 0, .ref (ad (19)), .ref (ad (20)), .int 1])
  | 18 => .inl (g.2 0, 128, .inl (fun _ => 0))
  | 19 => .inl (g.2 0, 17, .inl (fun _ => 0))
  | 20 => .inl (g.2 0, 1, .inl (fun _ => 0))
  | 21 => .inr (1, [.int (-1), .int 0, .int 0, .ref (ad (22)), .ref (ad (23)), .ref (ad (24)), .ref (ad (25))])
  | 22 => .inl (g.2 7, 4, .inr (.inr (.inr (.inr (zS [some (ad 26), some (ad 27), some (ad 28), some (ad 29)])))))
  | 23 => .inl (g.2 7, 4, .inr (.inr (.inr (.inr (zS [some (ad 30), some (ad 31), some (ad 32), some (ad 33)])))))
  | 24 => .inl (g.2 0, 4, .inl (fun _ => 0))
  | 25 => .inl (g.2 0, 4, .inl (fun _ => 0))
  | 26 => .inl (g.2 0, 40, .inl (fun _ => 0))
  | 34 => .inl (g.2 0, 7, .inl (fun _ => 0))
  | 35 => .inr (3, [.int 1, .ref (ad (k + 1)), .ref (ad (k + 2)), .ref (ad (k + 3)), .ref (ad (k + 4)), .int 0])
  | 36 => .inl (g.2 0, 32, .inl (F k))
  | 37 => .inl (g.2 0, 33, .inl (F k))
  | 38 => .inl (g.2 0, 33, .inl (fun _ => 0))
  | 39 => .inl (g.2 0, 16, .inl (fun _ => 0))
  | 40 => .inr (2, [.int 0, .int 0, .int 1, .ref (ad (k + 1)), .ref (ad (k + 2))])
  | 41 => .inl (g.2 0, 8, .inl (fun _ => 0))
  | 42 => .inl (g.2 7, 8, .inr (.inr (.inr (.inr (zS [some (ad (k + 1)), some (ad (k + 2)), some (ad (k + 3)), some (ad (k + 4)), some (ad (k + 5)), some (ad (k + 6)), some (ad (k + 7)), some (ad (k + 8))])))))
  | 43 => .inl (g.2 0, 4, .inl (fun _ => 0))
  | 44 => .inr (4, [.int 0, .int (-1), .int 0, .int 0, .int 0, .int (-1), .ref (ad (k + 1)), .ref (ad (k + 2)), .int 0, .int 0, .int 0])
  | 45 => .inl (g.2 0, 7, .inl (fun _ => 0))
  | 46 => .inl (g.2 0, 100, .inl (fun _ => 0))
  | _ => .inr (0, [])
def cts8 (g : zG) (ad : Nat → Nat) (F : Nat → Nat → Int32) (k : Nat) : va_E := ctk8 g ad F (kd8 k) k
theorem st8_0 {g : zG} {ad : Nat → Nat} {F : Nat → Nat → Int32} (k : Nat) : okk8 g ad 0 0 k (ctk8 g ad F 0 k) := ⟨0, 8, by decide, by decide, by decide, rfl⟩
theorem st8_1 {g : zG} {ad : Nat → Nat} {F : Nat → Nat → Int32} (k : Nat) : okk8 g ad 0 1 k (ctk8 g ad F 1 k) := by
    show Sum.inl (g.2 4, 4, _) = Sum.inl (g.2 4, 4, _)
    rw [zS_F1]
theorem st8_2 {g : zG} {ad : Nat → Nat} {F : Nat → Nat → Int32} (k : Nat) : okk8 g ad 0 2 k (ctk8 g ad F 2 k) := ⟨_, rfl⟩
theorem st8_3 {g : zG} {ad : Nat → Nat} {F : Nat → Nat → Int32} (k : Nat) : okk8 g ad 0 3 k (ctk8 g ad F 3 k) := ⟨0, by decide, by decide, rfl⟩
theorem st8_4 {g : zG} {ad : Nat → Nat} {F : Nat → Nat → Int32} (k : Nat) : okk8 g ad 0 4 k (ctk8 g ad F 4 k) := ⟨_, rfl⟩
theorem st8_5 {g : zG} {ad : Nat → Nat} {F : Nat → Nat → Int32} (k : Nat) : okk8 g ad 0 5 k (ctk8 g ad F 5 k) := by
    show Sum.inl (g.2 5, 4, _) = Sum.inl (g.2 5, 4, _)
    rw [zS_F5]
theorem st8_6 {g : zG} {ad : Nat → Nat} {F : Nat → Nat → Int32} (k : Nat) : okk8 g ad 0 6 k (ctk8 g ad F 6 k) := ⟨0, by decide, by decide, rfl⟩
theorem st8_7 {g : zG} {ad : Nat → Nat} {F : Nat → Nat → Int32} (k : Nat) : okk8 g ad 0 7 k (ctk8 g ad F 7 k) := ⟨_, rfl⟩
theorem st8_8 {g : zG} {ad : Nat → Nat} {F : Nat → Nat → Int32} (k : Nat) : okk8 g ad 0 8 k (ctk8 g ad F 8 k) := ⟨_, rfl⟩
theorem st8_9 {g : zG} {ad : Nat → Nat} {F : Nat → Nat → Int32} (k : Nat) : okk8 g ad 0 9 k (ctk8 g ad F 9 k) := ⟨_, fun i hi => by
    match i, hi with
    | 0, _ => exact ⟨0, by decide, rfl⟩
    | 1, _ => exact ⟨1, by decide, rfl⟩
    | 2, _ => exact ⟨2, by decide, rfl⟩
    | 3, _ => exact ⟨3, by decide, rfl⟩
    | 4, _ => exact ⟨4, by decide, rfl⟩
    | 5, _ => exact ⟨5, by decide, rfl⟩
    | 6, _ => exact ⟨6, by decide, rfl⟩
    | 7, _ => exact ⟨7, by decide, rfl⟩
    | n + 8, h => exact absurd h (by omega), rfl⟩
theorem st8_10 {g : zG} {ad : Nat → Nat} {F : Nat → Nat → Int32} (k : Nat) : okk8 g ad 0 10 k (ctk8 g ad F 10 k) := ⟨0, 0, 0, 0, by decide, by decide, by decide, by decide, rfl⟩
theorem st8_11 {g : zG} {ad : Nat → Nat} {F : Nat → Nat → Int32} (k : Nat) : okk8 g ad 0 11 k (ctk8 g ad F 11 k) := ⟨_, rfl⟩
theorem st8_12 {g : zG} {ad : Nat → Nat} {F : Nat → Nat → Int32} (k : Nat) : okk8 g ad 0 12 k (ctk8 g ad F 12 k) := ⟨_, fun j _ => by show _ ≤ (0 : Int32).toInt ∧ (0 : Int32).toInt ≤ _; decide, rfl⟩
theorem st8_13 {g : zG} {ad : Nat → Nat} {F : Nat → Nat → Int32} (k : Nat) : okk8 g ad 0 13 k (ctk8 g ad F 13 k) := ⟨_, fun j _ => by show _ ≤ (0 : Int32).toInt ∧ (0 : Int32).toInt ≤ _; decide, rfl⟩
theorem st8_14 {g : zG} {ad : Nat → Nat} {F : Nat → Nat → Int32} (k : Nat) : okk8 g ad 0 14 k (ctk8 g ad F 14 k) := ⟨_, fun j _ _ => rfl, rfl⟩
theorem st8_15 {g : zG} {ad : Nat → Nat} {F : Nat → Nat → Int32} (k : Nat) : okk8 g ad 0 15 k (ctk8 g ad F 15 k) := ⟨_, rfl⟩
theorem st8_16 {g : zG} {ad : Nat → Nat} {F : Nat → Nat → Int32} (k : Nat) : okk8 g ad 0 16 k (ctk8 g ad F 16 k) := ⟨_, rfl⟩
theorem st8_17 {g : zG} {ad : Nat → Nat} {F : Nat → Nat → Int32} (k : Nat) : okk8 g ad 0 17 k (ctk8 g ad F 17 k) := ⟨0, 1, by decide, by decide, rfl⟩
theorem st8_18 {g : zG} {ad : Nat → Nat} {F : Nat → Nat → Int32} (k : Nat) : okk8 g ad 0 18 k (ctk8 g ad F 18 k) := ⟨_, rfl⟩
theorem st8_19 {g : zG} {ad : Nat → Nat} {F : Nat → Nat → Int32} (k : Nat) : okk8 g ad 0 19 k (ctk8 g ad F 19 k) := ⟨_, rfl⟩
theorem st8_20 {g : zG} {ad : Nat → Nat} {F : Nat → Nat → Int32} (k : Nat) : okk8 g ad 0 20 k (ctk8 g ad F 20 k) := ⟨1, _, by decide, by decide, rfl⟩
theorem st8_21 {g : zG} {ad : Nat → Nat} {F : Nat → Nat → Int32} (k : Nat) : okk8 g ad 0 21 k (ctk8 g ad F 21 k) := ⟨(-1), 0, 0, by decide, by decide, rfl⟩
theorem st8_22 {g : zG} {ad : Nat → Nat} {F : Nat → Nat → Int32} (k : Nat) : okk8 g ad 0 22 k (ctk8 g ad F 22 k) := by
    show Sum.inl (g.2 7, 4, _) = Sum.inl (g.2 7, 4, _)
    rw [zS_F22]
theorem st8_23 {g : zG} {ad : Nat → Nat} {F : Nat → Nat → Int32} (k : Nat) : okk8 g ad 0 23 k (ctk8 g ad F 23 k) := by
    show Sum.inl (g.2 7, 4, _) = Sum.inl (g.2 7, 4, _)
    rw [zS_F23]
theorem st8_24 {g : zG} {ad : Nat → Nat} {F : Nat → Nat → Int32} (k : Nat) : okk8 g ad 0 24 k (ctk8 g ad F 24 k) := ⟨_, rfl⟩
theorem st8_25 {g : zG} {ad : Nat → Nat} {F : Nat → Nat → Int32} (k : Nat) : okk8 g ad 0 25 k (ctk8 g ad F 25 k) := ⟨_, fun j _ => by show _ ≤ (0 : Int32).toInt ∧ (0 : Int32).toInt ≤ _; decide, rfl⟩
theorem st8_26 {g : zG} {ad : Nat → Nat} {F : Nat → Nat → Int32} (k : Nat) : okk8 g ad 0 26 k (ctk8 g ad F 26 k) := ⟨_, rfl⟩
theorem st8_34 {g : zG} {ad : Nat → Nat} {F : Nat → Nat → Int32} (k : Nat) : okk8 g ad 0 34 k (ctk8 g ad F 34 k) := ⟨_, rfl⟩
theorem st8_35 {g : zG} {ad : Nat → Nat} {F : Nat → Nat → Int32} (k : Nat) : okk8 g ad 0 35 k (ctk8 g ad F 35 k) := ⟨1, 0, by decide, by decide, rfl⟩
theorem st8_36 {g : zG} {ad : Nat → Nat} {F : Nat → Nat → Int32} (k : Nat) : okk8 g ad 0 36 k (ctk8 g ad F 36 k) := ⟨_, rfl⟩
theorem st8_37 {g : zG} {ad : Nat → Nat} {F : Nat → Nat → Int32} (k : Nat) : okk8 g ad 0 37 k (ctk8 g ad F 37 k) := ⟨_, rfl⟩
theorem st8_38 {g : zG} {ad : Nat → Nat} {F : Nat → Nat → Int32} (k : Nat) : okk8 g ad 0 38 k (ctk8 g ad F 38 k) := ⟨_, rfl⟩
theorem st8_39 {g : zG} {ad : Nat → Nat} {F : Nat → Nat → Int32} (k : Nat) : okk8 g ad 0 39 k (ctk8 g ad F 39 k) := ⟨_, rfl⟩
theorem st8_40 {g : zG} {ad : Nat → Nat} {F : Nat → Nat → Int32} (k : Nat) : okk8 g ad 0 40 k (ctk8 g ad F 40 k) := ⟨0, 0, 1, by decide, by decide, by decide, by decide, Or.inr rfl, by decide, rfl⟩
theorem st8_41 {g : zG} {ad : Nat → Nat} {F : Nat → Nat → Int32} (k : Nat) : okk8 g ad 0 41 k (ctk8 g ad F 41 k) := ⟨_, rfl⟩
theorem st8_42 {g : zG} {ad : Nat → Nat} {F : Nat → Nat → Int32} (k : Nat) : okk8 g ad 0 42 k (ctk8 g ad F 42 k) := by
    show Sum.inl (g.2 7, 8, _) = Sum.inl (g.2 7, 8, _)
    rw [zS_F42]
theorem st8_43 {g : zG} {ad : Nat → Nat} {F : Nat → Nat → Int32} (k : Nat) : okk8 g ad 0 43 k (ctk8 g ad F 43 k) := ⟨_, rfl⟩
theorem st8_44 {g : zG} {ad : Nat → Nat} {F : Nat → Nat → Int32} (k : Nat) : okk8 g ad 0 44 k (ctk8 g ad F 44 k) := ⟨0, (-1), 0, 0, 0, (-1), 0, 0, 0, Or.inl rfl, by decide, by decide, by decide, by decide, Or.inl rfl, rfl⟩
theorem st8_45 {g : zG} {ad : Nat → Nat} {F : Nat → Nat → Int32} (k : Nat) : okk8 g ad 0 45 k (ctk8 g ad F 45 k) := ⟨_, rfl⟩
theorem st8_46 {g : zG} {ad : Nat → Nat} {F : Nat → Nat → Int32} (k : Nat) : okk8 g ad 0 46 k (ctk8 g ad F 46 k) := ⟨_, rfl⟩
def kinds8 : List Nat := [0, 1, 2, 3, 4, 5, 6, 7, 8, 9, 10, 11, 12, 13, 14, 15, 16, 17, 18, 19, 20, 21, 22, 23, 24, 25, 26, 34, 35, 36, 37, 38, 39, 40, 41, 42, 43, 44, 45, 46]
theorem st8_all {g : zG} {ad : Nat → Nat} {F : Nat → Nat → Int32} : ∀ kd ∈ kinds8, ∀ k, 35 ≤ k ∨ True → (kd = 36 ∨ kd = 37 ∨ True) → okk8 g ad 0 kd k (ctk8 g ad F kd k) := List.forall_mem_cons.mpr ⟨fun k _ _ => st8_0 k, List.forall_mem_cons.mpr ⟨fun k _ _ => st8_1 k, List.forall_mem_cons.mpr ⟨fun k _ _ => st8_2 k, List.forall_mem_cons.mpr ⟨fun k _ _ => st8_3 k, List.forall_mem_cons.mpr ⟨fun k _ _ => st8_4 k, List.forall_mem_cons.mpr ⟨fun k _ _ => st8_5 k, List.forall_mem_cons.mpr ⟨fun k _ _ => st8_6 k, List.forall_mem_cons.mpr ⟨fun k _ _ => st8_7 k, List.forall_mem_cons.mpr ⟨fun k _ _ => st8_8 k, List.forall_mem_cons.mpr ⟨fun k _ _ => st8_9 k, List.forall_mem_cons.mpr ⟨fun k _ _ => st8_10 k, List.forall_mem_cons.mpr ⟨fun k _ _ => st8_11 k, List.forall_mem_cons.mpr ⟨fun k _ _ => st8_12 k, List.forall_mem_cons.mpr ⟨fun k _ _ => st8_13 k, List.forall_mem_cons.mpr ⟨fun k _ _ => st8_14 k, List.forall_mem_cons.mpr ⟨fun k _ _ => st8_15 k, List.forall_mem_cons.mpr ⟨fun k _ _ => st8_16 k, List.forall_mem_cons.mpr ⟨fun k _ _ => st8_17 k, List.forall_mem_cons.mpr ⟨fun k _ _ => st8_18 k, List.forall_mem_cons.mpr ⟨fun k _ _ => st8_19 k, List.forall_mem_cons.mpr ⟨fun k _ _ => st8_20 k, List.forall_mem_cons.mpr ⟨fun k _ _ => st8_21 k, List.forall_mem_cons.mpr ⟨fun k _ _ => st8_22 k, List.forall_mem_cons.mpr ⟨fun k _ _ => st8_23 k, List.forall_mem_cons.mpr ⟨fun k _ _ => st8_24 k, List.forall_mem_cons.mpr ⟨fun k _ _ => st8_25 k, List.forall_mem_cons.mpr ⟨fun k _ _ => st8_26 k, List.forall_mem_cons.mpr ⟨fun k _ _ => st8_34 k, List.forall_mem_cons.mpr ⟨fun k _ _ => st8_35 k, List.forall_mem_cons.mpr ⟨fun k _ _ => st8_36 k, List.forall_mem_cons.mpr ⟨fun k _ _ => st8_37 k, List.forall_mem_cons.mpr ⟨fun k _ _ => st8_38 k, List.forall_mem_cons.mpr ⟨fun k _ _ => st8_39 k, List.forall_mem_cons.mpr ⟨fun k _ _ => st8_40 k, List.forall_mem_cons.mpr ⟨fun k _ _ => st8_41 k, List.forall_mem_cons.mpr ⟨fun k _ _ => st8_42 k, List.forall_mem_cons.mpr ⟨fun k _ _ => st8_43 k, List.forall_mem_cons.mpr ⟨fun k _ _ => st8_44 k, List.forall_mem_cons.mpr ⟨fun k _ _ => st8_45 k, List.forall_mem_cons.mpr ⟨fun k _ _ => st8_46 k, fun _ h => absurd h List.not_mem_nil⟩⟩⟩⟩⟩⟩⟩⟩⟩⟩⟩⟩⟩⟩⟩⟩⟩⟩⟩⟩⟩⟩⟩⟩⟩⟩⟩⟩⟩⟩⟩⟩⟩⟩⟩⟩⟩⟩⟩⟩
set_option maxRecDepth 20000 in
theorem kinds8_in : ∀ k, k < 126 → kd8 k ∈ kinds8 := by decide +kernel
theorem start8 {g : zG} {ad : Nat → Nat} {F : Nat → Nat → Int32} : Inv8 g ad 0 (cts8 g ad F) := ⟨by decide, fun k hk => st8_all (kd8 k) (kinds8_in k hk) k (Or.inr trivial) (Or.inr (Or.inr trivial))⟩
def bareS (j : Nat) : Int32 := if j = 32 then 16 else if j < 16 then 1 else 0
theorem bareS_of {f : Nat → Int32} (h : ∀ j, j < 32 → f j = if j < 16 then 1 else 0) : ∀ j, j < 33 → upd f 32 16 j = bareS j := fun j hj => by
  unfold bareS
  by_cases q : j = 32
  · rw [if_pos q, q]
    exact pk_us
  · rw [if_neg q, pk_un q, h j (by omega)]
/-- a new town's cells, by number -/
def F0c (k j : Nat) : Int32 := if k = 36 ∨ k = 41 ∨ k = 46 ∨ k = 51 then -1 else bareS j
def cNew (g : zG) : Nat → va_E := cts8 g idn F0c
def ST34 (g : zG) (ad : Nat → Nat) (ct : Nat → va_E) : Prop := ∃ F : Nat → Nat → Int32, ct = cts8 g ad F ∧ (∀ k, (k = 36 ∨ k = 41 ∨ k = 46 ∨ k = 51) → ∀ j, j < 32 → F k j = -1) ∧ (∀ k, (k = 37 ∨ k = 42 ∨ k = 47 ∨ k = 52) → ∀ j, j < 33 → F k j = bareS j)
theorem C0_I {g : zG} : Inv8 g idn 0 (cNew g) := start8
theorem zS_map {ad : Nat → Nat} {l : List (Option Nat)} : (fun i => (zS l i).map ad) = zS (l.map (Option.map ad)) := by
  funext i
  unfold zS
  rw [List.getElem?_map]
  cases l[i]? <;> rfl
theorem cek_0 {g : zG} {ad : Nat → Nat} {F : Nat → Nat → Int32} {a : Nat} {H : Heap} (k : Nat) (_ : kd8 k = 36 → ∀ j, j < 32 → F k j = F0c k j) (_ : kd8 k = 37 → ∀ j, j < 33 → F k j = F0c k j) (_ : kd8 k = 0) (h : va_at g.1 vwCl (a, ctk8 g ad F 0 k) H) : va_at g.1 vwCl (a, ce ad (ctk8 g idn F0c 0 k)) H := h
theorem cek_1 {g : zG} {ad : Nat → Nat} {F : Nat → Nat → Int32} {a : Nat} {H : Heap} (k : Nat) (_ : kd8 k = 36 → ∀ j, j < 32 → F k j = F0c k j) (_ : kd8 k = 37 → ∀ j, j < 33 → F k j = F0c k j) (_ : kd8 k = 1) (h : va_at g.1 vwCl (a, ctk8 g ad F 1 k) H) : va_at g.1 vwCl (a, ce ad (ctk8 g idn F0c 1 k)) H := by
  have e : (fun i => (zS [some (idn 35), some (idn 40), some (idn 45), some (idn 50)] i).map ad) = zS (List.map (Option.map ad) [some (idn 35), some (idn 40), some (idn 45), some (idn 50)]) := zS_map
  show H[a]? = some (arrV (g.2 4) 4 (fun j => va_rf ((zS [some (idn 35), some (idn 40), some (idn 45), some (idn 50)] j).map ad)))
  rw [show (fun j => va_rf ((zS [some (idn 35), some (idn 40), some (idn 45), some (idn 50)] j).map ad)) = (fun j => va_rf (zS (List.map (Option.map ad) [some (idn 35), some (idn 40), some (idn 45), some (idn 50)]) j)) from funext fun j => congrArg va_rf (congrFun e j)]
  exact h
theorem cek_2 {g : zG} {ad : Nat → Nat} {F : Nat → Nat → Int32} {a : Nat} {H : Heap} (k : Nat) (_ : kd8 k = 36 → ∀ j, j < 32 → F k j = F0c k j) (_ : kd8 k = 37 → ∀ j, j < 33 → F k j = F0c k j) (_ : kd8 k = 2) (h : va_at g.1 vwCl (a, ctk8 g ad F 2 k) H) : va_at g.1 vwCl (a, ce ad (ctk8 g idn F0c 2 k)) H := h
theorem cek_3 {g : zG} {ad : Nat → Nat} {F : Nat → Nat → Int32} {a : Nat} {H : Heap} (k : Nat) (_ : kd8 k = 36 → ∀ j, j < 32 → F k j = F0c k j) (_ : kd8 k = 37 → ∀ j, j < 33 → F k j = F0c k j) (_ : kd8 k = 3) (h : va_at g.1 vwCl (a, ctk8 g ad F 3 k) H) : va_at g.1 vwCl (a, ce ad (ctk8 g idn F0c 3 k)) H := h
theorem cek_4 {g : zG} {ad : Nat → Nat} {F : Nat → Nat → Int32} {a : Nat} {H : Heap} (k : Nat) (_ : kd8 k = 36 → ∀ j, j < 32 → F k j = F0c k j) (_ : kd8 k = 37 → ∀ j, j < 33 → F k j = F0c k j) (_ : kd8 k = 4) (h : va_at g.1 vwCl (a, ctk8 g ad F 4 k) H) : va_at g.1 vwCl (a, ce ad (ctk8 g idn F0c 4 k)) H := h
theorem cek_5 {g : zG} {ad : Nat → Nat} {F : Nat → Nat → Int32} {a : Nat} {H : Heap} (k : Nat) (_ : kd8 k = 36 → ∀ j, j < 32 → F k j = F0c k j) (_ : kd8 k = 37 → ∀ j, j < 33 → F k j = F0c k j) (_ : kd8 k = 5) (h : va_at g.1 vwCl (a, ctk8 g ad F 5 k) H) : va_at g.1 vwCl (a, ce ad (ctk8 g idn F0c 5 k)) H := by
  have e : (fun i => (zS [some (idn 55), some (idn 66), some (idn 77), some (idn 88)] i).map ad) = zS (List.map (Option.map ad) [some (idn 55), some (idn 66), some (idn 77), some (idn 88)]) := zS_map
  show H[a]? = some (arrV (g.2 5) 4 (fun j => va_rf ((zS [some (idn 55), some (idn 66), some (idn 77), some (idn 88)] j).map ad)))
  rw [show (fun j => va_rf ((zS [some (idn 55), some (idn 66), some (idn 77), some (idn 88)] j).map ad)) = (fun j => va_rf (zS (List.map (Option.map ad) [some (idn 55), some (idn 66), some (idn 77), some (idn 88)]) j)) from funext fun j => congrArg va_rf (congrFun e j)]
  exact h
theorem cek_6 {g : zG} {ad : Nat → Nat} {F : Nat → Nat → Int32} {a : Nat} {H : Heap} (k : Nat) (_ : kd8 k = 36 → ∀ j, j < 32 → F k j = F0c k j) (_ : kd8 k = 37 → ∀ j, j < 33 → F k j = F0c k j) (_ : kd8 k = 6) (h : va_at g.1 vwCl (a, ctk8 g ad F 6 k) H) : va_at g.1 vwCl (a, ce ad (ctk8 g idn F0c 6 k)) H := h
theorem cek_7 {g : zG} {ad : Nat → Nat} {F : Nat → Nat → Int32} {a : Nat} {H : Heap} (k : Nat) (_ : kd8 k = 36 → ∀ j, j < 32 → F k j = F0c k j) (_ : kd8 k = 37 → ∀ j, j < 33 → F k j = F0c k j) (_ : kd8 k = 7) (h : va_at g.1 vwCl (a, ctk8 g ad F 7 k) H) : va_at g.1 vwCl (a, ce ad (ctk8 g idn F0c 7 k)) H := h
theorem cek_8 {g : zG} {ad : Nat → Nat} {F : Nat → Nat → Int32} {a : Nat} {H : Heap} (k : Nat) (_ : kd8 k = 36 → ∀ j, j < 32 → F k j = F0c k j) (_ : kd8 k = 37 → ∀ j, j < 33 → F k j = F0c k j) (_ : kd8 k = 8) (h : va_at g.1 vwCl (a, ctk8 g ad F 8 k) H) : va_at g.1 vwCl (a, ce ad (ctk8 g idn F0c 8 k)) H := h
theorem cek_9 {g : zG} {ad : Nat → Nat} {F : Nat → Nat → Int32} {a : Nat} {H : Heap} (k : Nat) (_ : kd8 k = 36 → ∀ j, j < 32 → F k j = F0c k j) (_ : kd8 k = 37 → ∀ j, j < 33 → F k j = F0c k j) (_ : kd8 k = 9) (h : va_at g.1 vwCl (a, ctk8 g ad F 9 k) H) : va_at g.1 vwCl (a, ce ad (ctk8 g idn F0c 9 k)) H := by
  have e : (fun i => (zS [some (idn 99), some (idn 102), some (idn 105), some (idn 108), some (idn 111), some (idn 114), some (idn 117), some (idn 120)] i).map ad) = zS (List.map (Option.map ad) [some (idn 99), some (idn 102), some (idn 105), some (idn 108), some (idn 111), some (idn 114), some (idn 117), some (idn 120)]) := zS_map
  show H[a]? = some (arrV (g.2 6) 8 (fun j => va_rf ((zS [some (idn 99), some (idn 102), some (idn 105), some (idn 108), some (idn 111), some (idn 114), some (idn 117), some (idn 120)] j).map ad)))
  rw [show (fun j => va_rf ((zS [some (idn 99), some (idn 102), some (idn 105), some (idn 108), some (idn 111), some (idn 114), some (idn 117), some (idn 120)] j).map ad)) = (fun j => va_rf (zS (List.map (Option.map ad) [some (idn 99), some (idn 102), some (idn 105), some (idn 108), some (idn 111), some (idn 114), some (idn 117), some (idn 120)]) j)) from funext fun j => congrArg va_rf (congrFun e j)]
  exact h
theorem cek_10 {g : zG} {ad : Nat → Nat} {F : Nat → Nat → Int32} {a : Nat} {H : Heap} (k : Nat) (_ : kd8 k = 36 → ∀ j, j < 32 → F k j = F0c k j) (_ : kd8 k = 37 → ∀ j, j < 33 → F k j = F0c k j) (_ : kd8 k = 10) (h : va_at g.1 vwCl (a, ctk8 g ad F 10 k) H) : va_at g.1 vwCl (a, ce ad (ctk8 g idn F0c 10 k)) H := h
theorem cek_11 {g : zG} {ad : Nat → Nat} {F : Nat → Nat → Int32} {a : Nat} {H : Heap} (k : Nat) (_ : kd8 k = 36 → ∀ j, j < 32 → F k j = F0c k j) (_ : kd8 k = 37 → ∀ j, j < 33 → F k j = F0c k j) (_ : kd8 k = 11) (h : va_at g.1 vwCl (a, ctk8 g ad F 11 k) H) : va_at g.1 vwCl (a, ce ad (ctk8 g idn F0c 11 k)) H := h
theorem cek_12 {g : zG} {ad : Nat → Nat} {F : Nat → Nat → Int32} {a : Nat} {H : Heap} (k : Nat) (_ : kd8 k = 36 → ∀ j, j < 32 → F k j = F0c k j) (_ : kd8 k = 37 → ∀ j, j < 33 → F k j = F0c k j) (_ : kd8 k = 12) (h : va_at g.1 vwCl (a, ctk8 g ad F 12 k) H) : va_at g.1 vwCl (a, ce ad (ctk8 g idn F0c 12 k)) H := h
theorem cek_13 {g : zG} {ad : Nat → Nat} {F : Nat → Nat → Int32} {a : Nat} {H : Heap} (k : Nat) (_ : kd8 k = 36 → ∀ j, j < 32 → F k j = F0c k j) (_ : kd8 k = 37 → ∀ j, j < 33 → F k j = F0c k j) (_ : kd8 k = 13) (h : va_at g.1 vwCl (a, ctk8 g ad F 13 k) H) : va_at g.1 vwCl (a, ce ad (ctk8 g idn F0c 13 k)) H := h
theorem cek_14 {g : zG} {ad : Nat → Nat} {F : Nat → Nat → Int32} {a : Nat} {H : Heap} (k : Nat) (_ : kd8 k = 36 → ∀ j, j < 32 → F k j = F0c k j) (_ : kd8 k = 37 → ∀ j, j < 33 → F k j = F0c k j) (_ : kd8 k = 14) (h : va_at g.1 vwCl (a, ctk8 g ad F 14 k) H) : va_at g.1 vwCl (a, ce ad (ctk8 g idn F0c 14 k)) H := h
theorem cek_15 {g : zG} {ad : Nat → Nat} {F : Nat → Nat → Int32} {a : Nat} {H : Heap} (k : Nat) (_ : kd8 k = 36 → ∀ j, j < 32 → F k j = F0c k j) (_ : kd8 k = 37 → ∀ j, j < 33 → F k j = F0c k j) (_ : kd8 k = 15) (h : va_at g.1 vwCl (a, ctk8 g ad F 15 k) H) : va_at g.1 vwCl (a, ce ad (ctk8 g idn F0c 15 k)) H := h
theorem cek_16 {g : zG} {ad : Nat → Nat} {F : Nat → Nat → Int32} {a : Nat} {H : Heap} (k : Nat) (_ : kd8 k = 36 → ∀ j, j < 32 → F k j = F0c k j) (_ : kd8 k = 37 → ∀ j, j < 33 → F k j = F0c k j) (_ : kd8 k = 16) (h : va_at g.1 vwCl (a, ctk8 g ad F 16 k) H) : va_at g.1 vwCl (a, ce ad (ctk8 g idn F0c 16 k)) H := h
theorem cek_17 {g : zG} {ad : Nat → Nat} {F : Nat → Nat → Int32} {a : Nat} {H : Heap} (k : Nat) (_ : kd8 k = 36 → ∀ j, j < 32 → F k j = F0c k j) (_ : kd8 k = 37 → ∀ j, j < 33 → F k j = F0c k j) (_ : kd8 k = 17) (h : va_at g.1 vwCl (a, ctk8 g ad F 17 k) H) : va_at g.1 vwCl (a, ce ad (ctk8 g idn F0c 17 k)) H := h
theorem cek_18 {g : zG} {ad : Nat → Nat} {F : Nat → Nat → Int32} {a : Nat} {H : Heap} (k : Nat) (_ : kd8 k = 36 → ∀ j, j < 32 → F k j = F0c k j) (_ : kd8 k = 37 → ∀ j, j < 33 → F k j = F0c k j) (_ : kd8 k = 18) (h : va_at g.1 vwCl (a, ctk8 g ad F 18 k) H) : va_at g.1 vwCl (a, ce ad (ctk8 g idn F0c 18 k)) H := h
theorem cek_19 {g : zG} {ad : Nat → Nat} {F : Nat → Nat → Int32} {a : Nat} {H : Heap} (k : Nat) (_ : kd8 k = 36 → ∀ j, j < 32 → F k j = F0c k j) (_ : kd8 k = 37 → ∀ j, j < 33 → F k j = F0c k j) (_ : kd8 k = 19) (h : va_at g.1 vwCl (a, ctk8 g ad F 19 k) H) : va_at g.1 vwCl (a, ce ad (ctk8 g idn F0c 19 k)) H := h
theorem cek_20 {g : zG} {ad : Nat → Nat} {F : Nat → Nat → Int32} {a : Nat} {H : Heap} (k : Nat) (_ : kd8 k = 36 → ∀ j, j < 32 → F k j = F0c k j) (_ : kd8 k = 37 → ∀ j, j < 33 → F k j = F0c k j) (_ : kd8 k = 20) (h : va_at g.1 vwCl (a, ctk8 g ad F 20 k) H) : va_at g.1 vwCl (a, ce ad (ctk8 g idn F0c 20 k)) H := h
theorem cek_21 {g : zG} {ad : Nat → Nat} {F : Nat → Nat → Int32} {a : Nat} {H : Heap} (k : Nat) (_ : kd8 k = 36 → ∀ j, j < 32 → F k j = F0c k j) (_ : kd8 k = 37 → ∀ j, j < 33 → F k j = F0c k j) (_ : kd8 k = 21) (h : va_at g.1 vwCl (a, ctk8 g ad F 21 k) H) : va_at g.1 vwCl (a, ce ad (ctk8 g idn F0c 21 k)) H := h
theorem cek_22 {g : zG} {ad : Nat → Nat} {F : Nat → Nat → Int32} {a : Nat} {H : Heap} (k : Nat) (_ : kd8 k = 36 → ∀ j, j < 32 → F k j = F0c k j) (_ : kd8 k = 37 → ∀ j, j < 33 → F k j = F0c k j) (_ : kd8 k = 22) (h : va_at g.1 vwCl (a, ctk8 g ad F 22 k) H) : va_at g.1 vwCl (a, ce ad (ctk8 g idn F0c 22 k)) H := by
  have e : (fun i => (zS [some (idn 26), some (idn 27), some (idn 28), some (idn 29)] i).map ad) = zS (List.map (Option.map ad) [some (idn 26), some (idn 27), some (idn 28), some (idn 29)]) := zS_map
  show H[a]? = some (arrV (g.2 7) 4 (fun j => va_rf ((zS [some (idn 26), some (idn 27), some (idn 28), some (idn 29)] j).map ad)))
  rw [show (fun j => va_rf ((zS [some (idn 26), some (idn 27), some (idn 28), some (idn 29)] j).map ad)) = (fun j => va_rf (zS (List.map (Option.map ad) [some (idn 26), some (idn 27), some (idn 28), some (idn 29)]) j)) from funext fun j => congrArg va_rf (congrFun e j)]
  exact h
theorem cek_23 {g : zG} {ad : Nat → Nat} {F : Nat → Nat → Int32} {a : Nat} {H : Heap} (k : Nat) (_ : kd8 k = 36 → ∀ j, j < 32 → F k j = F0c k j) (_ : kd8 k = 37 → ∀ j, j < 33 → F k j = F0c k j) (_ : kd8 k = 23) (h : va_at g.1 vwCl (a, ctk8 g ad F 23 k) H) : va_at g.1 vwCl (a, ce ad (ctk8 g idn F0c 23 k)) H := by
  have e : (fun i => (zS [some (idn 30), some (idn 31), some (idn 32), some (idn 33)] i).map ad) = zS (List.map (Option.map ad) [some (idn 30), some (idn 31), some (idn 32), some (idn 33)]) := zS_map
  show H[a]? = some (arrV (g.2 7) 4 (fun j => va_rf ((zS [some (idn 30), some (idn 31), some (idn 32), some (idn 33)] j).map ad)))
  rw [show (fun j => va_rf ((zS [some (idn 30), some (idn 31), some (idn 32), some (idn 33)] j).map ad)) = (fun j => va_rf (zS (List.map (Option.map ad) [some (idn 30), some (idn 31), some (idn 32), some (idn 33)]) j)) from funext fun j => congrArg va_rf (congrFun e j)]
  exact h
theorem cek_24 {g : zG} {ad : Nat → Nat} {F : Nat → Nat → Int32} {a : Nat} {H : Heap} (k : Nat) (_ : kd8 k = 36 → ∀ j, j < 32 → F k j = F0c k j) (_ : kd8 k = 37 → ∀ j, j < 33 → F k j = F0c k j) (_ : kd8 k = 24) (h : va_at g.1 vwCl (a, ctk8 g ad F 24 k) H) : va_at g.1 vwCl (a, ce ad (ctk8 g idn F0c 24 k)) H := h
theorem cek_25 {g : zG} {ad : Nat → Nat} {F : Nat → Nat → Int32} {a : Nat} {H : Heap} (k : Nat) (_ : kd8 k = 36 → ∀ j, j < 32 → F k j = F0c k j) (_ : kd8 k = 37 → ∀ j, j < 33 → F k j = F0c k j) (_ : kd8 k = 25) (h : va_at g.1 vwCl (a, ctk8 g ad F 25 k) H) : va_at g.1 vwCl (a, ce ad (ctk8 g idn F0c 25 k)) H := h
theorem cek_26 {g : zG} {ad : Nat → Nat} {F : Nat → Nat → Int32} {a : Nat} {H : Heap} (k : Nat) (_ : kd8 k = 36 → ∀ j, j < 32 → F k j = F0c k j) (_ : kd8 k = 37 → ∀ j, j < 33 → F k j = F0c k j) (_ : kd8 k = 26) (h : va_at g.1 vwCl (a, ctk8 g ad F 26 k) H) : va_at g.1 vwCl (a, ce ad (ctk8 g idn F0c 26 k)) H := h
theorem cek_34 {g : zG} {ad : Nat → Nat} {F : Nat → Nat → Int32} {a : Nat} {H : Heap} (k : Nat) (_ : kd8 k = 36 → ∀ j, j < 32 → F k j = F0c k j) (_ : kd8 k = 37 → ∀ j, j < 33 → F k j = F0c k j) (_ : kd8 k = 34) (h : va_at g.1 vwCl (a, ctk8 g ad F 34 k) H) : va_at g.1 vwCl (a, ce ad (ctk8 g idn F0c 34 k)) H := h
theorem cek_35 {g : zG} {ad : Nat → Nat} {F : Nat → Nat → Int32} {a : Nat} {H : Heap} (k : Nat) (_ : kd8 k = 36 → ∀ j, j < 32 → F k j = F0c k j) (_ : kd8 k = 37 → ∀ j, j < 33 → F k j = F0c k j) (_ : kd8 k = 35) (h : va_at g.1 vwCl (a, ctk8 g ad F 35 k) H) : va_at g.1 vwCl (a, ce ad (ctk8 g idn F0c 35 k)) H := h
theorem cek_36 {g : zG} {ad : Nat → Nat} {F : Nat → Nat → Int32} {a : Nat} {H : Heap} (k : Nat) (h6 : kd8 k = 36 → ∀ j, j < 32 → F k j = F0c k j) (h7 : kd8 k = 37 → ∀ j, j < 33 → F k j = F0c k j) (hk : kd8 k = 36) (h : va_at g.1 vwCl (a, ctk8 g ad F 36 k) H) : va_at g.1 vwCl (a, ce ad (ctk8 g idn F0c 36 k)) H := by
  have e : arrV (g.2 0) 32 (fun j => .int (F k j)) = arrV (g.2 0) 32 (fun j => .int (F0c k j)) := arrV_cg (fun j hj => congrArg Value.int (h6 hk j hj))
  show H[a]? = some (arrV (g.2 0) 32 (fun j => .int (F0c k j)))
  rw [← e]
  exact h
theorem cek_37 {g : zG} {ad : Nat → Nat} {F : Nat → Nat → Int32} {a : Nat} {H : Heap} (k : Nat) (h6 : kd8 k = 36 → ∀ j, j < 32 → F k j = F0c k j) (h7 : kd8 k = 37 → ∀ j, j < 33 → F k j = F0c k j) (hk : kd8 k = 37) (h : va_at g.1 vwCl (a, ctk8 g ad F 37 k) H) : va_at g.1 vwCl (a, ce ad (ctk8 g idn F0c 37 k)) H := by
  have e : arrV (g.2 0) 33 (fun j => .int (F k j)) = arrV (g.2 0) 33 (fun j => .int (F0c k j)) := arrV_cg (fun j hj => congrArg Value.int (h7 hk j hj))
  show H[a]? = some (arrV (g.2 0) 33 (fun j => .int (F0c k j)))
  rw [← e]
  exact h
theorem cek_38 {g : zG} {ad : Nat → Nat} {F : Nat → Nat → Int32} {a : Nat} {H : Heap} (k : Nat) (_ : kd8 k = 36 → ∀ j, j < 32 → F k j = F0c k j) (_ : kd8 k = 37 → ∀ j, j < 33 → F k j = F0c k j) (_ : kd8 k = 38) (h : va_at g.1 vwCl (a, ctk8 g ad F 38 k) H) : va_at g.1 vwCl (a, ce ad (ctk8 g idn F0c 38 k)) H := h
theorem cek_39 {g : zG} {ad : Nat → Nat} {F : Nat → Nat → Int32} {a : Nat} {H : Heap} (k : Nat) (_ : kd8 k = 36 → ∀ j, j < 32 → F k j = F0c k j) (_ : kd8 k = 37 → ∀ j, j < 33 → F k j = F0c k j) (_ : kd8 k = 39) (h : va_at g.1 vwCl (a, ctk8 g ad F 39 k) H) : va_at g.1 vwCl (a, ce ad (ctk8 g idn F0c 39 k)) H := h
theorem cek_40 {g : zG} {ad : Nat → Nat} {F : Nat → Nat → Int32} {a : Nat} {H : Heap} (k : Nat) (_ : kd8 k = 36 → ∀ j, j < 32 → F k j = F0c k j) (_ : kd8 k = 37 → ∀ j, j < 33 → F k j = F0c k j) (_ : kd8 k = 40) (h : va_at g.1 vwCl (a, ctk8 g ad F 40 k) H) : va_at g.1 vwCl (a, ce ad (ctk8 g idn F0c 40 k)) H := h
theorem cek_41 {g : zG} {ad : Nat → Nat} {F : Nat → Nat → Int32} {a : Nat} {H : Heap} (k : Nat) (_ : kd8 k = 36 → ∀ j, j < 32 → F k j = F0c k j) (_ : kd8 k = 37 → ∀ j, j < 33 → F k j = F0c k j) (_ : kd8 k = 41) (h : va_at g.1 vwCl (a, ctk8 g ad F 41 k) H) : va_at g.1 vwCl (a, ce ad (ctk8 g idn F0c 41 k)) H := h
theorem cek_42 {g : zG} {ad : Nat → Nat} {F : Nat → Nat → Int32} {a : Nat} {H : Heap} (k : Nat) (_ : kd8 k = 36 → ∀ j, j < 32 → F k j = F0c k j) (_ : kd8 k = 37 → ∀ j, j < 33 → F k j = F0c k j) (_ : kd8 k = 42) (h : va_at g.1 vwCl (a, ctk8 g ad F 42 k) H) : va_at g.1 vwCl (a, ce ad (ctk8 g idn F0c 42 k)) H := by
  have e : (fun i => (zS [some (idn (k + 1)), some (idn (k + 2)), some (idn (k + 3)), some (idn (k + 4)), some (idn (k + 5)), some (idn (k + 6)), some (idn (k + 7)), some (idn (k + 8))] i).map ad) = zS (List.map (Option.map ad) [some (idn (k + 1)), some (idn (k + 2)), some (idn (k + 3)), some (idn (k + 4)), some (idn (k + 5)), some (idn (k + 6)), some (idn (k + 7)), some (idn (k + 8))]) := zS_map
  show H[a]? = some (arrV (g.2 7) 8 (fun j => va_rf ((zS [some (idn (k + 1)), some (idn (k + 2)), some (idn (k + 3)), some (idn (k + 4)), some (idn (k + 5)), some (idn (k + 6)), some (idn (k + 7)), some (idn (k + 8))] j).map ad)))
  rw [show (fun j => va_rf ((zS [some (idn (k + 1)), some (idn (k + 2)), some (idn (k + 3)), some (idn (k + 4)), some (idn (k + 5)), some (idn (k + 6)), some (idn (k + 7)), some (idn (k + 8))] j).map ad)) = (fun j => va_rf (zS (List.map (Option.map ad) [some (idn (k + 1)), some (idn (k + 2)), some (idn (k + 3)), some (idn (k + 4)), some (idn (k + 5)), some (idn (k + 6)), some (idn (k + 7)), some (idn (k + 8))]) j)) from funext fun j => congrArg va_rf (congrFun e j)]
  exact h
theorem cek_43 {g : zG} {ad : Nat → Nat} {F : Nat → Nat → Int32} {a : Nat} {H : Heap} (k : Nat) (_ : kd8 k = 36 → ∀ j, j < 32 → F k j = F0c k j) (_ : kd8 k = 37 → ∀ j, j < 33 → F k j = F0c k j) (_ : kd8 k = 43) (h : va_at g.1 vwCl (a, ctk8 g ad F 43 k) H) : va_at g.1 vwCl (a, ce ad (ctk8 g idn F0c 43 k)) H := h
theorem cek_44 {g : zG} {ad : Nat → Nat} {F : Nat → Nat → Int32} {a : Nat} {H : Heap} (k : Nat) (_ : kd8 k = 36 → ∀ j, j < 32 → F k j = F0c k j) (_ : kd8 k = 37 → ∀ j, j < 33 → F k j = F0c k j) (_ : kd8 k = 44) (h : va_at g.1 vwCl (a, ctk8 g ad F 44 k) H) : va_at g.1 vwCl (a, ce ad (ctk8 g idn F0c 44 k)) H := h
theorem cek_45 {g : zG} {ad : Nat → Nat} {F : Nat → Nat → Int32} {a : Nat} {H : Heap} (k : Nat) (_ : kd8 k = 36 → ∀ j, j < 32 → F k j = F0c k j) (_ : kd8 k = 37 → ∀ j, j < 33 → F k j = F0c k j) (_ : kd8 k = 45) (h : va_at g.1 vwCl (a, ctk8 g ad F 45 k) H) : va_at g.1 vwCl (a, ce ad (ctk8 g idn F0c 45 k)) H := h
theorem cek_46 {g : zG} {ad : Nat → Nat} {F : Nat → Nat → Int32} {a : Nat} {H : Heap} (k : Nat) (_ : kd8 k = 36 → ∀ j, j < 32 → F k j = F0c k j) (_ : kd8 k = 37 → ∀ j, j < 33 → F k j = F0c k j) (_ : kd8 k = 46) (h : va_at g.1 vwCl (a, ctk8 g ad F 46 k) H) : va_at g.1 vwCl (a, ce ad (ctk8 g idn F0c 46 k)) H := h
theorem cek_all {g : zG} {ad : Nat → Nat} {F : Nat → Nat → Int32} {a : Nat} {H : Heap} : ∀ kd ∈ kinds8, ∀ k, (kd8 k = 36 → ∀ j, j < 32 → F k j = F0c k j) → (kd8 k = 37 → ∀ j, j < 33 → F k j = F0c k j) → kd8 k = kd → va_at g.1 vwCl (a, ctk8 g ad F kd k) H → va_at g.1 vwCl (a, ce ad (ctk8 g idn F0c kd k)) H := List.forall_mem_cons.mpr ⟨cek_0, List.forall_mem_cons.mpr ⟨cek_1, List.forall_mem_cons.mpr ⟨cek_2, List.forall_mem_cons.mpr ⟨cek_3, List.forall_mem_cons.mpr ⟨cek_4, List.forall_mem_cons.mpr ⟨cek_5, List.forall_mem_cons.mpr ⟨cek_6, List.forall_mem_cons.mpr ⟨cek_7, List.forall_mem_cons.mpr ⟨cek_8, List.forall_mem_cons.mpr ⟨cek_9, List.forall_mem_cons.mpr ⟨cek_10, List.forall_mem_cons.mpr ⟨cek_11, List.forall_mem_cons.mpr ⟨cek_12, List.forall_mem_cons.mpr ⟨cek_13, List.forall_mem_cons.mpr ⟨cek_14, List.forall_mem_cons.mpr ⟨cek_15, List.forall_mem_cons.mpr ⟨cek_16, List.forall_mem_cons.mpr ⟨cek_17, List.forall_mem_cons.mpr ⟨cek_18, List.forall_mem_cons.mpr ⟨cek_19, List.forall_mem_cons.mpr ⟨cek_20, List.forall_mem_cons.mpr ⟨cek_21, List.forall_mem_cons.mpr ⟨cek_22, List.forall_mem_cons.mpr ⟨cek_23, List.forall_mem_cons.mpr ⟨cek_24, List.forall_mem_cons.mpr ⟨cek_25, List.forall_mem_cons.mpr ⟨cek_26, List.forall_mem_cons.mpr ⟨cek_34, List.forall_mem_cons.mpr ⟨cek_35, List.forall_mem_cons.mpr ⟨cek_36, List.forall_mem_cons.mpr ⟨cek_37, List.forall_mem_cons.mpr ⟨cek_38, List.forall_mem_cons.mpr ⟨cek_39, List.forall_mem_cons.mpr ⟨cek_40, List.forall_mem_cons.mpr ⟨cek_41, List.forall_mem_cons.mpr ⟨cek_42, List.forall_mem_cons.mpr ⟨cek_43, List.forall_mem_cons.mpr ⟨cek_44, List.forall_mem_cons.mpr ⟨cek_45, List.forall_mem_cons.mpr ⟨cek_46, fun _ h => absurd h List.not_mem_nil⟩⟩⟩⟩⟩⟩⟩⟩⟩⟩⟩⟩⟩⟩⟩⟩⟩⟩⟩⟩⟩⟩⟩⟩⟩⟩⟩⟩⟩⟩⟩⟩⟩⟩⟩⟩⟩⟩⟩⟩
theorem kd36 : ∀ k, k < 126 → kd8 k = 36 → k = 36 ∨ k = 41 ∨ k = 46 ∨ k = 51 := by decide +kernel
theorem kd37 : ∀ k, k < 126 → kd8 k = 37 → k = 37 ∨ k = 42 ∨ k = 47 ∨ k = 52 := by decide +kernel
theorem st34P {g : zG} {ad : Nat → Nat} {ct : Nat → va_E} {H : Heap} (hs : ST34 g ad ct) (hP : zP g (zw 126 ad ct) H) : zP g (dW pAll ad (cNew g)) H := dW_P.mpr fun k hk => by
  obtain ⟨F, rfl, h6, h7⟩ := hs
  have hk1 : k < 126 := of_decide_eq_true hk.2
  have h1 := hP k _ (zw_at hk1 rfl)
  refine cek_all (F := F) (kd8 k) (kinds8_in k hk1) k (fun e j hj => ?_) (fun e j hj => ?_) rfl h1
  · have h := kd36 k hk1 e
    rw [h6 k h j hj]
    exact (if_pos h).symm
  · have h := kd37 k hk1 e
    rw [h7 k h j hj]
    exact (if_neg (by omega)).symm
theorem st34D {g : zG} {A : Nat → Prop} {ad : Nat → Nat} {ct ct2 : Nat → va_E} (hD : va_D A (zw 126 ad ct)) : va_D A (dW pAll ad ct2) := dW_D.mpr ⟨fun j k hj hk e => hD.1 j k _ _ (zw_at (of_decide_eq_true hj.2) rfl) (zw_at (of_decide_eq_true hk.2) rfl) e, fun k hk => hD.2 k _ (zw_at (of_decide_eq_true hk.2) rfl)⟩
theorem C0_0 {g : zG} : zf 12 (cNew g 0) = 0 := rfl
theorem C0_3 {g : zG} : cNew g 3 = .inr (7, [.int 0, .ref 4]) := rfl

theorem zS_F1 {ad : Nat → Nat} : zS [some (ad 35), some (ad 40), some (ad 45), some (ad 50)] = zF1 ad 0 := by
  funext i
  match i with
  | 0 => rfl
  | 1 => rfl
  | 2 => rfl
  | 3 => rfl
  | n + 4 =>
    show none = (if n + 4 < 4 then _ else none)
    rw [if_neg (by omega)]
theorem zS_F5 {ad : Nat → Nat} : zS [some (ad 55), some (ad 66), some (ad 77), some (ad 88)] = zF5 ad 0 := by
  funext i
  match i with
  | 0 => rfl
  | 1 => rfl
  | 2 => rfl
  | 3 => rfl
  | n + 4 =>
    show none = (if n + 4 < 4 then _ else none)
    rw [if_neg (by omega)]
theorem zS_F22 {ad : Nat → Nat} : zS [some (ad 26), some (ad 27), some (ad 28), some (ad 29)] = zF22 ad 0 := by
  funext i
  match i with
  | 0 => rfl
  | 1 => rfl
  | 2 => rfl
  | 3 => rfl
  | n + 4 =>
    show none = (if n + 4 < 4 then _ else none)
    rw [if_neg (by omega)]
theorem zS_F23 {ad : Nat → Nat} : zS [some (ad 30), some (ad 31), some (ad 32), some (ad 33)] = zF23 ad 0 := by
  funext i
  match i with
  | 0 => rfl
  | 1 => rfl
  | 2 => rfl
  | 3 => rfl
  | n + 4 =>
    show none = (if n + 4 < 4 then _ else none)
    rw [if_neg (by omega)]
theorem zS_F42 {ad : Nat → Nat} {k : Nat} : zS [some (ad (k + 1)), some (ad (k + 2)), some (ad (k + 3)), some (ad (k + 4)), some (ad (k + 5)), some (ad (k + 6)), some (ad (k + 7)), some (ad (k + 8))] = zF42 ad k := by
  funext i
  match i with
  | 0 => rfl
  | 1 => rfl
  | 2 => rfl
  | 3 => rfl
  | 4 => rfl
  | 5 => rfl
  | 6 => rfl
  | 7 => rfl
  | n + 8 =>
    show none = (if n + 8 < 8 then _ else none)
    rw [if_neg (by omega)]
def ctk8 (g : zG) (ad : Nat → Nat) (F : Nat → Nat → Int32) (kd k : Nat) : va_E := match kd with
  | 0 => .inr (8, [.ref (ad (1)), .ref (ad (2)), .ref (ad (3)), .ref (ad (5)), .ref (ad (6)), .ref (ad (9)), .ref (ad (10)), .ref (ad (17)), .ref (ad (21)), .ref (ad (34)), .ref (ad (99 + 3 * 8)), .int 0, .int 0])
  | 1 => .inl (g.2 4, 4, .inr (.inr (.inr (.inr (zS [some (ad 35), some (ad 40), some (ad 45), some (ad 50)])))))
  | 2 => .inl (g.2 0, 16, .inl (fun _ => 0))
  | 3 => .inr (7, [.int 0, .ref (ad (4))])
  | 4 => .inl (g.2 0, 200, .inl (fun _ => 0))
  | 5 => .inl (g.2 5, 4, .inr (.inr (.inr (.inr (zS [some (ad 55), some (ad 66), some (ad 77), some (ad 88)])))))
  | 6 => .inr (5, [.int 0, .ref (ad (7)), .ref (ad (8))])
  | 7 => .inl (g.2 0, 40, .inl (fun _ => 0))
  | 8 => .inl (g.2 0, 40, .inl (fun _ => 0))
  | 9 => .inl (g.2 6, 8, .inr (.inr (.inr (.inr (zS [some (ad 99), some (ad 102), some (ad 105), some (ad 108), some (ad 111), some (ad 114), some (ad 117), some (ad 120)])))))
  | 10 => .inr (6, [.int 0, .int 0, .int 0, .int 0, .ref (ad (11)), .ref (ad (12)), .ref (ad (13)), .ref (ad (14)), .ref (ad (15)), .ref (ad (16))])
  | 11 => .inl (g.2 0, 8, .inl (fun _ => 0))
  | 12 => .inl (g.2 0, 8, .inl (fun _ => 0))
  | 13 => .inl (g.2 0, 8, .inl (fun _ => 0))
  | 14 => .inl (g.2 0, 256, .inl (fun _ => 0))
  | 15 => .inl (g.2 1, 256, .inr (.inl (fun _ => 0)))
  | 16 => .inl (g.2 0, 8, .inl (fun _ => 0))
  | 17 => .inr (0, [.ref (ad (18)), .int 0, .ref (ad (19)), .ref (ad (20)), .int 1])
  | 18 => .inl (g.2 0, 128, .inl (fun _ => 0))
  | 19 => .inl (g.2 0, 17, .inl (fun _ => 0))
  | 20 => .inl (g.2 0, 1, .inl (fun _ => 0))
  | 21 => .inr (1, [.int (-1), .int 0, .int 0, .ref (ad (22)), .ref (ad (23)), .ref (ad (24)), .ref (ad (25))])
  | 22 => .inl (g.2 7, 4, .inr (.inr (.inr (.inr (zS [some (ad 26), some (ad 27), some (ad 28), some (ad 29)])))))
  | 23 => .inl (g.2 7, 4, .inr (.inr (.inr (.inr (zS [some (ad 30), some (ad 31), some (ad 32), some (ad 33)])))))
  | 24 => .inl (g.2 0, 4, .inl (fun _ => 0))
  | 25 => .inl (g.2 0, 4, .inl (fun _ => 0))
  | 26 => .inl (g.2 0, 40, .inl (fun _ => 0))
  | 34 => .inl (g.2 0, 7, .inl (fun _ => 0))
  | 35 => .inr (3, [.int 1, .ref (ad (k + 1)), .ref (ad (k + 2)), .ref (ad (k + 3)), .ref (ad (k + 4)), .int 0])
  | 36 => .inl (g.2 0, 32, .inl (F k))
  | 37 => .inl (g.2 0, 33, .inl (F k))
  | 38 => .inl (g.2 0, 33, .inl (fun _ => 0))
  | 39 => .inl (g.2 0, 16, .inl (fun _ => 0))
  | 40 => .inr (2, [.int 0, .int 0, .int 1, .ref (ad (k + 1)), .ref (ad (k + 2))])
  | 41 => .inl (g.2 0, 8, .inl (fun _ => 0))
  | 42 => .inl (g.2 7, 8, .inr (.inr (.inr (.inr (zS [some (ad (k + 1)), some (ad (k + 2)), some (ad (k + 3)), some (ad (k + 4)), some (ad (k + 5)), some (ad (k + 6)), some (ad (k + 7)), some (ad (k + 8))])))))
  | 43 => .inl (g.2 0, 4, .inl (fun _ => 0))
  | 44 => .inr (4, [.int 0, .int (-1), .int 0, .int 0, .int 0, .int (-1), .ref (ad (k + 1)), .ref (ad (k + 2)), .int 0, .int 0, .int 0])
  | 45 => .inl (g.2 0, 7, .inl (fun _ => 0))
  | 46 => .inl (g.2 0, 100, .inl (fun _ => 0))
  | _ => .inr (0, [])
def cts8 (g : zG) (ad : Nat → Nat) (F : Nat → Nat → Int32) (k : Nat) : va_E := ctk8 g ad F (kd8 k) k
theorem st8_0 {g : zG} {ad : Nat → Nat} {F : Nat → Nat → Int32} (k : Nat) : okk8 g ad 0 0 k (ctk8 g ad F 0 k) := ⟨0, 8, by decide, by decide, by decide, rfl⟩
theorem st8_1 {g : zG} {ad : Nat → Nat} {F : Nat → Nat → Int32} (k : Nat) : okk8 g ad 0 1 k (ctk8 g ad F 1 k) := by
    show Sum.inl (g.2 4, 4, _) = Sum.inl (g.2 4, 4, _)
    rw [zS_F1]
theorem st8_2 {g : zG} {ad : Nat → Nat} {F : Nat → Nat → Int32} (k : Nat) : okk8 g ad 0 2 k (ctk8 g ad F 2 k) := ⟨_, rfl⟩
theorem st8_3 {g : zG} {ad : Nat → Nat} {F : Nat → Nat → Int32} (k : Nat) : okk8 g ad 0 3 k (ctk8 g ad F 3 k) := ⟨0, by decide, by decide, rfl⟩
theorem st8_4 {g : zG} {ad : Nat → Nat} {F : Nat → Nat → Int32} (k : Nat) : okk8 g ad 0 4 k (ctk8 g ad F 4 k) := ⟨_, rfl⟩
theorem st8_5 {g : zG} {ad : Nat → Nat} {F : Nat → Nat → Int32} (k : Nat) : okk8 g ad 0 5 k (ctk8 g ad F 5 k) := by
    show Sum.inl (g.2 5, 4, _) = Sum.inl (g.2 5, 4, _)
    rw [zS_F5]
theorem st8_6 {g : zG} {ad : Nat → Nat} {F : Nat → Nat → Int32} (k : Nat) : okk8 g ad 0 6 k (ctk8 g ad F 6 k) := ⟨0, by decide, by decide, rfl⟩
theorem st8_7 {g : zG} {ad : Nat → Nat} {F : Nat → Nat → Int32} (k : Nat) : okk8 g ad 0 7 k (ctk8 g ad F 7 k) := ⟨_, rfl⟩
theorem st8_8 {g : zG} {ad : Nat → Nat} {F : Nat → Nat → Int32} (k : Nat) : okk8 g ad 0 8 k (ctk8 g ad F 8 k) := ⟨_, rfl⟩
theorem st8_9 {g : zG} {ad : Nat → Nat} {F : Nat → Nat → Int32} (k : Nat) : okk8 g ad 0 9 k (ctk8 g ad F 9 k) := ⟨_, fun i hi => by
    match i, hi with
    | 0, _ => exact ⟨0, by decide, rfl⟩
    | 1, _ => exact ⟨1, by decide, rfl⟩
    | 2, _ => exact ⟨2, by decide, rfl⟩
    | 3, _ => exact ⟨3, by decide, rfl⟩
    | 4, _ => exact ⟨4, by decide, rfl⟩
    | 5, _ => exact ⟨5, by decide, rfl⟩
    | 6, _ => exact ⟨6, by decide, rfl⟩
    | 7, _ => exact ⟨7, by decide, rfl⟩
    | n + 8, h => exact absurd h (by omega), rfl⟩
theorem st8_10 {g : zG} {ad : Nat → Nat} {F : Nat → Nat → Int32} (k : Nat) : okk8 g ad 0 10 k (ctk8 g ad F 10 k) := ⟨0, 0, 0, 0, by decide, by decide, by decide, by decide, rfl⟩
theorem st8_11 {g : zG} {ad : Nat → Nat} {F : Nat → Nat → Int32} (k : Nat) : okk8 g ad 0 11 k (ctk8 g ad F 11 k) := ⟨_, rfl⟩
theorem st8_12 {g : zG} {ad : Nat → Nat} {F : Nat → Nat → Int32} (k : Nat) : okk8 g ad 0 12 k (ctk8 g ad F 12 k) := ⟨_, fun j _ => by show _ ≤ (0 : Int32).toInt ∧ (0 : Int32).toInt ≤ _; decide, rfl⟩
theorem st8_13 {g : zG} {ad : Nat → Nat} {F : Nat → Nat → Int32} (k : Nat) : okk8 g ad 0 13 k (ctk8 g ad F 13 k) := ⟨_, fun j _ => by show _ ≤ (0 : Int32).toInt ∧ (0 : Int32).toInt ≤ _; decide, rfl⟩
theorem st8_14 {g : zG} {ad : Nat → Nat} {F : Nat → Nat → Int32} (k : Nat) : okk8 g ad 0 14 k (ctk8 g ad F 14 k) := ⟨_, rfl⟩
theorem st8_15 {g : zG} {ad : Nat → Nat} {F : Nat → Nat → Int32} (k : Nat) : okk8 g ad 0 15 k (ctk8 g ad F 15 k) := ⟨_, rfl⟩
theorem st8_16 {g : zG} {ad : Nat → Nat} {F : Nat → Nat → Int32} (k : Nat) : okk8 g ad 0 16 k (ctk8 g ad F 16 k) := ⟨_, rfl⟩
theorem st8_17 {g : zG} {ad : Nat → Nat} {F : Nat → Nat → Int32} (k : Nat) : okk8 g ad 0 17 k (ctk8 g ad F 17 k) := ⟨0, 1, by decide, by decide, rfl⟩
theorem st8_18 {g : zG} {ad : Nat → Nat} {F : Nat → Nat → Int32} (k : Nat) : okk8 g ad 0 18 k (ctk8 g ad F 18 k) := ⟨_, rfl⟩
theorem st8_19 {g : zG} {ad : Nat → Nat} {F : Nat → Nat → Int32} (k : Nat) : okk8 g ad 0 19 k (ctk8 g ad F 19 k) := ⟨_, rfl⟩
theorem st8_20 {g : zG} {ad : Nat → Nat} {F : Nat → Nat → Int32} (k : Nat) : okk8 g ad 0 20 k (ctk8 g ad F 20 k) := ⟨1, _, by decide, by decide, rfl⟩
theorem st8_21 {g : zG} {ad : Nat → Nat} {F : Nat → Nat → Int32} (k : Nat) : okk8 g ad 0 21 k (ctk8 g ad F 21 k) := ⟨(-1), 0, 0, by decide, by decide, rfl⟩
theorem st8_22 {g : zG} {ad : Nat → Nat} {F : Nat → Nat → Int32} (k : Nat) : okk8 g ad 0 22 k (ctk8 g ad F 22 k) := by
    show Sum.inl (g.2 7, 4, _) = Sum.inl (g.2 7, 4, _)
    rw [zS_F22]
theorem st8_23 {g : zG} {ad : Nat → Nat} {F : Nat → Nat → Int32} (k : Nat) : okk8 g ad 0 23 k (ctk8 g ad F 23 k) := by
    show Sum.inl (g.2 7, 4, _) = Sum.inl (g.2 7, 4, _)
    rw [zS_F23]
theorem st8_24 {g : zG} {ad : Nat → Nat} {F : Nat → Nat → Int32} (k : Nat) : okk8 g ad 0 24 k (ctk8 g ad F 24 k) := ⟨_, rfl⟩
theorem st8_25 {g : zG} {ad : Nat → Nat} {F : Nat → Nat → Int32} (k : Nat) : okk8 g ad 0 25 k (ctk8 g ad F 25 k) := ⟨_, fun j _ => by show _ ≤ (0 : Int32).toInt ∧ (0 : Int32).toInt ≤ _; decide, rfl⟩
theorem st8_26 {g : zG} {ad : Nat → Nat} {F : Nat → Nat → Int32} (k : Nat) : okk8 g ad 0 26 k (ctk8 g ad F 26 k) := ⟨_, rfl⟩
theorem st8_34 {g : zG} {ad : Nat → Nat} {F : Nat → Nat → Int32} (k : Nat) : okk8 g ad 0 34 k (ctk8 g ad F 34 k) := ⟨_, rfl⟩
theorem st8_35 {g : zG} {ad : Nat → Nat} {F : Nat → Nat → Int32} (k : Nat) : okk8 g ad 0 35 k (ctk8 g ad F 35 k) := ⟨1, 0, by decide, by decide, rfl⟩
theorem st8_38 {g : zG} {ad : Nat → Nat} {F : Nat → Nat → Int32} (k : Nat) : okk8 g ad 0 38 k (ctk8 g ad F 38 k) := ⟨_, rfl⟩
theorem st8_39 {g : zG} {ad : Nat → Nat} {F : Nat → Nat → Int32} (k : Nat) : okk8 g ad 0 39 k (ctk8 g ad F 39 k) := ⟨_, rfl⟩
theorem st8_40 {g : zG} {ad : Nat → Nat} {F : Nat → Nat → Int32} (k : Nat) : okk8 g ad 0 40 k (ctk8 g ad F 40 k) := ⟨0, 0, 1, by decide, by decide, by decide, by decide, Or.inr rfl, rfl⟩
theorem st8_41 {g : zG} {ad : Nat → Nat} {F : Nat → Nat → Int32} (k : Nat) : okk8 g ad 0 41 k (ctk8 g ad F 41 k) := ⟨_, rfl⟩
theorem st8_42 {g : zG} {ad : Nat → Nat} {F : Nat → Nat → Int32} (k : Nat) : okk8 g ad 0 42 k (ctk8 g ad F 42 k) := by
    show Sum.inl (g.2 7, 8, _) = Sum.inl (g.2 7, 8, _)
    rw [zS_F42]
theorem st8_43 {g : zG} {ad : Nat → Nat} {F : Nat → Nat → Int32} (k : Nat) : okk8 g ad 0 43 k (ctk8 g ad F 43 k) := ⟨_, rfl⟩
theorem st8_44 {g : zG} {ad : Nat → Nat} {F : Nat → Nat → Int32} (k : Nat) : okk8 g ad 0 44 k (ctk8 g ad F 44 k) := ⟨0, (-1), 0, 0, 0, (-1), 0, 0, 0, Or.inl rfl, by decide, by decide, by decide, by decide, Or.inl rfl, rfl⟩
theorem st8_45 {g : zG} {ad : Nat → Nat} {F : Nat → Nat → Int32} (k : Nat) : okk8 g ad 0 45 k (ctk8 g ad F 45 k) := ⟨_, rfl⟩
theorem st8_46 {g : zG} {ad : Nat → Nat} {F : Nat → Nat → Int32} (k : Nat) : okk8 g ad 0 46 k (ctk8 g ad F 46 k) := ⟨_, rfl⟩
def kinds8 : List Nat := [0, 1, 2, 3, 4, 5, 6, 7, 8, 9, 10, 11, 12, 13, 14, 15, 16, 17, 18, 19, 20, 21, 22, 23, 24, 25, 26, 34, 35, 36, 37, 38, 39, 40, 41, 42, 43, 44, 45, 46]
def kinds8b : List Nat := [0, 1, 2, 3, 4, 5, 6, 7, 8, 9, 10, 11, 12, 13, 14, 15, 16, 17, 18, 19, 20, 21, 22, 23, 24, 25, 26, 34, 35, 38, 39, 40, 41, 42, 43, 44, 45, 46]
theorem st8_all {g : zG} {ad : Nat → Nat} {F : Nat → Nat → Int32} : ∀ kd ∈ kinds8b, ∀ k, 35 ≤ k ∨ True → (kd = 36 ∨ kd = 37 ∨ True) → okk8 g ad 0 kd k (ctk8 g ad F kd k) := List.forall_mem_cons.mpr ⟨fun k _ _ => st8_0 k, List.forall_mem_cons.mpr ⟨fun k _ _ => st8_1 k, List.forall_mem_cons.mpr ⟨fun k _ _ => st8_2 k, List.forall_mem_cons.mpr ⟨fun k _ _ => st8_3 k, List.forall_mem_cons.mpr ⟨fun k _ _ => st8_4 k, List.forall_mem_cons.mpr ⟨fun k _ _ => st8_5 k, List.forall_mem_cons.mpr ⟨fun k _ _ => st8_6 k, List.forall_mem_cons.mpr ⟨fun k _ _ => st8_7 k, List.forall_mem_cons.mpr ⟨fun k _ _ => st8_8 k, List.forall_mem_cons.mpr ⟨fun k _ _ => st8_9 k, List.forall_mem_cons.mpr ⟨fun k _ _ => st8_10 k, List.forall_mem_cons.mpr ⟨fun k _ _ => st8_11 k, List.forall_mem_cons.mpr ⟨fun k _ _ => st8_12 k, List.forall_mem_cons.mpr ⟨fun k _ _ => st8_13 k, List.forall_mem_cons.mpr ⟨fun k _ _ => st8_14 k, List.forall_mem_cons.mpr ⟨fun k _ _ => st8_15 k, List.forall_mem_cons.mpr ⟨fun k _ _ => st8_16 k, List.forall_mem_cons.mpr ⟨fun k _ _ => st8_17 k, List.forall_mem_cons.mpr ⟨fun k _ _ => st8_18 k, List.forall_mem_cons.mpr ⟨fun k _ _ => st8_19 k, List.forall_mem_cons.mpr ⟨fun k _ _ => st8_20 k, List.forall_mem_cons.mpr ⟨fun k _ _ => st8_21 k, List.forall_mem_cons.mpr ⟨fun k _ _ => st8_22 k, List.forall_mem_cons.mpr ⟨fun k _ _ => st8_23 k, List.forall_mem_cons.mpr ⟨fun k _ _ => st8_24 k, List.forall_mem_cons.mpr ⟨fun k _ _ => st8_25 k, List.forall_mem_cons.mpr ⟨fun k _ _ => st8_26 k, List.forall_mem_cons.mpr ⟨fun k _ _ => st8_34 k, List.forall_mem_cons.mpr ⟨fun k _ _ => st8_35 k, List.forall_mem_cons.mpr ⟨fun k _ _ => st8_38 k, List.forall_mem_cons.mpr ⟨fun k _ _ => st8_39 k, List.forall_mem_cons.mpr ⟨fun k _ _ => st8_40 k, List.forall_mem_cons.mpr ⟨fun k _ _ => st8_41 k, List.forall_mem_cons.mpr ⟨fun k _ _ => st8_42 k, List.forall_mem_cons.mpr ⟨fun k _ _ => st8_43 k, List.forall_mem_cons.mpr ⟨fun k _ _ => st8_44 k, List.forall_mem_cons.mpr ⟨fun k _ _ => st8_45 k, List.forall_mem_cons.mpr ⟨fun k _ _ => st8_46 k, fun _ h => absurd h List.not_mem_nil⟩⟩⟩⟩⟩⟩⟩⟩⟩⟩⟩⟩⟩⟩⟩⟩⟩⟩⟩⟩⟩⟩⟩⟩⟩⟩⟩⟩⟩⟩⟩⟩⟩⟩⟩⟩⟩⟩
set_option maxRecDepth 20000 in
theorem kinds8_in : ∀ k, k < 126 → kd8 k ∈ kinds8 := by decide +kernel
theorem zT_0 {ad : Nat → Nat} {n o : Nat} (hz : ∀ j, n ≤ j → ad j = 0) (h : n ≤ o) (j : Nat) : zTr ad o j = -1 := by
  unfold zTr
  rw [hz _ (by omega)]
  rfl
def bareS (j : Nat) : Int32 := if j = 32 then 16 else if j < 16 then 1 else 0
theorem bareS_of {f : Nat → Int32} (h : ∀ j, j < 32 → f j = if j < 16 then 1 else 0) : ∀ j, j < 33 → upd f 32 16 j = bareS j := fun j hj => by
  unfold bareS
  by_cases q : j = 32
  · rw [if_pos q, q]
    exact pk_us
  · rw [if_neg q, pk_un q, h j (by omega)]
theorem zblN_start {T : Nat → Int} (hT : ∀ i, i < 32 → T i = -1) {j : Nat} (hj : j < 33) : (bareS j).toInt = zblN T j 16 := by
  unfold bareS
  by_cases q : j = 32
  · rw [if_pos q, q, zblN_all]
    decide
  · rw [if_neg q, zblN_bare hT j (by omega) 16 (by omega)]
    by_cases q2 : j < 16
    · rw [if_pos q2, if_pos q2]
      decide
    · rw [if_neg q2, if_neg q2]
      decide
theorem st8_36 {g : zG} {ad : Nat → Nat} {F : Nat → Nat → Int32} (k : Nat) (hz : ∀ j, 126 ≤ j → ad j = 0) (hF : ∀ j, j < 32 → F k j = -1) : okk8 g ad 0 36 k (ctk8 g ad F 36 k) := ⟨_, fun j hj => (show (F k j).toInt = zTr ad _ j from by rw [hF j hj, zT_0 hz (by omega)]; decide), rfl⟩
theorem st8_37 {g : zG} {ad : Nat → Nat} {F : Nat → Nat → Int32} (k : Nat) (hz : ∀ j, 126 ≤ j → ad j = 0) (hF : ∀ j, j < 33 → F k j = bareS j) : okk8 g ad 0 37 k (ctk8 g ad F 37 k) := ⟨_, fun j hj => (show (F k j).toInt = zblN (zTr ad _) j 16 from by rw [hF j hj]; exact zblN_start (fun i _ => zT_0 hz (by omega) i) hj), rfl⟩
theorem kinds8_b : ∀ d ∈ kinds8, d = 36 ∨ d = 37 ∨ d ∈ kinds8b := by decide +kernel
theorem start8 {g : zG} {ad : Nat → Nat} {F : Nat → Nat → Int32} (hz : ∀ j, 126 ≤ j → ad j = 0) (h36 : ∀ k, (k = 36 ∨ k = 41 ∨ k = 46 ∨ k = 51) → ∀ j, j < 32 → F k j = -1) (h37 : ∀ k, (k = 37 ∨ k = 42 ∨ k = 47 ∨ k = 52) → ∀ j, j < 33 → F k j = bareS j) : Inv8 g ad 0 (cts8 g ad F) := ⟨by decide, fun k hk => by
  show okk8 g ad 0 (kd8 k) k (ctk8 g ad F (kd8 k) k)
  rcases kinds8_b _ (kinds8_in k hk) with q | q | q
  · have := kd8_col q
    rw [q]
    exact st8_36 k hz (h36 k (by omega))
  · have := kd8_col2 q
    rw [q]
    exact st8_37 k hz (h37 k (by omega))
  · exact st8_all _ q k (Or.inr trivial) (Or.inr (Or.inr trivial))⟩
def cts9 (g : zG) (ad : Nat → Nat) (F1 F2 F22 : Nat → Int32) (k : Nat) : va_E := match k with
  | 0 => .inr (9, [.int 0, .ref (ad (1)), .ref (ad (2)), .ref (ad (3)), .ref (ad (4)), .int 0, .int 0, .int 0, .int 0, .ref (ad (5)), .ref (ad (6)), .ref (ad (7)), .ref (ad (8)), .ref (ad (9)), .ref (ad (10)), .ref (ad (11)), .int 0, .int 0, .int 0, .int 0, .int 0, .int 0, .int 0, .int 0, .ref (ad (12)), .ref (ad (13)), .ref (ad (14)), .ref (ad (15)), .ref (ad (16)), .ref (ad (17)), .ref (ad (18)), .ref (ad (19)), .ref (ad (20)), .ref (ad (21)), .ref (ad (22)), .ref (ad (23)), .ref (ad (24)), .ref (ad (25)), .ref (ad (26)), .ref (ad (27)), .int 0, .int 0, .ref (ad (28)), .ref (ad (29)), .ref (ad (30)), .ref (ad (31)), .int 0])
  | 1 => .inl (g.2 0, 128, .inl F1)
  | 2 => .inl (g.2 0, 4, .inl F2)
  | 3 => .inl (g.2 0, 64, .inl (fun _ => 0))
  | 4 => .inl (g.2 0, 16, .inl (fun _ => 0))
  | 5 => .inl (g.2 0, 4, .inl (fun _ => 0))
  | 6 => .inl (g.2 0, 32, .inl (fun _ => 0))
  | 7 => .inl (g.2 0, 128, .inl (fun _ => 0))
  | 8 => .inl (g.2 0, 40, .inl (fun _ => 0))
  | 9 => .inl (g.2 0, 40, .inl (fun _ => 0))
  | 10 => .inl (g.2 3, 32, .inl (fun _ => 0))
  | 11 => .inl (g.2 2, 200, .inl (fun _ => 0))
  | 12 => .inl (g.2 0, 120, .inl (fun _ => 0))
  | 13 => .inl (g.2 0, 120, .inl (fun _ => 0))
  | 14 => .inl (g.2 0, 960, .inl (fun _ => 0))
  | 15 => .inl (g.2 0, 8, .inl (fun _ => 0))
  | 16 => .inl (g.2 0, 8, .inl (fun _ => 0))
  | 17 => .inl (g.2 0, 120, .inl (fun _ => 0))
  | 18 => .inl (g.2 0, 7, .inl (fun _ => 0))
  | 19 => .inl (g.2 3, 32, .inl (fun _ => 0))
  | 20 => .inl (g.2 0, 8, .inl (fun _ => 0))
  | 21 => .inl (g.2 1, 65536, .inr (.inl (fun _ => 0)))
  | 22 => .inl (g.2 0, 65536, .inl F22)
  | 23 => .inl (g.2 0, 8, .inl (fun _ => 0))
  | 24 => .inl (g.2 0, 16, .inl (fun _ => 0))
  | 25 => .inl (g.2 0, 16, .inl (fun _ => 0))
  | 26 => .inl (g.2 0, 16, .inl (fun _ => 0))
  | 27 => .inl (g.2 0, 8, .inl (fun _ => 0))
  | 28 => .inl (g.2 0, 16, .inl (fun _ => 0))
  | 29 => .inl (g.2 0, 128, .inl (fun _ => 0))
  | 30 => .inl (g.2 0, 65536, .inl (fun _ => 0))
  | 31 => .inl (g.2 0, 4, .inl (fun _ => 0))
  | _ => .inr (0, [])
theorem st9_0 {g : zG} {ad : Nat → Nat} {F1 F2 F22 : Nat → Int32} (hz : ∀ j, 32 ≤ j → ad j = 0) (h1 : ∀ j, j < 128 → F1 j = -1) : okk9 g ad 0 0 (cts9 g ad F1 F2 F22 0) := ⟨0, 0, 0, 0, 0, 0, 0, 0, 0, 0, 0, 0, 0, 0, 0, by decide, by decide, by decide, by decide, by decide, by decide, by decide, by decide, by decide, by decide, by decide, by decide, by decide, by decide, by decide, by decide, by decide, by decide, by decide, by decide, rfl⟩
theorem st9_1 {g : zG} {ad : Nat → Nat} {F1 F2 F22 : Nat → Int32} (hz : ∀ j, 32 ≤ j → ad j = 0) (h1 : ∀ j, j < 128 → F1 j = -1) : okk9 g ad 0 1 (cts9 g ad F1 F2 F22 1) := ⟨_, fun j hj => ⟨(show (F1 j).toInt = _ from by rw [h1 j hj, zT_0 hz (by omega)]; decide), Or.inl (by rw [h1 j hj]; decide)⟩, rfl⟩
theorem st9_2 {g : zG} {ad : Nat → Nat} {F1 F2 F22 : Nat → Int32} (hz : ∀ j, 32 ≤ j → ad j = 0) (h1 : ∀ j, j < 128 → F1 j = -1) : okk9 g ad 0 2 (cts9 g ad F1 F2 F22 2) := ⟨_, rfl⟩
theorem st9_3 {g : zG} {ad : Nat → Nat} {F1 F2 F22 : Nat → Int32} (hz : ∀ j, 32 ≤ j → ad j = 0) (h1 : ∀ j, j < 128 → F1 j = -1) : okk9 g ad 0 3 (cts9 g ad F1 F2 F22 3) := ⟨_, fun j _ => by show _ ≤ (0 : Int32).toInt ∧ (0 : Int32).toInt ≤ _; decide, rfl⟩
theorem st9_4 {g : zG} {ad : Nat → Nat} {F1 F2 F22 : Nat → Int32} (hz : ∀ j, 32 ≤ j → ad j = 0) (h1 : ∀ j, j < 128 → F1 j = -1) : okk9 g ad 0 4 (cts9 g ad F1 F2 F22 4) := ⟨_, rfl⟩
theorem st9_5 {g : zG} {ad : Nat → Nat} {F1 F2 F22 : Nat → Int32} (hz : ∀ j, 32 ≤ j → ad j = 0) (h1 : ∀ j, j < 128 → F1 j = -1) : okk9 g ad 0 5 (cts9 g ad F1 F2 F22 5) := ⟨_, fun j _ => by show _ ≤ (0 : Int32).toInt ∧ (0 : Int32).toInt ≤ _; decide, rfl⟩
theorem st9_6 {g : zG} {ad : Nat → Nat} {F1 F2 F22 : Nat → Int32} (hz : ∀ j, 32 ≤ j → ad j = 0) (h1 : ∀ j, j < 128 → F1 j = -1) : okk9 g ad 0 6 (cts9 g ad F1 F2 F22 6) := ⟨_, fun j _ => by show _ ≤ (0 : Int32).toInt ∧ (0 : Int32).toInt ≤ _; decide, rfl⟩
theorem st9_7 {g : zG} {ad : Nat → Nat} {F1 F2 F22 : Nat → Int32} (hz : ∀ j, 32 ≤ j → ad j = 0) (h1 : ∀ j, j < 128 → F1 j = -1) : okk9 g ad 0 7 (cts9 g ad F1 F2 F22 7) := ⟨_, fun j _ => by show _ ≤ (0 : Int32).toInt ∧ (0 : Int32).toInt ≤ _; decide, rfl⟩
theorem st9_8 {g : zG} {ad : Nat → Nat} {F1 F2 F22 : Nat → Int32} (hz : ∀ j, 32 ≤ j → ad j = 0) (h1 : ∀ j, j < 128 → F1 j = -1) : okk9 g ad 0 8 (cts9 g ad F1 F2 F22 8) := ⟨_, fun j _ => by show _ ≤ (0 : Int32).toInt ∧ (0 : Int32).toInt ≤ _; decide, rfl⟩
theorem st9_9 {g : zG} {ad : Nat → Nat} {F1 F2 F22 : Nat → Int32} (hz : ∀ j, 32 ≤ j → ad j = 0) (h1 : ∀ j, j < 128 → F1 j = -1) : okk9 g ad 0 9 (cts9 g ad F1 F2 F22 9) := ⟨_, fun j _ => by show _ ≤ (0 : Int32).toInt ∧ (0 : Int32).toInt ≤ _; decide, rfl⟩
theorem st9_10 {g : zG} {ad : Nat → Nat} {F1 F2 F22 : Nat → Int32} (hz : ∀ j, 32 ≤ j → ad j = 0) (h1 : ∀ j, j < 128 → F1 j = -1) : okk9 g ad 0 10 (cts9 g ad F1 F2 F22 10) := ⟨_, fun j _ => Or.inl rfl, rfl⟩
theorem st9_11 {g : zG} {ad : Nat → Nat} {F1 F2 F22 : Nat → Int32} (hz : ∀ j, 32 ≤ j → ad j = 0) (h1 : ∀ j, j < 128 → F1 j = -1) : okk9 g ad 0 11 (cts9 g ad F1 F2 F22 11) := ⟨_, rfl⟩
theorem st9_12 {g : zG} {ad : Nat → Nat} {F1 F2 F22 : Nat → Int32} (hz : ∀ j, 32 ≤ j → ad j = 0) (h1 : ∀ j, j < 128 → F1 j = -1) : okk9 g ad 0 12 (cts9 g ad F1 F2 F22 12) := ⟨_, rfl⟩
theorem st9_13 {g : zG} {ad : Nat → Nat} {F1 F2 F22 : Nat → Int32} (hz : ∀ j, 32 ≤ j → ad j = 0) (h1 : ∀ j, j < 128 → F1 j = -1) : okk9 g ad 0 13 (cts9 g ad F1 F2 F22 13) := ⟨_, rfl⟩
theorem st9_14 {g : zG} {ad : Nat → Nat} {F1 F2 F22 : Nat → Int32} (hz : ∀ j, 32 ≤ j → ad j = 0) (h1 : ∀ j, j < 128 → F1 j = -1) : okk9 g ad 0 14 (cts9 g ad F1 F2 F22 14) := ⟨_, rfl⟩
theorem st9_15 {g : zG} {ad : Nat → Nat} {F1 F2 F22 : Nat → Int32} (hz : ∀ j, 32 ≤ j → ad j = 0) (h1 : ∀ j, j < 128 → F1 j = -1) : okk9 g ad 0 15 (cts9 g ad F1 F2 F22 15) := ⟨_, rfl⟩
theorem st9_16 {g : zG} {ad : Nat → Nat} {F1 F2 F22 : Nat → Int32} (hz : ∀ j, 32 ≤ j → ad j = 0) (h1 : ∀ j, j < 128 → F1 j = -1) : okk9 g ad 0 16 (cts9 g ad F1 F2 F22 16) := ⟨_, fun j _ => by show _ ≤ (0 : Int32).toInt ∧ (0 : Int32).toInt ≤ _; decide, rfl⟩
theorem st9_17 {g : zG} {ad : Nat → Nat} {F1 F2 F22 : Nat → Int32} (hz : ∀ j, 32 ≤ j → ad j = 0) (h1 : ∀ j, j < 128 → F1 j = -1) : okk9 g ad 0 17 (cts9 g ad F1 F2 F22 17) := ⟨_, rfl⟩
theorem st9_18 {g : zG} {ad : Nat → Nat} {F1 F2 F22 : Nat → Int32} (hz : ∀ j, 32 ≤ j → ad j = 0) (h1 : ∀ j, j < 128 → F1 j = -1) : okk9 g ad 0 18 (cts9 g ad F1 F2 F22 18) := ⟨_, rfl⟩
theorem st9_19 {g : zG} {ad : Nat → Nat} {F1 F2 F22 : Nat → Int32} (hz : ∀ j, 32 ≤ j → ad j = 0) (h1 : ∀ j, j < 128 → F1 j = -1) : okk9 g ad 0 19 (cts9 g ad F1 F2 F22 19) := ⟨_, fun j _ => Or.inl rfl, rfl⟩
theorem st9_20 {g : zG} {ad : Nat → Nat} {F1 F2 F22 : Nat → Int32} (hz : ∀ j, 32 ≤ j → ad j = 0) (h1 : ∀ j, j < 128 → F1 j = -1) : okk9 g ad 0 20 (cts9 g ad F1 F2 F22 20) := ⟨_, fun j _ => by show _ ≤ (0 : Int32).toInt ∧ (0 : Int32).toInt ≤ _; decide, rfl⟩
theorem st9_21 {g : zG} {ad : Nat → Nat} {F1 F2 F22 : Nat → Int32} (hz : ∀ j, 32 ≤ j → ad j = 0) (h1 : ∀ j, j < 128 → F1 j = -1) : okk9 g ad 0 21 (cts9 g ad F1 F2 F22 21) := ⟨_, rfl⟩
theorem st9_22 {g : zG} {ad : Nat → Nat} {F1 F2 F22 : Nat → Int32} (hz : ∀ j, 32 ≤ j → ad j = 0) (h1 : ∀ j, j < 128 → F1 j = -1) : okk9 g ad 0 22 (cts9 g ad F1 F2 F22 22) := ⟨_, rfl⟩
theorem st9_23 {g : zG} {ad : Nat → Nat} {F1 F2 F22 : Nat → Int32} (hz : ∀ j, 32 ≤ j → ad j = 0) (h1 : ∀ j, j < 128 → F1 j = -1) : okk9 g ad 0 23 (cts9 g ad F1 F2 F22 23) := ⟨_, fun j _ => by show _ ≤ (0 : Int32).toInt ∧ (0 : Int32).toInt ≤ _; decide, rfl⟩
theorem st9_24 {g : zG} {ad : Nat → Nat} {F1 F2 F22 : Nat → Int32} (hz : ∀ j, 32 ≤ j → ad j = 0) (h1 : ∀ j, j < 128 → F1 j = -1) : okk9 g ad 0 24 (cts9 g ad F1 F2 F22 24) := ⟨_, fun j _ => by show _ ≤ (0 : Int32).toInt ∧ (0 : Int32).toInt ≤ _; decide, rfl⟩
theorem st9_25 {g : zG} {ad : Nat → Nat} {F1 F2 F22 : Nat → Int32} (hz : ∀ j, 32 ≤ j → ad j = 0) (h1 : ∀ j, j < 128 → F1 j = -1) : okk9 g ad 0 25 (cts9 g ad F1 F2 F22 25) := ⟨_, fun j _ => by show _ ≤ (0 : Int32).toInt ∧ (0 : Int32).toInt ≤ _; decide, rfl⟩
theorem st9_26 {g : zG} {ad : Nat → Nat} {F1 F2 F22 : Nat → Int32} (hz : ∀ j, 32 ≤ j → ad j = 0) (h1 : ∀ j, j < 128 → F1 j = -1) : okk9 g ad 0 26 (cts9 g ad F1 F2 F22 26) := ⟨_, fun j _ => by show _ ≤ (0 : Int32).toInt ∧ (0 : Int32).toInt ≤ _; decide, rfl⟩
theorem st9_27 {g : zG} {ad : Nat → Nat} {F1 F2 F22 : Nat → Int32} (hz : ∀ j, 32 ≤ j → ad j = 0) (h1 : ∀ j, j < 128 → F1 j = -1) : okk9 g ad 0 27 (cts9 g ad F1 F2 F22 27) := ⟨_, rfl⟩
theorem st9_28 {g : zG} {ad : Nat → Nat} {F1 F2 F22 : Nat → Int32} (hz : ∀ j, 32 ≤ j → ad j = 0) (h1 : ∀ j, j < 128 → F1 j = -1) : okk9 g ad 0 28 (cts9 g ad F1 F2 F22 28) := ⟨_, fun j _ => by show _ ≤ (0 : Int32).toInt ∧ (0 : Int32).toInt ≤ _; decide, rfl⟩
theorem st9_29 {g : zG} {ad : Nat → Nat} {F1 F2 F22 : Nat → Int32} (hz : ∀ j, 32 ≤ j → ad j = 0) (h1 : ∀ j, j < 128 → F1 j = -1) : okk9 g ad 0 29 (cts9 g ad F1 F2 F22 29) := ⟨_, rfl⟩
theorem st9_30 {g : zG} {ad : Nat → Nat} {F1 F2 F22 : Nat → Int32} (hz : ∀ j, 32 ≤ j → ad j = 0) (h1 : ∀ j, j < 128 → F1 j = -1) : okk9 g ad 0 30 (cts9 g ad F1 F2 F22 30) := ⟨_, rfl⟩
theorem st9_31 {g : zG} {ad : Nat → Nat} {F1 F2 F22 : Nat → Int32} (hz : ∀ j, 32 ≤ j → ad j = 0) (h1 : ∀ j, j < 128 → F1 j = -1) : okk9 g ad 0 31 (cts9 g ad F1 F2 F22 31) := ⟨_, fun j _ => by show _ ≤ (0 : Int32).toInt ∧ (0 : Int32).toInt ≤ _; decide, rfl⟩
def kinds9 : List Nat := [0, 1, 2, 3, 4, 5, 6, 7, 8, 9, 10, 11, 12, 13, 14, 15, 16, 17, 18, 19, 20, 21, 22, 23, 24, 25, 26, 27, 28, 29, 30, 31]
theorem st9_all {g : zG} {ad : Nat → Nat} {F1 F2 F22 : Nat → Int32} (hz : ∀ j, 32 ≤ j → ad j = 0) (h1 : ∀ j, j < 128 → F1 j = -1) : ∀ k ∈ kinds9, okk9 g ad 0 k (cts9 g ad F1 F2 F22 k) := List.forall_mem_cons.mpr ⟨st9_0 hz h1, List.forall_mem_cons.mpr ⟨st9_1 hz h1, List.forall_mem_cons.mpr ⟨st9_2 hz h1, List.forall_mem_cons.mpr ⟨st9_3 hz h1, List.forall_mem_cons.mpr ⟨st9_4 hz h1, List.forall_mem_cons.mpr ⟨st9_5 hz h1, List.forall_mem_cons.mpr ⟨st9_6 hz h1, List.forall_mem_cons.mpr ⟨st9_7 hz h1, List.forall_mem_cons.mpr ⟨st9_8 hz h1, List.forall_mem_cons.mpr ⟨st9_9 hz h1, List.forall_mem_cons.mpr ⟨st9_10 hz h1, List.forall_mem_cons.mpr ⟨st9_11 hz h1, List.forall_mem_cons.mpr ⟨st9_12 hz h1, List.forall_mem_cons.mpr ⟨st9_13 hz h1, List.forall_mem_cons.mpr ⟨st9_14 hz h1, List.forall_mem_cons.mpr ⟨st9_15 hz h1, List.forall_mem_cons.mpr ⟨st9_16 hz h1, List.forall_mem_cons.mpr ⟨st9_17 hz h1, List.forall_mem_cons.mpr ⟨st9_18 hz h1, List.forall_mem_cons.mpr ⟨st9_19 hz h1, List.forall_mem_cons.mpr ⟨st9_20 hz h1, List.forall_mem_cons.mpr ⟨st9_21 hz h1, List.forall_mem_cons.mpr ⟨st9_22 hz h1, List.forall_mem_cons.mpr ⟨st9_23 hz h1, List.forall_mem_cons.mpr ⟨st9_24 hz h1, List.forall_mem_cons.mpr ⟨st9_25 hz h1, List.forall_mem_cons.mpr ⟨st9_26 hz h1, List.forall_mem_cons.mpr ⟨st9_27 hz h1, List.forall_mem_cons.mpr ⟨st9_28 hz h1, List.forall_mem_cons.mpr ⟨st9_29 hz h1, List.forall_mem_cons.mpr ⟨st9_30 hz h1, List.forall_mem_cons.mpr ⟨st9_31 hz h1, fun _ h => absurd h List.not_mem_nil⟩⟩⟩⟩⟩⟩⟩⟩⟩⟩⟩⟩⟩⟩⟩⟩⟩⟩⟩⟩⟩⟩⟩⟩⟩⟩⟩⟩⟩⟩⟩⟩
theorem kinds9_in : ∀ k, k < 32 → k ∈ kinds9 := by decide +kernel
theorem start9 {g : zG} {ad : Nat → Nat} {F1 F2 F22 : Nat → Int32} (hz : ∀ j, 32 ≤ j → ad j = 0) (h1 : ∀ j, j < 128 → F1 j = -1) : IR g ad 0 (cts9 g ad F1 F2 F22) := ⟨⟨by decide, fun k hk => st9_all hz h1 k (kinds9_in k hk)⟩, fun h hh _ => ⟨g.2 0, g.2 0, (fun _ => 0), (fun _ => 0), rfl, rfl, Or.inl (by show (0 : Int32).toInt ≤ _; rw [show (0 : Int32).toInt = 0 by decide]; omega)⟩⟩

section GWR
variable {l : Launch} {g : zG} {P Pf : Nat → Bool} {al : Bool} {yM : MethodName} {cc : ByteArray} {mL : Nat} {rt : Option FieldType} {own : String} {rm : Room} {K : (Nat → va_E) → Option Value → Prop} {cn sn : Nat} {σ : Nat → va_E} {pc : Nat} {loc : List (Nat × Value)} {S : List Value}
theorem dv_iconst {n : Int} {v : Int32} (hdg : decode cc pc = .ok (.iconst n, 1)) (hv : Int32.ofInt n = v) (k : GW l g P Pf al yM cc mL rt own rm K cn sn σ (pc + 1) loc (.int v :: S)) : GW l g P Pf al yM cc mL rt own rm K cn sn σ pc loc S := k.go1 (fun _ _ _ _ _ _ _ _ _ _ _ _ ls _ hC hP hl kk => lv_iconst hC.1 hC.2.1 hdg hv (kk ls hl))
theorem dv_bipush {n : Int} {v : Int32} (hdg : decode cc pc = .ok (.bipush n, 2)) (hv : (Int8.ofInt n).toInt32 = v) (k : GW l g P Pf al yM cc mL rt own rm K cn sn σ (pc + 2) loc (.int v :: S)) : GW l g P Pf al yM cc mL rt own rm K cn sn σ pc loc S := k.go1 (fun _ _ _ _ _ _ _ _ _ _ _ _ ls _ hC hP hl kk => lv_bipush hC.1 hC.2.1 hdg hv (kk ls hl))
theorem dv_sipush {n : Int} {v : Int32} (hdg : decode cc pc = .ok (.sipush n, 3)) (hv : (Int16.ofInt n).toInt32 = v) (k : GW l g P Pf al yM cc mL rt own rm K cn sn σ (pc + 3) loc (.int v :: S)) : GW l g P Pf al yM cc mL rt own rm K cn sn σ pc loc S := k.go1 (fun _ _ _ _ _ _ _ _ _ _ _ _ ls _ hC hP hl kk => lv_sipush hC.1 hC.2.1 hdg hv (kk ls hl))
theorem dv_lconst {n : Fin 2} {v : Int64} (hdg : decode cc pc = .ok (.lconst n, 1)) (hv : Int64.ofNat (n : Nat) = v) (k : GW l g P Pf al yM cc mL rt own rm K cn sn σ (pc + 1) loc (.long v :: S)) : GW l g P Pf al yM cc mL rt own rm K cn sn σ pc loc S := k.go1 (fun _ _ _ _ _ _ _ _ _ _ _ _ ls _ hC hP hl kk => lv_lconst hC.1 hC.2.1 hdg hv (kk ls hl))
theorem dv_iadd {x y : Int32} (hdg : decode cc pc = .ok (.iadd, 1)) (k : GW l g P Pf al yM cc mL rt own rm K cn sn σ (pc + 1) loc (.int (x + y) :: S)) : GW l g P Pf al yM cc mL rt own rm K cn sn σ pc loc (.int y :: .int x :: S) := k.go1 (fun _ _ _ _ _ _ _ _ _ _ _ _ ls _ hC hP hl kk => lv_iadd hC.1 hC.2.1 hdg (kk ls hl))
theorem dv_isub {x y : Int32} (hdg : decode cc pc = .ok (.isub, 1)) (k : GW l g P Pf al yM cc mL rt own rm K cn sn σ (pc + 1) loc (.int (x - y) :: S)) : GW l g P Pf al yM cc mL rt own rm K cn sn σ pc loc (.int y :: .int x :: S) := k.go1 (fun _ _ _ _ _ _ _ _ _ _ _ _ ls _ hC hP hl kk => lv_isub hC.1 hC.2.1 hdg (kk ls hl))
theorem dv_imul {x y : Int32} (hdg : decode cc pc = .ok (.imul, 1)) (k : GW l g P Pf al yM cc mL rt own rm K cn sn σ (pc + 1) loc (.int (x * y) :: S)) : GW l g P Pf al yM cc mL rt own rm K cn sn σ pc loc (.int y :: .int x :: S) := k.go1 (fun _ _ _ _ _ _ _ _ _ _ _ _ ls _ hC hP hl kk => lv_imul hC.1 hC.2.1 hdg (kk ls hl))
theorem dv_iand {x y : Int32} (hdg : decode cc pc = .ok (.iand, 1)) (k : GW l g P Pf al yM cc mL rt own rm K cn sn σ (pc + 1) loc (.int (x &&& y) :: S)) : GW l g P Pf al yM cc mL rt own rm K cn sn σ pc loc (.int y :: .int x :: S) := k.go1 (fun _ _ _ _ _ _ _ _ _ _ _ _ ls _ hC hP hl kk => lv_iand hC.1 hC.2.1 hdg (kk ls hl))
theorem dv_ior {x y : Int32} (hdg : decode cc pc = .ok (.ior, 1)) (k : GW l g P Pf al yM cc mL rt own rm K cn sn σ (pc + 1) loc (.int (x ||| y) :: S)) : GW l g P Pf al yM cc mL rt own rm K cn sn σ pc loc (.int y :: .int x :: S) := k.go1 (fun _ _ _ _ _ _ _ _ _ _ _ _ ls _ hC hP hl kk => lv_ior hC.1 hC.2.1 hdg (kk ls hl))
theorem dv_ixor {x y : Int32} (hdg : decode cc pc = .ok (.ixor, 1)) (k : GW l g P Pf al yM cc mL rt own rm K cn sn σ (pc + 1) loc (.int (x ^^^ y) :: S)) : GW l g P Pf al yM cc mL rt own rm K cn sn σ pc loc (.int y :: .int x :: S) := k.go1 (fun _ _ _ _ _ _ _ _ _ _ _ _ ls _ hC hP hl kk => lv_ixor hC.1 hC.2.1 hdg (kk ls hl))
theorem dv_ishl {x y : Int32} (hdg : decode cc pc = .ok (.ishl, 1)) (k : GW l g P Pf al yM cc mL rt own rm K cn sn σ (pc + 1) loc (.int (x <<< (y &&& 31)) :: S)) : GW l g P Pf al yM cc mL rt own rm K cn sn σ pc loc (.int y :: .int x :: S) := k.go1 (fun _ _ _ _ _ _ _ _ _ _ _ _ ls _ hC hP hl kk => lv_ishl hC.1 hC.2.1 hdg (kk ls hl))
theorem dv_ishr {x y : Int32} (hdg : decode cc pc = .ok (.ishr, 1)) (k : GW l g P Pf al yM cc mL rt own rm K cn sn σ (pc + 1) loc (.int (x >>> (y &&& 31)) :: S)) : GW l g P Pf al yM cc mL rt own rm K cn sn σ pc loc (.int y :: .int x :: S) := k.go1 (fun _ _ _ _ _ _ _ _ _ _ _ _ ls _ hC hP hl kk => lv_ishr hC.1 hC.2.1 hdg (kk ls hl))
theorem dv_idiv {x y : Int32} (hdg : decode cc pc = .ok (.idiv, 1)) (hne : ¬ y = 0) (k : GW l g P Pf al yM cc mL rt own rm K cn sn σ (pc + 1) loc (.int (x / y) :: S)) : GW l g P Pf al yM cc mL rt own rm K cn sn σ pc loc (.int y :: .int x :: S) := k.go1 (fun _ _ _ _ _ _ _ _ _ _ _ _ ls _ hC hP hl kk => lv_idiv hC.1 hC.2.1 hdg hne (kk ls hl))
theorem dv_irem {x y : Int32} (hdg : decode cc pc = .ok (.irem, 1)) (hne : ¬ y = 0) (k : GW l g P Pf al yM cc mL rt own rm K cn sn σ (pc + 1) loc (.int (x - x / y * y) :: S)) : GW l g P Pf al yM cc mL rt own rm K cn sn σ pc loc (.int y :: .int x :: S) := k.go1 (fun _ _ _ _ _ _ _ _ _ _ _ _ ls _ hC hP hl kk => lv_irem hC.1 hC.2.1 hdg hne (kk ls hl))
theorem dv_ladd {x y : Int64} (hdg : decode cc pc = .ok (.ladd, 1)) (k : GW l g P Pf al yM cc mL rt own rm K cn sn σ (pc + 1) loc (.long (x + y) :: S)) : GW l g P Pf al yM cc mL rt own rm K cn sn σ pc loc (.long y :: .long x :: S) := k.go1 (fun _ _ _ _ _ _ _ _ _ _ _ _ ls _ hC hP hl kk => lv_ladd hC.1 hC.2.1 hdg (kk ls hl))
theorem dv_ldiv {x y : Int64} (hdg : decode cc pc = .ok (.ldiv, 1)) (hne : ¬ y = 0) (k : GW l g P Pf al yM cc mL rt own rm K cn sn σ (pc + 1) loc (.long (x / y) :: S)) : GW l g P Pf al yM cc mL rt own rm K cn sn σ pc loc (.long y :: .long x :: S) := k.go1 (fun _ _ _ _ _ _ _ _ _ _ _ _ ls _ hC hP hl kk => lv_ldiv hC.1 hC.2.1 hdg hne (kk ls hl))
theorem dv_lrem {x y : Int64} (hdg : decode cc pc = .ok (.lrem, 1)) (hne : ¬ y = 0) (k : GW l g P Pf al yM cc mL rt own rm K cn sn σ (pc + 1) loc (.long (x - x / y * y) :: S)) : GW l g P Pf al yM cc mL rt own rm K cn sn σ pc loc (.long y :: .long x :: S) := k.go1 (fun _ _ _ _ _ _ _ _ _ _ _ _ ls _ hC hP hl kk => lv_lrem hC.1 hC.2.1 hdg hne (kk ls hl))
theorem dv_iushr {x y v : Int32} (hdg : decode cc pc = .ok (.iushr, 1)) (hv : (x.toUInt32 >>> (y.toUInt32 &&& Int32.toUInt32 31)).toInt32 = v) (k : GW l g P Pf al yM cc mL rt own rm K cn sn σ (pc + 1) loc (.int v :: S)) : GW l g P Pf al yM cc mL rt own rm K cn sn σ pc loc (.int y :: .int x :: S) := k.go1 (fun _ _ _ _ _ _ _ _ _ _ _ _ ls _ hC hP hl kk => lv_iushr hC.1 hC.2.1 hdg hv (kk ls hl))
theorem dv_goto {off : Int} {tgt : Nat} (hdg : decode cc pc = .ok (.goto off, 3)) (ht : (pc : Int) + off = (tgt : Int)) (k : GW l g P Pf al yM cc mL rt own rm K cn sn σ tgt loc S) : GW l g P Pf al yM cc mL rt own rm K cn sn σ pc loc S := k.go1 (fun _ _ _ _ _ _ _ _ _ _ _ _ ls _ hC hP hl kk => lv_goto hC.1 hC.2.1 hdg ht (kk ls hl))
theorem dv_tableIn {dflt lo hi : Int} {offs : Array Int} {len : Nat} {x : Int32} {off : Int} {tgt : Nat} (hdg : decode cc pc = .ok (.tableswitch dflt lo hi offs, len)) (h1 : ¬ x.toInt < lo) (h2 : ¬ hi < x.toInt) (ho : offs[(x.toInt - lo).toNat]? = some off) (ht : (pc : Int) + off = (tgt : Int)) (k : GW l g P Pf al yM cc mL rt own rm K cn sn σ tgt loc S) : GW l g P Pf al yM cc mL rt own rm K cn sn σ pc loc (.int x :: S) := k.go1 (fun _ _ _ _ _ _ _ _ _ _ _ _ ls _ hC hP hl kk => lv_tableIn hC.1 hC.2.1 hdg h1 h2 ho ht (kk ls hl))
theorem dv_tableOut {dflt lo hi : Int} {offs : Array Int} {len : Nat} {x : Int32} {tgt : Nat} (hdg : decode cc pc = .ok (.tableswitch dflt lo hi offs, len)) (h : x.toInt < lo ∨ hi < x.toInt) (ht : (pc : Int) + dflt = (tgt : Int)) (k : GW l g P Pf al yM cc mL rt own rm K cn sn σ tgt loc S) : GW l g P Pf al yM cc mL rt own rm K cn sn σ pc loc (.int x :: S) := k.go1 (fun _ _ _ _ _ _ _ _ _ _ _ _ ls _ hC hP hl kk => lv_tableOut hC.1 hC.2.1 hdg h ht (kk ls hl))
theorem dv_lookup {dflt : Int} {ps : Array (Int × Int)} {len : Nat} {x : Int32} {off : Int} {tgt : Nat} (hdg : decode cc pc = .ok (.lookupswitch dflt ps, len)) (hp : (ps.toList.zip (ps.toList.drop 1)).all (fun (a, next) => a.1 < next.1) = true) (ho : Op.lookupswitch.offset ps.toList dflt x.toInt = off) (ht : (pc : Int) + off = (tgt : Int)) (k : GW l g P Pf al yM cc mL rt own rm K cn sn σ tgt loc S) : GW l g P Pf al yM cc mL rt own rm K cn sn σ pc loc (.int x :: S) := k.go1 (fun _ _ _ _ _ _ _ _ _ _ _ _ ls _ hC hP hl kk => lv_lookup hC.1 hC.2.1 hdg hp ho ht (kk ls hl))
theorem dv_dup {va : Value} (hdg : decode cc pc = .ok (.dup, 1)) (hva : va.category = 1) (k : GW l g P Pf al yM cc mL rt own rm K cn sn σ (pc + 1) loc (va :: va :: S)) : GW l g P Pf al yM cc mL rt own rm K cn sn σ pc loc (va :: S) := k.go1 (fun _ _ _ _ _ _ _ _ _ _ _ _ ls _ hC hP hl kk => lv_dup hC.1 hC.2.1 hdg ((cv_cat _ _).trans hva) (kk ls hl))
theorem dv_dup2_11 {va vb : Value} (hdg : decode cc pc = .ok (.dup2, 1)) (hva : va.category = 1) (hvb : vb.category = 1) (k : GW l g P Pf al yM cc mL rt own rm K cn sn σ (pc + 1) loc (va :: vb :: va :: vb :: S)) : GW l g P Pf al yM cc mL rt own rm K cn sn σ pc loc (va :: vb :: S) := k.go1 (fun _ _ _ _ _ _ _ _ _ _ _ _ ls _ hC hP hl kk => lv_dup2_11 hC.1 hC.2.1 hdg ((cv_cat _ _).trans hva) ((cv_cat _ _).trans hvb) (kk ls hl))
theorem dv_dup_x1 {va vb : Value} (hdg : decode cc pc = .ok (.dup_x1, 1)) (hva : va.category = 1) (hvb : vb.category = 1) (k : GW l g P Pf al yM cc mL rt own rm K cn sn σ (pc + 1) loc (va :: vb :: va :: S)) : GW l g P Pf al yM cc mL rt own rm K cn sn σ pc loc (va :: vb :: S) := k.go1 (fun _ _ _ _ _ _ _ _ _ _ _ _ ls _ hC hP hl kk => lv_dup_x1 hC.1 hC.2.1 hdg ((cv_cat _ _).trans hva) ((cv_cat _ _).trans hvb) (kk ls hl))
theorem dv_pop {va : Value} (hdg : decode cc pc = .ok (.pop, 1)) (hva : va.category = 1) (k : GW l g P Pf al yM cc mL rt own rm K cn sn σ (pc + 1) loc S) : GW l g P Pf al yM cc mL rt own rm K cn sn σ pc loc (va :: S) := k.go1 (fun _ _ _ _ _ _ _ _ _ _ _ _ ls _ hC hP hl kk => lv_pop hC.1 hC.2.1 hdg ((cv_cat _ _).trans hva) (kk ls hl))
theorem dv_iload_n {k : Fin 4} {i : Nat} {x : Int32} (hdg : decode cc pc = .ok (.iload_n k, 1)) (hi : (k : Nat) = i) (j : Nat) (hj : loc[j]? = some (i, .int x)) (k : GW l g P Pf al yM cc mL rt own rm K cn sn σ (pc + 1) loc (.int x :: S)) : GW l g P Pf al yM cc mL rt own rm K cn sn σ pc loc S := k.go1 (fun _ _ _ _ _ _ _ _ _ _ _ _ ls _ hC hP hl kk => lv_iload_n hC.1 hC.2.1 hdg hi (lv_at hl j (cl2_at hj)) (kk ls hl))
theorem dv_iload {i : Nat} {x : Int32} (hdg : decode cc pc = .ok (.iload i, 2)) (j : Nat) (hj : loc[j]? = some (i, .int x)) (k : GW l g P Pf al yM cc mL rt own rm K cn sn σ (pc + 2) loc (.int x :: S)) : GW l g P Pf al yM cc mL rt own rm K cn sn σ pc loc S := k.go1 (fun _ _ _ _ _ _ _ _ _ _ _ _ ls _ hC hP hl kk => lv_iload hC.1 hC.2.1 hdg (lv_at hl j (cl2_at hj)) (kk ls hl))
theorem dv_aload_n {k : Fin 4} {i : Nat} {x : Nat} (hdg : decode cc pc = .ok (.aload_n k, 1)) (hi : (k : Nat) = i) (j : Nat) (hj : loc[j]? = some (i, .ref x)) (k : GW l g P Pf al yM cc mL rt own rm K cn sn σ (pc + 1) loc (.ref x :: S)) : GW l g P Pf al yM cc mL rt own rm K cn sn σ pc loc S := k.go1 (fun _ _ _ _ _ _ _ _ _ _ _ _ ls _ hC hP hl kk => lv_aload_n hC.1 hC.2.1 hdg hi (lv_at hl j (cl2_at hj)) (kk ls hl))
theorem dv_aload {i : Nat} {x : Nat} (hdg : decode cc pc = .ok (.aload i, 2)) (j : Nat) (hj : loc[j]? = some (i, .ref x)) (k : GW l g P Pf al yM cc mL rt own rm K cn sn σ (pc + 2) loc (.ref x :: S)) : GW l g P Pf al yM cc mL rt own rm K cn sn σ pc loc S := k.go1 (fun _ _ _ _ _ _ _ _ _ _ _ _ ls _ hC hP hl kk => lv_aload hC.1 hC.2.1 hdg (lv_at hl j (cl2_at hj)) (kk ls hl))
theorem dv_lload_n {k : Fin 4} {i : Nat} {x : Int64} (hdg : decode cc pc = .ok (.lload_n k, 1)) (hi : (k : Nat) = i) (j : Nat) (hj : loc[j]? = some (i, .long x)) (k : GW l g P Pf al yM cc mL rt own rm K cn sn σ (pc + 1) loc (.long x :: S)) : GW l g P Pf al yM cc mL rt own rm K cn sn σ pc loc S := k.go1 (fun _ _ _ _ _ _ _ _ _ _ _ _ ls _ hC hP hl kk => lv_lload_n hC.1 hC.2.1 hdg hi (lv_at hl j (cl2_at hj)) (kk ls hl))
theorem dv_lload {i : Nat} {x : Int64} (hdg : decode cc pc = .ok (.lload i, 2)) (j : Nat) (hj : loc[j]? = some (i, .long x)) (k : GW l g P Pf al yM cc mL rt own rm K cn sn σ (pc + 2) loc (.long x :: S)) : GW l g P Pf al yM cc mL rt own rm K cn sn σ pc loc S := k.go1 (fun _ _ _ _ _ _ _ _ _ _ _ _ ls _ hC hP hl kk => lv_lload hC.1 hC.2.1 hdg (lv_at hl j (cl2_at hj)) (kk ls hl))
theorem dv_istore_n {k : Fin 4} {i : Nat} {x : Int32} {lv' : List (Nat × Value)} (hdg : decode cc pc = .ok (.istore_n k, 1)) (hi : (k : Nat) = i) (hn : i < mL) (hl : (i, Value.int x) :: loc.filter (fun q => !(q.1 == i) && !(q.1 + 1 == i && q.2.category == 2)) = lv') (k : GW l g P Pf al yM cc mL rt own rm K cn sn σ (pc + 1) lv' S) : GW l g P Pf al yM cc mL rt own rm K cn sn σ pc loc (Value.int x :: S) := by
  subst hl
  exact k.go1 (fun ad _ _ _ _ _ _ _ _ _ _ _ ls _ hC hP hl kk => lv_istore_n hC.1 hC.2.1 hdg hi hl hn (by rw [cl2_filter]; rfl) kk)
theorem dv_istore {i : Nat} {x : Int32} {lv' : List (Nat × Value)} (hdg : decode cc pc = .ok (.istore i, 2)) (hn : i < mL) (hl : (i, Value.int x) :: loc.filter (fun q => !(q.1 == i) && !(q.1 + 1 == i && q.2.category == 2)) = lv') (k : GW l g P Pf al yM cc mL rt own rm K cn sn σ (pc + 2) lv' S) : GW l g P Pf al yM cc mL rt own rm K cn sn σ pc loc (Value.int x :: S) := by
  subst hl
  exact k.go1 (fun ad _ _ _ _ _ _ _ _ _ _ _ ls _ hC hP hl kk => lv_istore hC.1 hC.2.1 hdg hl hn (by rw [cl2_filter]; rfl) kk)
theorem dv_astore_n {k : Fin 4} {i : Nat} {x : Nat} {lv' : List (Nat × Value)} (hdg : decode cc pc = .ok (.astore_n k, 1)) (hi : (k : Nat) = i) (hn : i < mL) (hl : (i, Value.ref x) :: loc.filter (fun q => !(q.1 == i) && !(q.1 + 1 == i && q.2.category == 2)) = lv') (k : GW l g P Pf al yM cc mL rt own rm K cn sn σ (pc + 1) lv' S) : GW l g P Pf al yM cc mL rt own rm K cn sn σ pc loc (Value.ref x :: S) := by
  subst hl
  exact k.go1 (fun ad _ _ _ _ _ _ _ _ _ _ _ ls _ hC hP hl kk => lv_astore_n hC.1 hC.2.1 hdg hi hl hn (by rw [cl2_filter]; rfl) kk)
theorem dv_astore {i : Nat} {x : Nat} {lv' : List (Nat × Value)} (hdg : decode cc pc = .ok (.astore i, 2)) (hn : i < mL) (hl : (i, Value.ref x) :: loc.filter (fun q => !(q.1 == i) && !(q.1 + 1 == i && q.2.category == 2)) = lv') (k : GW l g P Pf al yM cc mL rt own rm K cn sn σ (pc + 2) lv' S) : GW l g P Pf al yM cc mL rt own rm K cn sn σ pc loc (Value.ref x :: S) := by
  subst hl
  exact k.go1 (fun ad _ _ _ _ _ _ _ _ _ _ _ ls _ hC hP hl kk => lv_astore hC.1 hC.2.1 hdg hl hn (by rw [cl2_filter]; rfl) kk)
theorem dv_lstore_n {k : Fin 4} {i : Nat} {x : Int64} {lv' : List (Nat × Value)} (hdg : decode cc pc = .ok (.lstore_n k, 1)) (hi : (k : Nat) = i) (hn : i + 1 < mL) (hl : (i, Value.long x) :: loc.filter (fun q => !(q.1 == i) && (!(q.1 == i + 1) && !(q.1 + 1 == i && q.2.category == 2))) = lv') (k : GW l g P Pf al yM cc mL rt own rm K cn sn σ (pc + 1) lv' S) : GW l g P Pf al yM cc mL rt own rm K cn sn σ pc loc (Value.long x :: S) := by
  subst hl
  exact k.go1 (fun ad _ _ _ _ _ _ _ _ _ _ _ ls _ hC hP hl kk => lv_lstore_n hC.1 hC.2.1 hdg hi hl hn (by rw [cl2_filter2]; rfl) kk)
theorem dv_lstore {i : Nat} {x : Int64} {lv' : List (Nat × Value)} (hdg : decode cc pc = .ok (.lstore i, 2)) (hn : i + 1 < mL) (hl : (i, Value.long x) :: loc.filter (fun q => !(q.1 == i) && (!(q.1 == i + 1) && !(q.1 + 1 == i && q.2.category == 2))) = lv') (k : GW l g P Pf al yM cc mL rt own rm K cn sn σ (pc + 2) lv' S) : GW l g P Pf al yM cc mL rt own rm K cn sn σ pc loc (Value.long x :: S) := by
  subst hl
  exact k.go1 (fun ad _ _ _ _ _ _ _ _ _ _ _ ls _ hC hP hl kk => lv_lstore hC.1 hC.2.1 hdg hl hn (by rw [cl2_filter2]; rfl) kk)
theorem dv_iinc {i k : Nat} {n : Int} {x v : Int32} {lv' : List (Nat × Value)} (hdg : decode cc pc = .ok (.iinc i n, 3)) (hk : loc[k]? = some (i, .int x)) (hv : x + Int32.ofInt n = v) (hn : i < mL) (hl : (i, Value.int v) :: loc.filter (fun q => !(q.1 == i) && !(q.1 + 1 == i && q.2.category == 2)) = lv') (k : GW l g P Pf al yM cc mL rt own rm K cn sn σ (pc + 3) lv' S) : GW l g P Pf al yM cc mL rt own rm K cn sn σ pc loc S := by
  subst hl
  exact k.go1 (fun ad _ _ _ _ _ _ _ _ _ _ _ ls _ hC hP hl kk => lv_iinc hC.1 hC.2.1 hdg hl (cl2_at hk) hv hn (by rw [cl2_filter]; rfl) kk)
theorem dv_ldc {index : Nat} {v : Int32} (hw : Jvm.Cond.constant own index v ∈ zGW) (hdg : decode cc pc = .ok (.ldc index, 2)) (k : GW l g P Pf al yM cc mL rt own rm K cn sn σ (pc + 2) loc (.int v :: S)) : GW l g P Pf al yM cc mL rt own rm K cn sn σ pc loc S := k.go1 (fun _ _ _ _ _ _ _ _ _ _ _ _ ls _ hC hP hl kk => lv_ldc hC.1 hC.2.1 hC.2.2.2.2.2.1 (hC.2.2.2.2.2.2.1 _ hw) hdg (kk ls hl))
theorem dv_ldcw {index : Nat} {v : Int32} (hw : Jvm.Cond.constant own index v ∈ zGW) (hdg : decode cc pc = .ok (.ldc_w index, 3)) (k : GW l g P Pf al yM cc mL rt own rm K cn sn σ (pc + 3) loc (.int v :: S)) : GW l g P Pf al yM cc mL rt own rm K cn sn σ pc loc S := k.go1 (fun _ _ _ _ _ _ _ _ _ _ _ _ ls _ hC hP hl kk => lv_ldcw hC.1 hC.2.1 hC.2.2.2.2.2.1 (hC.2.2.2.2.2.2.1 _ hw) hdg (kk ls hl))
theorem dv_ldc2 {index : Nat} {v : Int64} (hw : Jvm.Cond.constantLong own index v ∈ zGW) (hdg : decode cc pc = .ok (.ldc2_w index, 3)) (k : GW l g P Pf al yM cc mL rt own rm K cn sn σ (pc + 3) loc (.long v :: S)) : GW l g P Pf al yM cc mL rt own rm K cn sn σ pc loc S := k.go1 (fun _ _ _ _ _ _ _ _ _ _ _ _ ls _ hC hP hl kk => lv_ldc2 hC.1 hC.2.1 hC.2.2.2.2.2.1 (hC.2.2.2.2.2.2.1 _ hw) hdg (kk ls hl))
theorem dv_if_eq {x : Int32} {off : Int} {tgt : Nat} (hdg : decode cc pc = .ok (.ifCond .eq off, 3)) (ht : (pc : Int) + off = (tgt : Int)) (kt : x = 0 → GW l g P Pf al yM cc mL rt own rm K cn sn σ tgt loc S) (kf : ¬ x = 0 → GW l g P Pf al yM cc mL rt own rm K cn sn σ (pc + 3) loc S) : GW l g P Pf al yM cc mL rt own rm K cn sn σ pc loc (.int x :: S) := by
  by_cases hc : x = 0
  · exact (kt hc).go1 (fun _ _ _ _ _ _ _ _ _ _ _ _ ls _ hC hP hl kk => lv_if_eq hC.1 hC.2.1 hdg ht (fun _ => kk ls hl) (fun q => absurd hc q))
  · exact (kf hc).go1 (fun _ _ _ _ _ _ _ _ _ _ _ _ ls _ hC hP hl kk => lv_if_eq hC.1 hC.2.1 hdg ht (fun q => absurd q hc) (fun _ => kk ls hl))
theorem dv_if_ne {x : Int32} {off : Int} {tgt : Nat} (hdg : decode cc pc = .ok (.ifCond .ne off, 3)) (ht : (pc : Int) + off = (tgt : Int)) (kt : ¬ x = 0 → GW l g P Pf al yM cc mL rt own rm K cn sn σ tgt loc S) (kf : x = 0 → GW l g P Pf al yM cc mL rt own rm K cn sn σ (pc + 3) loc S) : GW l g P Pf al yM cc mL rt own rm K cn sn σ pc loc (.int x :: S) := by
  by_cases hc : ¬ x = 0
  · exact (kt hc).go1 (fun _ _ _ _ _ _ _ _ _ _ _ _ ls _ hC hP hl kk => lv_if_ne hC.1 hC.2.1 hdg ht (fun _ => kk ls hl) (fun q => absurd q hc))
  · exact (kf (Classical.byContradiction hc)).go1 (fun _ _ _ _ _ _ _ _ _ _ _ _ ls _ hC hP hl kk => lv_if_ne hC.1 hC.2.1 hdg ht (fun q => absurd q hc) (fun _ => kk ls hl))
theorem dv_if_lt {x : Int32} {off : Int} {tgt : Nat} (hdg : decode cc pc = .ok (.ifCond .lt off, 3)) (ht : (pc : Int) + off = (tgt : Int)) (kt : x < 0 → GW l g P Pf al yM cc mL rt own rm K cn sn σ tgt loc S) (kf : ¬ x < 0 → GW l g P Pf al yM cc mL rt own rm K cn sn σ (pc + 3) loc S) : GW l g P Pf al yM cc mL rt own rm K cn sn σ pc loc (.int x :: S) := by
  by_cases hc : x < 0
  · exact (kt hc).go1 (fun _ _ _ _ _ _ _ _ _ _ _ _ ls _ hC hP hl kk => lv_if_lt hC.1 hC.2.1 hdg ht (fun _ => kk ls hl) (fun q => absurd hc q))
  · exact (kf hc).go1 (fun _ _ _ _ _ _ _ _ _ _ _ _ ls _ hC hP hl kk => lv_if_lt hC.1 hC.2.1 hdg ht (fun q => absurd q hc) (fun _ => kk ls hl))
theorem dv_if_le {x : Int32} {off : Int} {tgt : Nat} (hdg : decode cc pc = .ok (.ifCond .le off, 3)) (ht : (pc : Int) + off = (tgt : Int)) (kt : x ≤ 0 → GW l g P Pf al yM cc mL rt own rm K cn sn σ tgt loc S) (kf : ¬ x ≤ 0 → GW l g P Pf al yM cc mL rt own rm K cn sn σ (pc + 3) loc S) : GW l g P Pf al yM cc mL rt own rm K cn sn σ pc loc (.int x :: S) := by
  by_cases hc : x ≤ 0
  · exact (kt hc).go1 (fun _ _ _ _ _ _ _ _ _ _ _ _ ls _ hC hP hl kk => lv_if_le hC.1 hC.2.1 hdg ht (fun _ => kk ls hl) (fun q => absurd hc q))
  · exact (kf hc).go1 (fun _ _ _ _ _ _ _ _ _ _ _ _ ls _ hC hP hl kk => lv_if_le hC.1 hC.2.1 hdg ht (fun q => absurd q hc) (fun _ => kk ls hl))
theorem dv_if_gt {x : Int32} {off : Int} {tgt : Nat} (hdg : decode cc pc = .ok (.ifCond .gt off, 3)) (ht : (pc : Int) + off = (tgt : Int)) (kt : 0 < x → GW l g P Pf al yM cc mL rt own rm K cn sn σ tgt loc S) (kf : ¬ 0 < x → GW l g P Pf al yM cc mL rt own rm K cn sn σ (pc + 3) loc S) : GW l g P Pf al yM cc mL rt own rm K cn sn σ pc loc (.int x :: S) := by
  by_cases hc : 0 < x
  · exact (kt hc).go1 (fun _ _ _ _ _ _ _ _ _ _ _ _ ls _ hC hP hl kk => lv_if_gt hC.1 hC.2.1 hdg ht (fun _ => kk ls hl) (fun q => absurd hc q))
  · exact (kf hc).go1 (fun _ _ _ _ _ _ _ _ _ _ _ _ ls _ hC hP hl kk => lv_if_gt hC.1 hC.2.1 hdg ht (fun q => absurd q hc) (fun _ => kk ls hl))
theorem dv_if_ge {x : Int32} {off : Int} {tgt : Nat} (hdg : decode cc pc = .ok (.ifCond .ge off, 3)) (ht : (pc : Int) + off = (tgt : Int)) (kt : 0 ≤ x → GW l g P Pf al yM cc mL rt own rm K cn sn σ tgt loc S) (kf : ¬ 0 ≤ x → GW l g P Pf al yM cc mL rt own rm K cn sn σ (pc + 3) loc S) : GW l g P Pf al yM cc mL rt own rm K cn sn σ pc loc (.int x :: S) := by
  by_cases hc : 0 ≤ x
  · exact (kt hc).go1 (fun _ _ _ _ _ _ _ _ _ _ _ _ ls _ hC hP hl kk => lv_if_ge hC.1 hC.2.1 hdg ht (fun _ => kk ls hl) (fun q => absurd hc q))
  · exact (kf hc).go1 (fun _ _ _ _ _ _ _ _ _ _ _ _ ls _ hC hP hl kk => lv_if_ge hC.1 hC.2.1 hdg ht (fun q => absurd q hc) (fun _ => kk ls hl))
theorem dv_icmp_eq {x y : Int32} {off : Int} {tgt : Nat} (hdg : decode cc pc = .ok (.if_icmp .eq off, 3)) (ht : (pc : Int) + off = (tgt : Int)) (kt : x = y → GW l g P Pf al yM cc mL rt own rm K cn sn σ tgt loc S) (kf : ¬ x = y → GW l g P Pf al yM cc mL rt own rm K cn sn σ (pc + 3) loc S) : GW l g P Pf al yM cc mL rt own rm K cn sn σ pc loc (.int y :: .int x :: S) := by
  by_cases hc : x = y
  · exact (kt hc).go1 (fun _ _ _ _ _ _ _ _ _ _ _ _ ls _ hC hP hl kk => lv_icmp_eq hC.1 hC.2.1 hdg ht (fun _ => kk ls hl) (fun q => absurd hc q))
  · exact (kf hc).go1 (fun _ _ _ _ _ _ _ _ _ _ _ _ ls _ hC hP hl kk => lv_icmp_eq hC.1 hC.2.1 hdg ht (fun q => absurd q hc) (fun _ => kk ls hl))
theorem dv_icmp_ne {x y : Int32} {off : Int} {tgt : Nat} (hdg : decode cc pc = .ok (.if_icmp .ne off, 3)) (ht : (pc : Int) + off = (tgt : Int)) (kt : ¬ x = y → GW l g P Pf al yM cc mL rt own rm K cn sn σ tgt loc S) (kf : x = y → GW l g P Pf al yM cc mL rt own rm K cn sn σ (pc + 3) loc S) : GW l g P Pf al yM cc mL rt own rm K cn sn σ pc loc (.int y :: .int x :: S) := by
  by_cases hc : ¬ x = y
  · exact (kt hc).go1 (fun _ _ _ _ _ _ _ _ _ _ _ _ ls _ hC hP hl kk => lv_icmp_ne hC.1 hC.2.1 hdg ht (fun _ => kk ls hl) (fun q => absurd q hc))
  · exact (kf (Classical.byContradiction hc)).go1 (fun _ _ _ _ _ _ _ _ _ _ _ _ ls _ hC hP hl kk => lv_icmp_ne hC.1 hC.2.1 hdg ht (fun q => absurd q hc) (fun _ => kk ls hl))
theorem dv_icmp_lt {x y : Int32} {off : Int} {tgt : Nat} (hdg : decode cc pc = .ok (.if_icmp .lt off, 3)) (ht : (pc : Int) + off = (tgt : Int)) (kt : x < y → GW l g P Pf al yM cc mL rt own rm K cn sn σ tgt loc S) (kf : ¬ x < y → GW l g P Pf al yM cc mL rt own rm K cn sn σ (pc + 3) loc S) : GW l g P Pf al yM cc mL rt own rm K cn sn σ pc loc (.int y :: .int x :: S) := by
  by_cases hc : x < y
  · exact (kt hc).go1 (fun _ _ _ _ _ _ _ _ _ _ _ _ ls _ hC hP hl kk => lv_icmp_lt hC.1 hC.2.1 hdg ht (fun _ => kk ls hl) (fun q => absurd hc q))
  · exact (kf hc).go1 (fun _ _ _ _ _ _ _ _ _ _ _ _ ls _ hC hP hl kk => lv_icmp_lt hC.1 hC.2.1 hdg ht (fun q => absurd q hc) (fun _ => kk ls hl))
theorem dv_icmp_le {x y : Int32} {off : Int} {tgt : Nat} (hdg : decode cc pc = .ok (.if_icmp .le off, 3)) (ht : (pc : Int) + off = (tgt : Int)) (kt : x ≤ y → GW l g P Pf al yM cc mL rt own rm K cn sn σ tgt loc S) (kf : ¬ x ≤ y → GW l g P Pf al yM cc mL rt own rm K cn sn σ (pc + 3) loc S) : GW l g P Pf al yM cc mL rt own rm K cn sn σ pc loc (.int y :: .int x :: S) := by
  by_cases hc : x ≤ y
  · exact (kt hc).go1 (fun _ _ _ _ _ _ _ _ _ _ _ _ ls _ hC hP hl kk => lv_icmp_le hC.1 hC.2.1 hdg ht (fun _ => kk ls hl) (fun q => absurd hc q))
  · exact (kf hc).go1 (fun _ _ _ _ _ _ _ _ _ _ _ _ ls _ hC hP hl kk => lv_icmp_le hC.1 hC.2.1 hdg ht (fun q => absurd q hc) (fun _ => kk ls hl))
theorem dv_icmp_gt {x y : Int32} {off : Int} {tgt : Nat} (hdg : decode cc pc = .ok (.if_icmp .gt off, 3)) (ht : (pc : Int) + off = (tgt : Int)) (kt : y < x → GW l g P Pf al yM cc mL rt own rm K cn sn σ tgt loc S) (kf : ¬ y < x → GW l g P Pf al yM cc mL rt own rm K cn sn σ (pc + 3) loc S) : GW l g P Pf al yM cc mL rt own rm K cn sn σ pc loc (.int y :: .int x :: S) := by
  by_cases hc : y < x
  · exact (kt hc).go1 (fun _ _ _ _ _ _ _ _ _ _ _ _ ls _ hC hP hl kk => lv_icmp_gt hC.1 hC.2.1 hdg ht (fun _ => kk ls hl) (fun q => absurd hc q))
  · exact (kf hc).go1 (fun _ _ _ _ _ _ _ _ _ _ _ _ ls _ hC hP hl kk => lv_icmp_gt hC.1 hC.2.1 hdg ht (fun q => absurd q hc) (fun _ => kk ls hl))
theorem dv_icmp_ge {x y : Int32} {off : Int} {tgt : Nat} (hdg : decode cc pc = .ok (.if_icmp .ge off, 3)) (ht : (pc : Int) + off = (tgt : Int)) (kt : y ≤ x → GW l g P Pf al yM cc mL rt own rm K cn sn σ tgt loc S) (kf : ¬ y ≤ x → GW l g P Pf al yM cc mL rt own rm K cn sn σ (pc + 3) loc S) : GW l g P Pf al yM cc mL rt own rm K cn sn σ pc loc (.int y :: .int x :: S) := by
  by_cases hc : y ≤ x
  · exact (kt hc).go1 (fun _ _ _ _ _ _ _ _ _ _ _ _ ls _ hC hP hl kk => lv_icmp_ge hC.1 hC.2.1 hdg ht (fun _ => kk ls hl) (fun q => absurd hc q))
  · exact (kf hc).go1 (fun _ _ _ _ _ _ _ _ _ _ _ _ ls _ hC hP hl kk => lv_icmp_ge hC.1 hC.2.1 hdg ht (fun q => absurd q hc) (fun _ => kk ls hl))
theorem dv_topi {x : Int32} (k : ∀ y2 : Int32, y2 = x → GW l g P Pf al yM cc mL rt own rm K cn sn σ pc loc (.int y2 :: S)) : GW l g P Pf al yM cc mL rt own rm K cn sn σ pc loc (.int x :: S) := k x rfl
theorem dv_topl {x : Int64} (k : ∀ y2 : Int64, y2 = x → GW l g P Pf al yM cc mL rt own rm K cn sn σ pc loc (.long y2 :: S)) : GW l g P Pf al yM cc mL rt own rm K cn sn σ pc loc (.long x :: S) := k x rfl
theorem dv_sub {loc2 : List (Nat × Value)} (ks : List Nat) (h : lv_pick loc ks = loc2) (k : GW l g P Pf al yM cc mL rt own rm K cn sn σ pc loc2 S) : GW l g P Pf al yM cc mL rt own rm K cn sn σ pc loc S := k.go1 (fun ad _ _ _ _ _ _ _ _ _ _ _ ls _ hC hP hl kk => kk ls (lv_sub hl ks (cl2_pick ks h)))
theorem dv_lcmp {x y2 : Int64} (hdg : decode cc pc = .ok (.lcmp, 1)) (k : GW l g P Pf al yM cc mL rt own rm K cn sn σ (pc + 1) loc (.int (lg_cmp x y2) :: S)) : GW l g P Pf al yM cc mL rt own rm K cn sn σ pc loc (.long y2 :: .long x :: S) := k.go1 (fun _ _ _ _ _ _ _ _ _ _ _ _ ls _ hC hP hl kk => W.lcmp hC.1 hC.2.1 hdg (kk ls hl))
theorem dv_get {ci index : Nat} {fs : List Value} {v : Value} {C : String} {T : u_T} {N : Nat} {q : Nat} (hq : dIn P q) (hσ : σ q = .inr (ci, fs)) (hc : vwCl[ci]? = some (C, T, N)) (hin : ∀ w ∈ u_ws C T N, w ∈ zGW) (k : Nat) (hk : k < N) (hlink : Cond.fieldLink own index (T k).1 (T k).2.1 (T k).2.2.1 ∈ zGW) (hv : fs[k]? = some v) (hdg : decode cc pc = .ok (.getfield index, 3)) (kk : GW l g P Pf al yM cc mL rt own rm K cn sn σ (pc + 3) loc (v :: S)) : GW l g P Pf al yM cc mL rt own rm K cn sn σ pc loc (.ref q :: S) :=
  kk.go1 (fun ad A p e s m args below meth c H locs ls Q hC hP hl k2 => by
    obtain ⟨i, hi, -⟩ := dW_at (ad := ad) (σ := σ) hq
    rw [hσ] at hi
    exact va_get (D := g.1) hC.1 hC.2.1 hC.2.2.2.2.2.2.1 hin hC.2.2.2.2.2.1 hC.2.2.2.2.2.2.2.1 hP i hi hc k hk (hC.2.2.2.2.2.2.1 _ hlink) (fun _ h9 => h9) (v := cv ad v) (by rw [List.getElem?_map, hv]; rfl) hdg (k2 ls hl))
theorem dv_put {ci index : Nat} {fs : List Value} {v : Value} {C : String} {T : u_T} {N : Nat} {q : Nat} (hq : dIn P q) (hσ : σ q = .inr (ci, fs)) (hc : vwCl[ci]? = some (C, T, N)) (hin : ∀ w ∈ u_ws C T N, w ∈ zGW) (ty0 : Nat → FieldType) (hty : ∀ k, k < N → parseFieldDescriptor (T k).2.2.1 = some (ty0 k)) (hnm : ∀ a, a < N → ∀ b, b < N → a ≠ b → (T a).2.1 ≠ (T b).2.1) (k : Nat) (hk : k < N) (hlink : Cond.fieldLink own index (T k).1 (T k).2.1 (T k).2.2.1 ∈ zGW) (hfin : (T k).2.2.2 = false) {ty : FieldType} (hd : parseFieldDescriptor (T k).2.2.1 = some ty) (hn : ∀ ad, narrow ty (cv ad v) = cv ad v) (hfit : ∀ ad, fits ty (cv ad v) = true) (hl : k < fs.length) (hdg : decode cc pc = .ok (.putfield index, 3)) {en : va_E} (he : .inr (ci, fs.set k v) = en) (kk : ∀ τ : Nat → va_E, τ = va_up σ q en → GW l g P Pf al yM cc mL rt own rm K cn sn τ (pc + 3) loc S) : GW l g P Pf al yM cc mL rt own rm K cn sn σ pc loc (v :: .ref q :: S) := by
  subst he
  exact GW.go2 hq (fun ad A p e s m args below meth c H locs ls Q i hC hP hD hS hl2 hi k2 => by
    rw [hσ] at hi
    refine va_put (D := g.1) (v := cv ad v) (ty := ty) hC.1 hC.2.1 hC.2.2.2.2.2.2.1 hin ty0 hty hnm hC.2.2.2.2.2.1 hC.2.2.2.2.2.2.2.1 hP hD hS i hi hc k hk (hC.2.2.2.2.2.2.1 _ hlink) (fun _ h9 => h9) hfin hd (hn ad) (hfit ad) (by rw [List.length_map]; exact hl) hdg (fun H1 locs1 hP1 hD1 hS1 => ?_)
    refine k2 H1 locs1 ls ?_ ?_ hS1 hl2
    · show zP g ((dW P ad σ).set i (ad q, .inr (ci, (fs.set k v).map (cv ad)))) H1
      rw [List.map_set]
      exact hP1
    · show va_D A ((dW P ad σ).set i (ad q, .inr (ci, (fs.set k v).map (cv ad))))
      rw [List.map_set]
      exact hD1) (kk _ rfl)
theorem dv_iald {cA : ClassId} {n : Nat} {f : Nat → Int32} {q : Nat} (t0 : Nat) (hq : dIn P q) (hσ : σ q = .inl (cA, n, .inl f)) (ht : (zT g)[t0]? = some (cA, .int)) {i : Int32} (hin : vp_in i n) (hdg : decode cc pc = .ok (.iaload, 1)) (kk : GW l g P Pf al yM cc mL rt own rm K cn sn σ (pc + 1) loc (.int (f i.toNatClampNeg) :: S)) : GW l g P Pf al yM cc mL rt own rm K cn sn σ pc loc (.int i :: .ref q :: S) :=
  kk.go1 (fun ad A p e s m args below meth c H locs ls Q hC hP hl k2 => by
    obtain ⟨j, hj, -⟩ := dW_at (ad := ad) (σ := σ) hq
    rw [hσ] at hj
    exact va_iald hC.1 hC.2.1 hC.2.2.2.2.2.2.2.1 hP j t0 hj ht hin hdg (k2 ls hl))
theorem dv_lald {cA : ClassId} {n : Nat} {f : Nat → Int64} {q : Nat} (t0 : Nat) (hq : dIn P q) (hσ : σ q = .inl (cA, n, .inr (.inl f))) (ht : (zT g)[t0]? = some (cA, .long)) {i : Int32} (hin : vp_in i n) (hdg : decode cc pc = .ok (.laload, 1)) (kk : GW l g P Pf al yM cc mL rt own rm K cn sn σ (pc + 1) loc (.long (f i.toNatClampNeg) :: S)) : GW l g P Pf al yM cc mL rt own rm K cn sn σ pc loc (.int i :: .ref q :: S) :=
  kk.go1 (fun ad A p e s m args below meth c H locs ls Q hC hP hl k2 => by
    obtain ⟨j, hj, -⟩ := dW_at (ad := ad) (σ := σ) hq
    rw [hσ] at hj
    exact va_lald hC.1 hC.2.1 hC.2.2.2.2.2.2.2.1 hP j t0 hj ht hin hdg (k2 ls hl))
theorem dv_iast {cA : ClassId} {n : Nat} {f : Nat → Int32} {q : Nat} (t0 : Nat) (hq : dIn P q) (hσ : σ q = .inl (cA, n, .inl f)) (ht : (zT g)[t0]? = some (cA, .int)) {i : Int32} {x : Int32} (hin : vp_in i n) (hdg : decode cc pc = .ok (.iastore, 1)) {en : va_E} (he : .inl (cA, n, .inl (upd f i.toNatClampNeg x)) = en) (kk : ∀ τ : Nat → va_E, τ = va_up σ q en → GW l g P Pf al yM cc mL rt own rm K cn sn τ (pc + 1) loc S) : GW l g P Pf al yM cc mL rt own rm K cn sn σ pc loc (.int x :: .int i :: .ref q :: S) := by
  subst he
  exact GW.go2 hq (fun ad A p e s m args below meth c H locs ls Q j hC hP hD hS hl hj k2 => by
    rw [hσ] at hj
    exact va_iast hC.1 hC.2.1 hC.2.2.2.2.2.2.2.1 hP hD hS j t0 hj ht hin hdg (fun H1 locs1 hP1 hD1 hS1 => k2 H1 locs1 ls hP1 hD1 hS1 hl)) (kk _ rfl)
theorem dv_last {cA : ClassId} {n : Nat} {f : Nat → Int64} {q : Nat} (t0 : Nat) (hq : dIn P q) (hσ : σ q = .inl (cA, n, .inr (.inl f))) (ht : (zT g)[t0]? = some (cA, .long)) {i : Int32} {x : Int64} (hin : vp_in i n) (hdg : decode cc pc = .ok (.lastore, 1)) {en : va_E} (he : .inl (cA, n, .inr (.inl (vp_updL f i.toNatClampNeg x))) = en) (kk : ∀ τ : Nat → va_E, τ = va_up σ q en → GW l g P Pf al yM cc mL rt own rm K cn sn τ (pc + 1) loc S) : GW l g P Pf al yM cc mL rt own rm K cn sn σ pc loc (.long x :: .int i :: .ref q :: S) := by
  subst he
  exact GW.go2 hq (fun ad A p e s m args below meth c H locs ls Q j hC hP hD hS hl hj k2 => by
    rw [hσ] at hj
    exact va_last hC.1 hC.2.1 hC.2.2.2.2.2.2.2.1 hP hD hS j t0 hj ht hin hdg (fun H1 locs1 hP1 hD1 hS1 => k2 H1 locs1 ls hP1 hD1 hS1 hl)) (kk _ rfl)
theorem dv_aldq {cA : ClassId} {C : String} {n : Nat} {f : Nat → Option Nat} {q : Nat} (t0 : Nat) (hq : dIn P q) (hσ : σ q = .inl (cA, n, .inr (.inr (.inr (.inr f))))) (ht : (zT g)[t0]? = some (cA, .object C)) {i : Int32} (hin : vp_in i n) (hdg : decode cc pc = .ok (.aaload, 1)) {r : Nat} (hr : f i.toNatClampNeg = some r) (kk : GW l g P Pf al yM cc mL rt own rm K cn sn σ (pc + 1) loc (.ref r :: S)) : GW l g P Pf al yM cc mL rt own rm K cn sn σ pc loc (.int i :: .ref q :: S) :=
  kk.go1 (fun ad A p e s m args below meth c H locs ls Q hC hP hl k2 => by
    obtain ⟨j, hj, -⟩ := dW_at (ad := ad) (σ := σ) hq
    rw [hσ] at hj
    refine va_aldq hC.1 hC.2.1 hC.2.2.2.2.2.2.2.1 hP j t0 hj ht hin hdg ?_
    show W _ _ _ _ _ _ _ _ _ _ _ _ _ _ _ (F0 m (pc + 1) ls (va_rf ((f i.toNatClampNeg).map ad) :: S.map (cv ad)))
    rw [hr]
    exact k2 ls hl)
theorem dv_aldII {cA : ClassId} {n : Nat} {f : Nat → Option Nat} {q : Nat} (t0 : Nat) (hq : dIn P q) (hσ : σ q = .inl (cA, n, .inr (.inr (.inr (.inr f))))) (ht : (zT g)[t0]? = some (cA, .array .int)) {i : Int32} (hin : vp_in i n) (hdg : decode cc pc = .ok (.aaload, 1)) {r : Nat} (hr : f i.toNatClampNeg = some r) (kk : GW l g P Pf al yM cc mL rt own rm K cn sn σ (pc + 1) loc (.ref r :: S)) : GW l g P Pf al yM cc mL rt own rm K cn sn σ pc loc (.int i :: .ref q :: S) :=
  kk.go1 (fun ad A p e s m args below meth c H locs ls Q hC hP hl k2 => by
    obtain ⟨j, hj, -⟩ := dW_at (ad := ad) (σ := σ) hq
    rw [hσ] at hj
    refine z_aldII hC.1 hC.2.1 hC.2.2.2.2.2.2.2.1 hP j t0 hj ht hin hdg ?_
    show W _ _ _ _ _ _ _ _ _ _ _ _ _ _ _ (F0 m (pc + 1) ls (va_rf ((f i.toNatClampNeg).map ad) :: S.map (cv ad)))
    rw [hr]
    exact k2 ls hl)
theorem dv_astq {cA : ClassId} {r : vw_C} {n v ci : Nat} {vs : List Value} {f : Nat → Option Nat} {q : Nat} (t0 : Nat) (hq : dIn P q) (hσ : σ q = .inl (cA, n, .inr (.inr (.inr (.inr f))))) (ht : (zT g)[t0]? = some (cA, .object r.1)) (hqv : dIn P v) (hv : σ v = .inr (ci, vs)) (hc : vwCl[ci]? = some r) {i : Int32} (hin : vp_in i n) (hdg : decode cc pc = .ok (.aastore, 1)) {en : va_E} (he : .inl (cA, n, .inr (.inr (.inr (.inr (va_up f i.toNatClampNeg (some v)))))) = en) (kk : ∀ τ : Nat → va_E, τ = va_up σ q en → GW l g P Pf al yM cc mL rt own rm K cn sn τ (pc + 1) loc S) : GW l g P Pf al yM cc mL rt own rm K cn sn σ pc loc (.ref v :: .int i :: .ref q :: S) := by
  subst he
  exact GW.go2 hq (fun ad A p e s m args below meth c H locs ls Q j hC hP hD hS hl hj k2 => by
    obtain ⟨j2, hj2, -⟩ := dW_at (ad := ad) (σ := σ) hqv
    rw [hσ] at hj
    rw [hv] at hj2
    refine va_astq hC.1 hC.2.1 hC.2.2.2.2.2.2.2.1 hP hD hS j t0 j2 ci hj ht hj2 hc hin hdg (fun H1 locs1 hP1 hD1 hS1 => ?_)
    have e : va_up (fun i => (f i).map ad) i.toNatClampNeg (some (ad v)) = fun k => ((va_up f i.toNatClampNeg (some v)) k).map ad := by
      funext k
      unfold va_up
      split <;> rfl
    rw [e] at hP1 hD1
    exact k2 H1 locs1 ls hP1 hD1 hS1 hl) (kk _ rfl)
theorem dv_alen {cA : ClassId} {x : vp_A} {q : Nat} (t0 : Nat) (hq : dIn P q) (hσ : σ q = .inl (cA, x)) {ty : FieldType} (ht : (zT g)[t0]? = some (cA, ty)) {v : Int32} (hv : Int32.ofNat x.1 = v) (hdg : decode cc pc = .ok (.arraylength, 1)) (kk : GW l g P Pf al yM cc mL rt own rm K cn sn σ (pc + 1) loc (.int v :: S)) : GW l g P Pf al yM cc mL rt own rm K cn sn σ pc loc (.ref q :: S) :=
  kk.go1 (fun ad A p e s m args below meth c H locs ls Q hC hP hl k2 => by
    obtain ⟨j, hj, -⟩ := dW_at (ad := ad) (σ := σ) hq
    rw [hσ] at hj
    exact va_alen hC.1 hC.2.1 hC.2.2.2.2.2.2.2.1 hP j t0 hj ht hv hdg (k2 ls hl))
theorem dv_mmax {index : Nat} {x y2 : Int32} (h1 : Cond.methodLink own index Lib.Math.max.name ∈ zGW) (h2 : Cond.static Lib.Math.max.name ∈ zGW) (h3 : Cond.initialized "java/lang/Math" ∈ zGW) (h4 : Cond.code Lib.Math.max.name Lib.Math.max.code 2 (some .int) ∈ zGW) (hf : 1 ≤ rm.frames) (hlo : (S.map fun v => v.category).sum + 13 ≤ rm.locals) (hcn : cn ≤ rm.cells) (hsn : sn ≤ rm.slots) (hdg : decode cc pc = .ok (.invokestatic index, 3)) (kk : GW l g P Pf al yM cc mL rt own rm K cn sn σ (pc + 3) loc (.int (if x < y2 then y2 else x) :: S)) : GW l g P Pf al yM cc mL rt own rm K cn sn σ pc loc (.int y2 :: .int x :: S) :=
  kk.go1 (fun ad A p e s m args below meth c H locs ls Q hC hP hl k2 => va_mmax (R := (headSpec (zW yM cc mL rt) rm).room) hC.1 hC.2.1 (hC.2.2.2.2.1.trans hl.1.symm) hC.2.2.2.2.2.1 (hC.2.2.2.2.2.2.1 _ h1) (hC.2.2.2.2.2.2.1 _ h2) (hC.2.2.2.2.2.2.1 _ h3) (hC.2.2.2.2.2.2.1 _ h4) hf (by rw [cv_cats]; exact hlo) hcn hsn hdg (k2 ls hl))
theorem dv_mmin {index : Nat} {x y2 : Int32} (h1 : Cond.methodLink own index Lib.Math.min.name ∈ zGW) (h2 : Cond.static Lib.Math.min.name ∈ zGW) (h3 : Cond.initialized "java/lang/Math" ∈ zGW) (h4 : Cond.code Lib.Math.min.name Lib.Math.min.code 2 (some .int) ∈ zGW) (hf : 1 ≤ rm.frames) (hlo : (S.map fun v => v.category).sum + 13 ≤ rm.locals) (hcn : cn ≤ rm.cells) (hsn : sn ≤ rm.slots) (hdg : decode cc pc = .ok (.invokestatic index, 3)) (kk : GW l g P Pf al yM cc mL rt own rm K cn sn σ (pc + 3) loc (.int (if y2 < x then y2 else x) :: S)) : GW l g P Pf al yM cc mL rt own rm K cn sn σ pc loc (.int y2 :: .int x :: S) :=
  kk.go1 (fun ad A p e s m args below meth c H locs ls Q hC hP hl k2 => va_mmin (R := (headSpec (zW yM cc mL rt) rm).room) hC.1 hC.2.1 (hC.2.2.2.2.1.trans hl.1.symm) hC.2.2.2.2.2.1 (hC.2.2.2.2.2.2.1 _ h1) (hC.2.2.2.2.2.2.1 _ h2) (hC.2.2.2.2.2.2.1 _ h3) (hC.2.2.2.2.2.2.1 _ h4) hf (by rw [cv_cats]; exact hlo) hcn hsn hdg (k2 ls hl))
theorem dv_iret {v : Int32} (hdg : decode cc pc = .ok (.ireturn, 1)) (hr : rt = some .int) (hcn : cn ≤ rm.cells) (hsn : sn ≤ rm.slots) (hK : K σ (some (.int v))) : GW l g P P al yM cc mL rt own rm K cn sn σ pc loc [.int v] :=
  ⟨σ, some (.int v), hK, fun _ _ _ => rfl, fun ad A p e s m args below meth c H locs ls hC hP hD hS hl => by
    have hlocks := hC.2.2.2.1
    refine W.widen (k := rm.cells) (n := rm.slots) hcn hsn ?_
    exact W.iret hC.1 hC.2.1 (hC.2.2.1.trans hr) (fun t ht hW => ⟨⟨rfl, ad, fun _ _ => rfl, fun _ => rfl, by rw [ht]; exact hP, hD⟩, hS.F ht⟩) hS.2.2 hdg⟩
theorem dv_lret {v : Int64} (hdg : decode cc pc = .ok (.lreturn, 1)) (hr : rt = some .long) (hcn : cn ≤ rm.cells) (hsn : sn ≤ rm.slots) (hK : K σ (some (.long v))) : GW l g P P al yM cc mL rt own rm K cn sn σ pc loc [.long v] :=
  ⟨σ, some (.long v), hK, fun _ _ _ => rfl, fun ad A p e s m args below meth c H locs ls hC hP hD hS hl => by
    have hlocks := hC.2.2.2.1
    refine W.widen (k := rm.cells) (n := rm.slots) hcn hsn ?_
    exact W.lret hC.1 hC.2.1 (hC.2.2.1.trans hr) (fun t ht hW => ⟨⟨rfl, ad, fun _ _ => rfl, fun _ => rfl, by rw [ht]; exact hP, hD⟩, hS.F ht⟩) hS.2.2 hdg⟩
theorem dv_zret {v : Int32} {ty : FieldType} (hdg : decode cc pc = .ok (.ireturn, 1)) (hr : rt = some ty) (hn : narrow ty (.int v) = .int v) (hcn : cn ≤ rm.cells) (hsn : sn ≤ rm.slots) (hK : K σ (some (.int v))) : GW l g P P al yM cc mL rt own rm K cn sn σ pc loc [.int v] :=
  ⟨σ, some (.int v), hK, fun _ _ _ => rfl, fun ad A p e s m args below meth c H locs ls hC hP hD hS hl => by
    have hlocks := hC.2.2.2.1
    refine W.widen (k := rm.cells) (n := rm.slots) hcn hsn ?_
    exact W.zret hC.1 hC.2.1 (hC.2.2.1.trans hr) hn (fun t ht hW => ⟨⟨rfl, ad, fun _ _ => rfl, fun _ => rfl, by rw [ht]; exact hP, hD⟩, hS.F ht⟩) hS.2.2 hdg⟩
theorem dv_vret (hdg : decode cc pc = .ok (.return_, 1)) (hr : rt = none) (hcn : cn ≤ rm.cells) (hsn : sn ≤ rm.slots) (hK : K σ none) : GW l g P P al yM cc mL rt own rm K cn sn σ pc loc [] :=
  ⟨σ, none, hK, fun _ _ _ => rfl, fun ad A p e s m args below meth c H locs ls hC hP hD hS hl => by
    have hlocks := hC.2.2.2.1
    refine W.widen (k := rm.cells) (n := rm.slots) hcn hsn ?_
    exact W.vret hC.1 hC.2.1 (hC.2.2.1.trans hr) (fun t ht hW => ⟨⟨rfl, ad, fun _ _ => rfl, fun _ => rfl, by rw [ht]; exact hP, hD⟩, hS.F ht⟩) hS.2.2 hdg⟩
end GWR

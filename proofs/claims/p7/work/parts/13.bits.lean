def z_ush (x k : Int32) : Int32 := (x.toUInt32 >>> (k.toUInt32 &&& Int32.toUInt32 31)).toInt32
theorem z_ushk {x n : Int32} {k : Nat} (h0 : 0 ≤ x.toInt) (h1 : x.toInt < ((2 ^ k : Nat) : Int)) (hn : (k : Int) ≤ n.toInt) (hn2 : n.toInt ≤ 31) : (x.toUInt32 >>> (n.toUInt32 &&& Int32.toUInt32 31)).toInt32 = 0 := by
  have e : n = nI n.toInt.toNat := z_nI (by omega)
  have h3 : ∀ k, k < 32 → ((nI k).toUInt32 &&& Int32.toUInt32 31).toNat % 32 = k := by decide +kernel
  have h5 := h3 n.toInt.toNat (by omega)
  rw [← e] at h5
  have h6 : x.toUInt32 >>> (n.toUInt32 &&& Int32.toUInt32 31) = 0 := by
    apply UInt32.toNat_inj.mp
    rw [UInt32.toNat_shiftRight, h5, Nat.shiftRight_eq_div_pow]
    have h7 : x.toUInt32.toNat = x.toBitVec.toNat := rfl
    have h8 := z_nat h0
    have h9 : 2 ^ k ≤ 2 ^ n.toInt.toNat := Nat.pow_le_pow_right (by decide) (by omega)
    rw [Nat.div_eq_of_lt (by omega)]
    rfl
  rw [h6]
  rfl
def bc_a (x : Int32) : Int32 := x - (z_ush x 1 &&& 1431655765)
def bc_b (a : Int32) : Int32 := (a &&& 858993459) + (z_ush a 2 &&& 858993459)
def bc_c (b : Int32) : Int32 := (b + z_ush b 4) &&& 252645135
def bc_d (c : Int32) : Int32 := c + z_ush c 8
def bc_e (d : Int32) : Int32 := (d + z_ush d 16) &&& 63
/-- the machine's own count of bits -/
def bcf (x : Int32) : Int32 := bc_e (bc_d (bc_c (bc_b (bc_a x))))
theorem bcf_eq (x : Int32) : bcf x = bc_e (bc_d (bc_c (bc_b (bc_a x)))) := rfl
def pcn (n : Nat) : Nat := n / 2 ^ 0 % 2 + n / 2 ^ 1 % 2 + n / 2 ^ 2 % 2 + n / 2 ^ 3 % 2 + n / 2 ^ 4 % 2 + n / 2 ^ 5 % 2 + n / 2 ^ 6 % 2 + n / 2 ^ 7 % 2 + n / 2 ^ 8 % 2 + n / 2 ^ 9 % 2 + n / 2 ^ 10 % 2 + n / 2 ^ 11 % 2 + n / 2 ^ 12 % 2 + n / 2 ^ 13 % 2 + n / 2 ^ 14 % 2 + n / 2 ^ 15 % 2
def bcN (n : Nat) : Nat :=
  (fun d => (d + d >>> 16) &&& 63) ((fun c => c + c >>> 8) ((fun b => (b + b >>> 4) &&& 252645135) ((fun a => (a &&& 858993459) + (a >>> 2 &&& 858993459)) (n - (n >>> 1 &&& 1431655765)))))
set_option maxRecDepth 100000 in
theorem bcN_0 : ∀ a, a < 16 → ∀ b, b < 256 → bcN (256 * (0 + a) + b) = pcn (256 * (0 + a) + b) := by decide +kernel
set_option maxRecDepth 100000 in
theorem bcN_1 : ∀ a, a < 16 → ∀ b, b < 256 → bcN (256 * (16 + a) + b) = pcn (256 * (16 + a) + b) := by decide +kernel
set_option maxRecDepth 100000 in
theorem bcN_2 : ∀ a, a < 16 → ∀ b, b < 256 → bcN (256 * (32 + a) + b) = pcn (256 * (32 + a) + b) := by decide +kernel
set_option maxRecDepth 100000 in
theorem bcN_3 : ∀ a, a < 16 → ∀ b, b < 256 → bcN (256 * (48 + a) + b) = pcn (256 * (48 + a) + b) := by decide +kernel
set_option maxRecDepth 100000 in
theorem bcN_4 : ∀ a, a < 16 → ∀ b, b < 256 → bcN (256 * (64 + a) + b) = pcn (256 * (64 + a) + b) := by decide +kernel
set_option maxRecDepth 100000 in
theorem bcN_5 : ∀ a, a < 16 → ∀ b, b < 256 → bcN (256 * (80 + a) + b) = pcn (256 * (80 + a) + b) := by decide +kernel
set_option maxRecDepth 100000 in
theorem bcN_6 : ∀ a, a < 16 → ∀ b, b < 256 → bcN (256 * (96 + a) + b) = pcn (256 * (96 + a) + b) := by decide +kernel
set_option maxRecDepth 100000 in
theorem bcN_7 : ∀ a, a < 16 → ∀ b, b < 256 → bcN (256 * (112 + a) + b) = pcn (256 * (112 + a) + b) := by decide +kernel
set_option maxRecDepth 100000 in
theorem bcN_8 : ∀ a, a < 16 → ∀ b, b < 256 → bcN (256 * (128 + a) + b) = pcn (256 * (128 + a) + b) := by decide +kernel
set_option maxRecDepth 100000 in
theorem bcN_9 : ∀ a, a < 16 → ∀ b, b < 256 → bcN (256 * (144 + a) + b) = pcn (256 * (144 + a) + b) := by decide +kernel
set_option maxRecDepth 100000 in
theorem bcN_10 : ∀ a, a < 16 → ∀ b, b < 256 → bcN (256 * (160 + a) + b) = pcn (256 * (160 + a) + b) := by decide +kernel
set_option maxRecDepth 100000 in
theorem bcN_11 : ∀ a, a < 16 → ∀ b, b < 256 → bcN (256 * (176 + a) + b) = pcn (256 * (176 + a) + b) := by decide +kernel
set_option maxRecDepth 100000 in
theorem bcN_12 : ∀ a, a < 16 → ∀ b, b < 256 → bcN (256 * (192 + a) + b) = pcn (256 * (192 + a) + b) := by decide +kernel
set_option maxRecDepth 100000 in
theorem bcN_13 : ∀ a, a < 16 → ∀ b, b < 256 → bcN (256 * (208 + a) + b) = pcn (256 * (208 + a) + b) := by decide +kernel
set_option maxRecDepth 100000 in
theorem bcN_14 : ∀ a, a < 16 → ∀ b, b < 256 → bcN (256 * (224 + a) + b) = pcn (256 * (224 + a) + b) := by decide +kernel
set_option maxRecDepth 100000 in
theorem bcN_15 : ∀ a, a < 16 → ∀ b, b < 256 → bcN (256 * (240 + a) + b) = pcn (256 * (240 + a) + b) := by decide +kernel
theorem bcN_all {n : Nat} (h : n < 65536) : bcN n = pcn n := by
  have e : n = 256 * (n / 4096 * 16 + (n / 256 - n / 4096 * 16)) + n % 256 := by omega
  have h1 : n / 256 - n / 4096 * 16 < 16 := by omega
  have h2 : n % 256 < 256 := by omega
  have h3 : n / 4096 < 16 := by omega
  generalize n / 256 - n / 4096 * 16 = a at e h1
  generalize n % 256 = b at e h2
  generalize n / 4096 = k at e h3
  rcases (show k = 0 ∨ k = 1 ∨ k = 2 ∨ k = 3 ∨ k = 4 ∨ k = 5 ∨ k = 6 ∨ k = 7 ∨ k = 8 ∨ k = 9 ∨ k = 10 ∨ k = 11 ∨ k = 12 ∨ k = 13 ∨ k = 14 ∨ k = 15 by omega) with rfl | rfl | rfl | rfl | rfl | rfl | rfl | rfl | rfl | rfl | rfl | rfl | rfl | rfl | rfl | rfl
  · rw [e]; exact bcN_0 a h1 b h2
  · rw [e]; exact bcN_1 a h1 b h2
  · rw [e]; exact bcN_2 a h1 b h2
  · rw [e]; exact bcN_3 a h1 b h2
  · rw [e]; exact bcN_4 a h1 b h2
  · rw [e]; exact bcN_5 a h1 b h2
  · rw [e]; exact bcN_6 a h1 b h2
  · rw [e]; exact bcN_7 a h1 b h2
  · rw [e]; exact bcN_8 a h1 b h2
  · rw [e]; exact bcN_9 a h1 b h2
  · rw [e]; exact bcN_10 a h1 b h2
  · rw [e]; exact bcN_11 a h1 b h2
  · rw [e]; exact bcN_12 a h1 b h2
  · rw [e]; exact bcN_13 a h1 b h2
  · rw [e]; exact bcN_14 a h1 b h2
  · rw [e]; exact bcN_15 a h1 b h2
theorem z_Nush {x : Int32} {k : Int32} {j : Nat} (hk : (k.toUInt32 &&& Int32.toUInt32 31).toNat % 32 = j) : (z_ush x k).toBitVec.toNat = x.toBitVec.toNat >>> j := by
  show (x.toUInt32 >>> (k.toUInt32 &&& Int32.toUInt32 31)).toNat = _
  rw [UInt32.toNat_shiftRight, hk]
  rfl
theorem z_Nand {x y : Int32} : (x &&& y).toBitVec.toNat = x.toBitVec.toNat &&& y.toBitVec.toNat := by rw [Int32.toBitVec_and, BitVec.toNat_and]
theorem z_Nadd {x y : Int32} (h : x.toBitVec.toNat + y.toBitVec.toNat < 4294967296) : (x + y).toBitVec.toNat = x.toBitVec.toNat + y.toBitVec.toNat := by
  rw [Int32.toBitVec_add, BitVec.toNat_add]
  exact Nat.mod_eq_of_lt h
theorem z_Nsub {x y : Int32} (h : y.toBitVec.toNat ≤ x.toBitVec.toNat) : (x - y).toBitVec.toNat = x.toBitVec.toNat - y.toBitVec.toNat := by
  rw [Int32.toBitVec_sub]
  exact BitVec.toNat_sub_of_le (BitVec.le_def.mpr h)
theorem bc_N {x : Int32} {n : Nat} (hx : x.toBitVec.toNat = n) (hn : n < 65536) : (bcf x).toBitVec.toNat = bcN n := by
  have l1 : n >>> 1 &&& 1431655765 ≤ n := Nat.le_trans Nat.and_le_left (Nat.shiftRight_le n 1)
  have ea : (bc_a x).toBitVec.toNat = n - (n >>> 1 &&& 1431655765) := by
    unfold bc_a
    have h : (z_ush x 1 &&& 1431655765).toBitVec.toNat = n >>> 1 &&& 1431655765 := by rw [z_Nand, z_Nush (j := 1) (by decide), hx]; rfl
    rw [z_Nsub (by rw [h, hx]; exact l1), h, hx]
  have ba : n - (n >>> 1 &&& 1431655765) < 65536 := by omega
  unfold bcN
  rw [bcf_eq]
  generalize bc_a x = a at ea
  generalize n - (n >>> 1 &&& 1431655765) = aN at ea ba
  dsimp only
  have l2 : aN &&& 858993459 ≤ aN := Nat.and_le_left
  have l3 : aN >>> 2 &&& 858993459 ≤ aN := Nat.le_trans Nat.and_le_left (Nat.shiftRight_le aN 2)
  have eb : (bc_b a).toBitVec.toNat = (aN &&& 858993459) + (aN >>> 2 &&& 858993459) := by
    unfold bc_b
    have h1 : (a &&& 858993459).toBitVec.toNat = aN &&& 858993459 := by rw [z_Nand, ea]; rfl
    have h2 : (z_ush a 2 &&& 858993459).toBitVec.toNat = aN >>> 2 &&& 858993459 := by rw [z_Nand, z_Nush (j := 2) (by decide), ea]; rfl
    rw [z_Nadd (by omega), h1, h2]
  have bb : (aN &&& 858993459) + (aN >>> 2 &&& 858993459) < 131072 := by omega
  generalize bc_b a = b at eb
  generalize (aN &&& 858993459) + (aN >>> 2 &&& 858993459) = bN at eb bb
  have l4 : bN >>> 4 ≤ bN := Nat.shiftRight_le bN 4
  have l5 : (bN + bN >>> 4) &&& 252645135 ≤ bN + bN >>> 4 := Nat.and_le_left
  have ec : (bc_c b).toBitVec.toNat = (bN + bN >>> 4) &&& 252645135 := by
    unfold bc_c
    have h1 : (z_ush b 4).toBitVec.toNat = bN >>> 4 := by rw [z_Nush (j := 4) (by decide), eb]
    rw [z_Nand, z_Nadd (by omega), h1, eb]
    rfl
  generalize bc_c b = cc at ec
  generalize (bN + bN >>> 4) &&& 252645135 = cN at ec l5
  have l6 : cN >>> 8 ≤ cN := Nat.shiftRight_le cN 8
  have ed : (bc_d cc).toBitVec.toNat = cN + cN >>> 8 := by
    unfold bc_d
    have h1 : (z_ush cc 8).toBitVec.toNat = cN >>> 8 := by rw [z_Nush (j := 8) (by decide), ec]
    rw [z_Nadd (by omega), h1, ec]
  generalize bc_d cc = dd at ed
  generalize hdN : cN + cN >>> 8 = dN at ed
  have l7 : dN >>> 16 ≤ dN := Nat.shiftRight_le dN 16
  unfold bc_e
  have h1 : (z_ush dd 16).toBitVec.toNat = dN >>> 16 := by rw [z_Nush (j := 16) (by decide), ed]
  rw [z_Nand, z_Nadd (by omega), h1, ed]
  rfl
theorem pcn_le (n : Nat) : pcn n ≤ 16 := by
  have h : ∀ k, n / 2 ^ k % 2 ≤ 1 := fun k => by omega
  exact Nat.add_le_add (Nat.add_le_add (Nat.add_le_add (Nat.add_le_add (Nat.add_le_add (Nat.add_le_add (Nat.add_le_add (Nat.add_le_add (Nat.add_le_add (Nat.add_le_add (Nat.add_le_add (Nat.add_le_add (Nat.add_le_add (Nat.add_le_add (Nat.add_le_add (h 0) (h 1)) (h 2)) (h 3)) (h 4)) (h 5)) (h 6)) (h 7)) (h 8)) (h 9)) (h 10)) (h 11)) (h 12)) (h 13)) (h 14)) (h 15)
theorem bcf_pcn {x : Int32} (h0 : 0 ≤ x.toInt) (h1 : x.toInt ≤ 65535) : (bcf x).toInt = pcn x.toBitVec.toNat := by
  obtain ⟨h2, h3⟩ := z_nat h0
  have h4 := bc_N (x := x) rfl (by omega)
  rw [bcN_all (by omega)] at h4
  have h5 := pcn_le x.toBitVec.toNat
  rw [z_ofnat (by omega), h4]
theorem z_bit {a b k : Nat} : (a &&& b) / 2 ^ k % 2 ≤ a / 2 ^ k % 2 := by
  have h1 := Nat.testBit_and a b k
  rw [Nat.testBit_eq_decide_div_mod_eq, Nat.testBit_eq_decide_div_mod_eq] at h1
  have h2 := Nat.mod_two_eq_zero_or_one ((a &&& b) / 2 ^ k)
  rcases h2 with h2 | h2
  · omega
  · rw [h2] at h1
    have h3 : a / 2 ^ k % 2 = 1 := by
      apply Classical.byContradiction
      intro q
      simp [q] at h1
    omega
theorem pcn_and (a b : Nat) : pcn (a &&& b) ≤ pcn a := by
  have h : ∀ k, (a &&& b) / 2 ^ k % 2 ≤ a / 2 ^ k % 2 := fun k => z_bit
  exact Nat.add_le_add (Nat.add_le_add (Nat.add_le_add (Nat.add_le_add (Nat.add_le_add (Nat.add_le_add (Nat.add_le_add (Nat.add_le_add (Nat.add_le_add (Nat.add_le_add (Nat.add_le_add (Nat.add_le_add (Nat.add_le_add (Nat.add_le_add (Nat.add_le_add (h 0) (h 1)) (h 2)) (h 3)) (h 4)) (h 5)) (h 6)) (h 7)) (h 8)) (h 9)) (h 10)) (h 11)) (h 12)) (h 13)) (h 14)) (h 15)
theorem z_bc {x : Int32} (h0 : 0 ≤ x.toInt) (h1 : x.toInt ≤ 65535) : 0 ≤ (bcf x).toInt ∧ (bcf x).toInt ≤ 16 := by
  have := bcf_pcn h0 h1
  have := pcn_le x.toBitVec.toNat
  omega
theorem z_bcand {x y : Int32} (h0 : 0 ≤ x.toInt) (h1 : x.toInt ≤ 65535) : (bcf (x &&& y)).toInt ≤ (bcf x).toInt := by
  have h2 := z_andl (x := x) (y := y) rfl h0
  rw [bcf_pcn h0 h1, bcf_pcn h2.1 (by omega), Int32.toBitVec_and, BitVec.toNat_and]
  have := pcn_and x.toBitVec.toNat y.toBitVec.toNat
  omega

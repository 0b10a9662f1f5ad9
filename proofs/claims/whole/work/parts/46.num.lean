/-! numbers: ints of Int, within bounds -/
def iI (x : Int) : Int32 := Int32.ofInt x
theorem iI_N (n : Nat) : nI n = iI (n : Int) := (Int32.ofInt_eq_ofNat (n := n)).symm
theorem iI_add (a b : Int) : iI a + iI b = iI (a + b) := (Int32.ofInt_add a b).symm
theorem iI_sub (a b : Int) : iI a - iI b = iI (a - b) := (Int32.ofInt_sub a b).symm
theorem iI_mul (a b : Int) : iI a * iI b = iI (a * b) := (Int32.ofInt_mul a b).symm
theorem iI_neg (a : Int) : -iI a = iI (-a) := (Int32.ofInt_neg a).symm
theorem iI_toInt {a : Int} (h1 : -2147483648 ≤ a) (h2 : a < 2147483648) : (iI a).toInt = a := Int32.toInt_ofInt_of_le h1 h2
theorem iI_lt {a b : Int} (h1 : -2147483648 ≤ a) (h2 : a < 2147483648) (h3 : -2147483648 ≤ b) (h4 : b < 2147483648) : (iI a < iI b) = (a < b) := by
  rw [Int32.lt_iff_toInt_lt, iI_toInt h1 h2, iI_toInt h3 h4]
theorem iI_eq {a b : Int} (h1 : -2147483648 ≤ a) (h2 : a < 2147483648) (h3 : -2147483648 ≤ b) (h4 : b < 2147483648) : (iI a = iI b) = (a = b) := by
  rw [← Int32.toInt_inj, iI_toInt h1 h2, iI_toInt h3 h4]
theorem iI_div {a b : Int} (h1 : -2147483648 ≤ a) (h2 : a < 2147483648) (h3 : -2147483648 ≤ b) (h4 : b < 2147483648) : iI a / iI b = iI (a.tdiv b) := (Int32.ofInt_tdiv h1 (Int.le_of_lt_add_one h2) h3 (Int.le_of_lt_add_one h4)).symm
theorem nI_div {a b : Nat} (h1 : a < 2147483648) (h2 : b < 2147483648) : nI a / nI b = nI (a / b) := by
  rw [iI_N, iI_N, iI_div (by omega) (by omega) (by omega) (by omega), iI_N, Int.ofNat_tdiv]
theorem nI_rem {a b : Nat} (h1 : a < 2147483648) (h2 : b < 2147483648) : nI a % nI b = nI (a % b) := by
  refine Int32.toInt_inj.mp ?_
  rw [Int32.toInt_mod, nI_toInt h1, nI_toInt h2, nI_toInt (by have := Nat.mod_le a b; omega), Int.ofNat_tmod]
theorem nI_subI (a b : Nat) : nI a - nI b = iI ((a : Int) - b) := by rw [iI_N, iI_N, iI_sub]
theorem nI_addI (a : Int) (b : Nat) : iI a + nI b = iI (a + b) := by rw [iI_N, iI_add]
theorem nI_mul' (a b : Nat) : nI a * nI b = nI (a * b) := (Int32.ofNat_mul a b).symm
theorem max0 {a : Int} (h1 : -2147483648 ≤ a) (h2 : a < 2147483648) : (if iI a < 0 then (0 : Int32) else iI a) = nI a.toNat := by
  have e : (0 : Int32) = iI 0 := rfl
  have q := iI_lt h1 h2 (show -2147483648 ≤ (0 : Int) by decide) (by decide)
  rw [e]
  by_cases h : a < 0
  · rw [if_pos (q ▸ h), iI_N, show (a.toNat : Int) = 0 by omega]
  · rw [if_neg (q ▸ h), iI_N, show (a.toNat : Int) = a by omega]
/-- bits of a number, as Java's shifts tell them -/
theorem sm31 : ∀ k, k < 32 → (((nI k &&& 31) : Int32).toBitVec.smod 32).toNat = k := by decide +kernel
theorem shr_of {b k : Nat} (hb : b < 2147483648) (hk : k < 32) : nI b >>> (nI k &&& 31) = nI (b / 2 ^ k) := pk_shrN hb _ k (sm31 k hk)
theorem and1_of {b : Nat} (hb : b < 2147483648) : nI b &&& 1 = nI (b % 2) := pk_andN (by omega) 1 (by decide)
theorem bit_of {b k : Nat} (hb : b < 2147483648) (hk : k < 32) : (nI b >>> (nI k &&& 31)) &&& 1 = nI (b / 2 ^ k % 2) := by
  rw [shr_of hb hk, and1_of (Nat.lt_of_le_of_lt (Nat.div_le_self _ _) hb)]
theorem shl_of {a k : Nat} (hk : k < 32) (h : a * 2 ^ k < 2147483648) : nI a <<< (nI k &&& 31) = nI (a * 2 ^ k) := pk_shlN _ k (sm31 k hk) (by omega)
theorem shl1_of {k : Nat} (hk : k < 31) : (1 : Int32) <<< (nI k &&& 31) = nI (2 ^ k) := by
  have h := @shl_of 1 k (by omega) (by
    have := Nat.pow_lt_pow_right (show 1 < 2 by decide) hk
    omega)
  rw [Nat.one_mul] at h
  exact h
theorem grd (a b x : Int32) : (a - b) + x = (a + x) - b ∧ (a - b) + (-x) = a - (b + x) := by
  constructor <;> grind

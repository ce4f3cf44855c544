/-! whole numbers and the machine's ints -/
/-- in the range of an int -/
def inR (x : Int) : Prop := -2147483648 ≤ x ∧ x ≤ 2147483647
abbrev oi (x : Int) : Int32 := Int32.ofInt x
theorem oi_toInt {x : Int} (h : inR x) : (oi x).toInt = x := Int32.toInt_ofInt_of_le (by have := h.1; omega) (by have := h.2; omega)
theorem oi_self (x : Int32) : oi x.toInt = x := Int32.ofInt_toInt x
theorem inR_toInt (x : Int32) : inR x.toInt := ⟨by have := Int32.le_toInt x; omega, by have := Int32.toInt_lt x; omega⟩
theorem oi_lt {a b : Int} (ha : inR a) (hb : inR b) : oi a < oi b ↔ a < b := by
  rw [Int32.lt_iff_toInt_lt, oi_toInt ha, oi_toInt hb]
theorem oi_le {a b : Int} (ha : inR a) (hb : inR b) : oi a ≤ oi b ↔ a ≤ b := by
  rw [Int32.le_iff_toInt_le, oi_toInt ha, oi_toInt hb]
theorem oi_eq {a b : Int} (ha : inR a) (hb : inR b) : oi a = oi b ↔ a = b := by
  rw [← Int32.toInt_inj, oi_toInt ha, oi_toInt hb]
theorem oi_add (a b : Int) : oi a + oi b = oi (a + b) := (Int32.ofInt_add a b).symm
theorem oi_sub (a b : Int) : oi a - oi b = oi (a - b) := (Int32.ofInt_sub a b).symm
theorem oi_mul (a b : Int) : oi a * oi b = oi (a * b) := (Int32.ofInt_mul a b).symm
theorem oi_neg (a : Int) : - oi a = oi (-a) := (Int32.ofInt_neg a).symm
theorem oi_nat (n : Nat) : oi (n : Int) = nI n := Int32.ofInt_eq_ofNat
theorem oi_0 : (0 : Int32) = oi 0 := rfl
theorem inR_of {x : Int} (h1 : -2147483648 ≤ x) (h2 : x ≤ 2147483647) : inR x := ⟨h1, h2⟩
theorem oi_natOf {x : Int} (h : 0 ≤ x) : oi x = nI x.toNat := by
  rw [← oi_nat, Int.toNat_of_nonneg h]
theorem oi_clamp {x : Int} (h : 0 ≤ x) (h2 : inR x) : (oi x).toNatClampNeg = x.toNat := by
  rw [oi_natOf h]
  exact nI_clamp (by have := h2.2; omega)
theorem oi_in {x : Int} {n : Nat} (h : 0 ≤ x) (h2 : x < n) (h3 : n < 2 ^ 31) : vp_in (oi x) n := by
  rw [oi_natOf h]
  exact vp_in_nI (by omega) h3
theorem oi_div {a b : Int} (ha : inR a) (hb : inR b) (h0 : 0 ≤ a) (h1 : 0 < b) : oi a / oi b = oi (a / b) := by
  rw [oi_natOf h0, oi_natOf (Int.le_of_lt h1)]
  rw [pk_div (by have := ha.2; omega) (by omega) (by have := hb.2; omega)]
  rw [← oi_nat]
  congr 1
  rw [Int.natCast_ediv, Int.toNat_of_nonneg h0, Int.toNat_of_nonneg (Int.le_of_lt h1)]
theorem oi_rem {a b : Int} (ha : inR a) (hb : inR b) (h0 : 0 ≤ a) (h1 : 0 < b) : oi a - oi a / oi b * oi b = oi (a % b) := by
  rw [oi_div ha hb h0 h1, oi_mul, oi_sub]
  congr 1
  have := Int.mul_ediv_add_emod a b
  have e : a / b * b = b * (a / b) := Int.mul_comm _ _
  omega
theorem oi_char {n : Nat} (h : n < 65536) : ((nI n).toUInt32 % 65536).toInt32 = nI n := by
  have e : (nI n).toUInt32 = UInt32.ofNat n := rfl
  rw [e]
  have e2 : UInt32.ofNat n % 65536 = UInt32.ofNat n := by
    apply UInt32.toNat_inj.mp
    rw [UInt32.toNat_mod, UInt32.toNat_ofNat_of_lt' (by show n < 4294967296; omega)]
    show n % 65536 = n
    omega
  rw [e2]
  rfl

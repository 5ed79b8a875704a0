theorem pn_toInt {n : Nat} (h : n < 2147483648) : (Int32.ofNat n).toInt = (n : Int) := by
  exact Int32.toInt_ofNat_of_lt (by omega)
theorem pn_lt {a b : Nat} (ha : a < 2147483648) (hb : b < 2147483648) : Int32.ofNat a < Int32.ofNat b ↔ a < b := by
  rw [Int32.lt_iff_toInt_lt, pn_toInt ha, pn_toInt hb]; omega
theorem pn_le {a b : Nat} (ha : a < 2147483648) (hb : b < 2147483648) : Int32.ofNat a ≤ Int32.ofNat b ↔ a ≤ b := by
  rw [Int32.le_iff_toInt_le, pn_toInt ha, pn_toInt hb]; omega
theorem pn_eq {a b : Nat} (ha : a < 2147483648) (hb : b < 2147483648) : Int32.ofNat a = Int32.ofNat b ↔ a = b := by
  rw [← Int32.toInt_inj, pn_toInt ha, pn_toInt hb]; omega
theorem pn_nat {a : Nat} (ha : a < 2147483648) : (Int32.ofNat a).toNatClampNeg = a := by
  show (Int32.ofNat a).toInt.toNat = a
  rw [pn_toInt ha]; rfl
theorem pn_add (a b : Nat) : Int32.ofNat a + Int32.ofNat b = Int32.ofNat (a + b) := (Int32.ofNat_add a b).symm
theorem pn_sub {a b : Nat} (h : b ≤ a) : Int32.ofNat a - Int32.ofNat b = Int32.ofNat (a - b) := by
  rw [Int32.ofNat_sub a b h]
theorem pn_mul (a b : Nat) : Int32.ofNat a * Int32.ofNat b = Int32.ofNat (a * b) := (Int32.ofNat_mul a b).symm
theorem pn_nneg {a : Nat} (ha : a < 2147483648) : ¬ Int32.ofNat a < 0 := by
  rw [Int32.lt_iff_toInt_lt, pn_toInt ha, Int32.toInt_zero]; omega
theorem pn_0le {a : Nat} (ha : a < 2147483648) : (0 : Int32) ≤ Int32.ofNat a := by
  rw [Int32.le_iff_toInt_le, pn_toInt ha, Int32.toInt_zero]; omega
theorem pn_inb {a n : Nat} (ha : a < 2147483648) : wk_inb (Int32.ofNat a) n = true ↔ a < n := by
  simp only [wk_inb, pn_nat ha, decide_eq_false (pn_nneg ha), Bool.not_false, Bool.true_and, decide_eq_true_eq]
theorem pn_m1 : (-1 : Int32).toInt = -1 := by decide
theorem pn_ne1 {a : Nat} (ha : a < 2147483648) : Int32.ofNat a ≠ -1 := fun e => by
  have h := congrArg Int32.toInt e
  rw [pn_toInt ha, pn_m1] at h; omega
theorem pn_ofclamp {x : Int32} (h : ¬ x < 0) : Int32.ofNat x.toNatClampNeg = x := by
  rw [Int32.lt_iff_toInt_lt, Int32.toInt_zero] at h
  rw [← Int32.toInt_inj]
  have h2 := Int32.toInt_lt x
  have h1 : x.toNatClampNeg = x.toInt.toNat := rfl
  rw [h1, pn_toInt (by omega)]; omega
theorem pn_clamp_lt (x : Int32) : x.toNatClampNeg < 2147483648 := by
  have h2 := Int32.toInt_lt x
  have h1 : x.toNatClampNeg = x.toInt.toNat := rfl
  rw [h1]; omega
theorem pn_lit (n : Nat) : (OfNat.ofNat n : Int32) = Int32.ofNat n := rfl
theorem pn_succ (n : Nat) : Int32.ofNat n + 1 = Int32.ofNat (n + 1) := pn_add n 1
theorem pn_pred (n : Nat) : Int32.ofNat (n + 1) - 1 = Int32.ofNat n := pn_sub (a := n + 1) (b := 1) (by omega)
theorem pn_eqc {a : Nat} {x : Int32} (l : Nat) (hx : x = Int32.ofNat l) (ha : a < 2147483648) (hl : l < 2147483648) : Int32.ofNat a = x ↔ a = l := by rw [hx]; exact pn_eq ha hl
theorem pn_lec {a : Nat} {x : Int32} (l : Nat) (hx : x = Int32.ofNat l) (ha : a < 2147483648) (hl : l < 2147483648) : Int32.ofNat a ≤ x ↔ a ≤ l := by rw [hx]; exact pn_le ha hl
theorem pn_cle {a : Nat} {x : Int32} (l : Nat) (hx : x = Int32.ofNat l) (ha : a < 2147483648) (hl : l < 2147483648) : x ≤ Int32.ofNat a ↔ l ≤ a := by rw [hx]; exact pn_le hl ha
theorem pn_ltc {a : Nat} {x : Int32} (l : Nat) (hx : x = Int32.ofNat l) (ha : a < 2147483648) (hl : l < 2147483648) : Int32.ofNat a < x ↔ a < l := by rw [hx]; exact pn_lt ha hl
theorem pn_clt {a : Nat} {x : Int32} (l : Nat) (hx : x = Int32.ofNat l) (ha : a < 2147483648) (hl : l < 2147483648) : x < Int32.ofNat a ↔ l < a := by rw [hx]; exact pn_lt hl ha

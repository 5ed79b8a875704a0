theorem bv_low {w : Nat} (x : BitVec w) (h : x ≠ 0#w) : ∃ k, k < w ∧ x.getLsbD k = true ∧ ∀ j, j < k → x.getLsbD j = false := by
  have : ∀ m, (∃ k, k < m ∧ x.getLsbD k = true) → ∃ k, k < m ∧ x.getLsbD k = true ∧ ∀ j, j < k → x.getLsbD j = false := by
    intro m
    induction m with
    | zero => rintro ⟨k, hk, _⟩; omega
    | succ m ih =>
      rintro ⟨k, hk, hb⟩
      by_cases q : ∃ k, k < m ∧ x.getLsbD k = true
      · obtain ⟨k', a, b, c⟩ := ih q; exact ⟨k', by omega, b, c⟩
      · refine ⟨k, hk, hb, fun j hj => ?_⟩
        cases hz : x.getLsbD j with
        | false => rfl
        | true => exact (q ⟨j, by omega, hz⟩).elim
  apply this w
  apply Classical.byContradiction
  intro hn
  apply h
  apply BitVec.eq_of_getLsbD_eq
  intro i hi
  cases hz : x.getLsbD i with
  | false => simp
  | true => exact (hn ⟨i, hi, hz⟩).elim
theorem nat_low {v k : Nat} (h1 : v.testBit k = true) (h2 : ∀ j, j < k → v.testBit j = false) : v = 2 ^ (k + 1) * (v / 2 ^ (k + 1)) + 2 ^ k := by
  have hm : v % 2 ^ (k + 1) = 2 ^ k := by
    apply Nat.eq_of_testBit_eq
    intro i
    rw [Nat.testBit_mod_two_pow, Nat.testBit_two_pow]
    by_cases e : i = k
    · subst e; simp [h1]
    · by_cases l : i < k
      · rw [h2 i l]; simp; omega
      · have : ¬ i < k + 1 := by omega
        simp [this]; omega
  have := Nat.div_add_mod v (2 ^ (k + 1))
  omega
theorem nat_pred_bit {v k : Nat} (h1 : v.testBit k = true) (h2 : ∀ j, j < k → v.testBit j = false) (j : Nat) : (v - 1).testBit j = if j < k then true else if j = k then false else v.testBit j := by
  have hv := nat_low h1 h2
  have hp : 0 < 2 ^ k := Nat.two_pow_pos k
  have hlt : 2 ^ k < 2 ^ (k + 1) := by rw [Nat.pow_succ]; omega
  have e1 : v - 1 = 2 ^ (k + 1) * (v / 2 ^ (k + 1)) + (2 ^ k - 1) := by omega
  have e2 : v.testBit j = if j < k + 1 then (2 ^ k).testBit j else (v / 2 ^ (k + 1)).testBit (j - (k + 1)) := by
    conv => lhs; rw [hv]
    exact Nat.testBit_two_pow_mul_add _ (by omega) _
  rw [e1, Nat.testBit_two_pow_mul_add _ (by omega) _, e2]
  by_cases l : j < k
  · rw [if_pos l, if_pos (by omega), Nat.testBit_two_pow_sub_one]; simp [l]
  · by_cases e : j = k
    · subst e; rw [if_neg l, if_pos rfl, if_pos (by omega), Nat.testBit_two_pow_sub_one]; simp
    · rw [if_neg l, if_neg e, if_neg (by omega), if_neg (by omega)]
theorem bv_pred {w : Nat} {x : BitVec w} {k : Nat} (h1 : x.getLsbD k = true) (h2 : ∀ j, j < k → x.getLsbD j = false) {j : Nat} (hj : j < w) : (x - 1#w).getLsbD j = if j < k then true else if j = k then false else x.getLsbD j := by
  have hv : x.toNat ≠ 0 := by
    intro e
    have : x.toNat.testBit k = true := h1
    rw [e, Nat.zero_testBit] at this
    cases this
  have hw : 0 < w := by omega
  have e : (x - 1#w).toNat = x.toNat - 1 := by
    have hx := x.isLt
    rw [BitVec.toNat_sub]
    have h1w : (1#w).toNat = 1 := by
      rw [BitVec.toNat_ofNat]
      exact Nat.mod_eq_of_lt (Nat.one_lt_two_pow (by omega))
    rw [h1w]
    have : 2 ^ w - 1 + x.toNat = (x.toNat - 1) + 2 ^ w := by have := Nat.two_pow_pos w; omega
    rw [this, Nat.add_mod_right, Nat.mod_eq_of_lt (by omega)]
  show (x - 1#w).toNat.testBit j = _
  rw [e, nat_pred_bit h1 h2 j]
  rfl
theorem lb_pred {x : Int64} {k : Nat} (h1 : lb x k = true) (h2 : ∀ j, j < k → lb x j = false) {j : Nat} (hj : j < 64) : lb (x - 1) j = if j < k then true else if j = k then false else lb x j := by
  have e : (x - 1).toBitVec = x.toBitVec - 1#64 := rfl
  unfold lb
  rw [e]
  exact bv_pred h1 h2 hj
/-- taking the lowest bit away -/
theorem lb_drop {x : Int64} {k : Nat} (h1 : lb x k = true) (h2 : ∀ j, j < k → lb x j = false) (j : Nat) : lb (x &&& (x - 1)) j = (lb x j && decide (j ≠ k)) := by
  by_cases hj : j < 64
  · rw [lb_and, lb_pred h1 h2 hj]
    by_cases l : j < k
    · rw [if_pos l, h2 j l, Bool.false_and, Bool.false_and]
    · by_cases e : j = k
      · rw [if_neg l, if_pos e]; simp [e]
      · rw [if_neg l, if_neg e]; simp [e]
  · rw [lb_big _ (by omega), lb_big _ (by omega), Bool.false_and]
def ib (x : Int32) (k : Nat) : Bool := x.toBitVec.getLsbD k
def ntz_g (m : Int32) : Option Int32 :=
  if 0 < m then if m ≤ 65536 then f_Ji_numberOfTrailingZeros_34 (upd (upd (fun _ => 0) 0 m) 1 1) (fun _ => 0) else f_Ji_numberOfTrailingZeros_34 (upd (upd (fun _ => 0) 0 ((m).toUInt32 >>> (((16 : Int32)).toUInt32 &&& Int32.toUInt32 31)).toInt32) 1 17) (fun _ => 0) else some (m &&& 32)
theorem ntz_mask : ∀ t : Fin 32, ntz_g (Int32.ofNat (2 ^ t.val - 1)) = some (Int32.ofNat t.val) := by decide +kernel
theorem mask_bits : ∀ t j : Fin 32, ib (Int32.ofNat (2 ^ t.val - 1)) j.val = decide (j.val < t.val) := by decide +kernel
theorem ntz_int {x : Int32} {k : Nat} (hk : k < 32) (h1 : ib x k = true) (h2 : ∀ j, j < k → ib x j = false) : f_Ji_numberOfTrailingZeros x = some (Int32.ofNat k) := by
  have e : f_Ji_numberOfTrailingZeros x = ntz_g ((x ^^^ (-1)) &&& (x - 1)) := rfl
  rw [e, ← ntz_mask ⟨k, hk⟩]
  congr 1
  apply Int32.toBitVec_inj.mp
  apply BitVec.eq_of_getLsbD_eq
  intro j hj
  have hm := mask_bits ⟨k, hk⟩ ⟨j, hj⟩
  simp only [ib] at hm
  rw [hm]
  have hn1 : ib (-1) j = true := by
    have : ∀ j : Fin 32, ib (-1) j.val = true := by decide +kernel
    exact this ⟨j, hj⟩
  have e2 : (x - 1).toBitVec = x.toBitVec - 1#32 := rfl
  rw [Int32.toBitVec_and, BitVec.getLsbD_and, Int32.toBitVec_xor, BitVec.getLsbD_xor, e2, bv_pred h1 h2 hj]
  simp only [ib] at hn1 h1 h2
  rw [hn1]
  by_cases l : j < k
  · rw [if_pos l, h2 j l]; simp [l]
  · by_cases e : j = k
    · subst e; rw [if_neg l, if_pos rfl]; simp
    · rw [if_neg l, if_neg e]; simp [l]
theorem ib_low (x : Int64) {j : Nat} (hj : j < 32) : ib x.toInt32 j = lb x j := by
  unfold ib lb
  rw [Int64.toBitVec_toInt32, BitVec.getLsbD_signExtend]
  simp [hj]; omega
theorem ib_high (x : Int64) {j : Nat} (hj : j < 32) : ib ((x.toUInt64 >>> (((32 : Int32)).toInt64.toUInt64 &&& Int64.toUInt64 63)).toInt64).toInt32 j = lb x (j + 32) := by
  rw [ib_low _ hj]
  have e : (((32 : Int32)).toInt64.toUInt64 &&& Int64.toUInt64 63) = 32 := by decide
  rw [e]
  unfold lb
  show (x.toUInt64 >>> (32 : UInt64)).toBitVec.getLsbD j = _
  rw [UInt64.toBitVec_shiftRight]
  have e2 : ((32 : UInt64).toBitVec % 64#64 : BitVec 64) = 32#64 := by decide
  simp
  congr 1
  omega
theorem A_ntz {x : Int64} (hx : x ≠ 0) : ∃ k, k < 64 ∧ lb x k = true ∧ (∀ j, j < k → lb x j = false) ∧ f_Jl_numberOfTrailingZeros x = some (Int32.ofNat k) := by
  obtain ⟨k, hk, h1, h2⟩ := bv_low x.toBitVec (fun e => hx (Int64.toBitVec_inj.mp e))
  refine ⟨k, hk, h1, h2, ?_⟩
  by_cases q : k < 32
  · have hne : ¬ x.toInt32 = 0 := by
      intro e
      have := ib_low x q
      rw [e] at this
      have h3 : lb x k = true := h1
      rw [h3] at this
      simp [ib] at this
    unfold f_Jl_numberOfTrailingZeros
    rw [if_neg hne, ntz_int q (by rw [ib_low x q]; exact h1) (fun j hj => by rw [ib_low x (by omega)]; exact h2 j hj)]
    rfl
  · have he : x.toInt32 = 0 := by
      apply Int32.toBitVec_inj.mp
      apply BitVec.eq_of_getLsbD_eq
      intro j hj
      have h3 := ib_low x hj
      have h4 : lb x j = false := h2 j (by omega)
      rw [h4] at h3
      simp only [ib] at h3
      rw [h3]; simp
    unfold f_Jl_numberOfTrailingZeros
    rw [if_pos he, ntz_int (k := k - 32) (by omega) (by rw [ib_high x (by omega), show k - 32 + 32 = k by omega]; exact h1) (fun j hj => by rw [ib_high x (by omega)]; exact h2 _ (by omega))]
    show some (Int32.ofNat 32 + Int32.ofNat (k - 32)) = _
    rw [pn_add, show 32 + (k - 32) = k by omega]

abbrev MI : Type := Nat → Int32
abbrev MA : Type := Nat → Nat → Int32
def z_I : MI := fun _ => 0
def z_A : MA := fun _ _ => 0
def wk_FUEL : Nat := 1000000
theorem wk_if {α : Type} {c : Prop} {_ : Decidable c} {a : Option α} {z : α} (h : (if c then a else none) = some z) : c ∧ a = some z := by
  by_cases hc : c
  · rw [if_pos hc] at h; exact ⟨hc, h⟩
  · rw [if_neg hc] at h; cases h
theorem wk_ift {α : Type} {c : Prop} {_ : Decidable c} {a b : Option α} {z : α} (hc : c) (h : (if c then a else b) = some z) : a = some z := by rw [if_pos hc] at h; exact h
theorem wk_iff {α : Type} {c : Prop} {_ : Decidable c} {a b : Option α} {z : α} (hc : ¬ c) (h : (if c then a else b) = some z) : b = some z := by rw [if_neg hc] at h; exact h
def wk_inb (i : Int32) (n : Nat) : Bool := !decide (i < 0) && decide (i.toNatClampNeg < n)
theorem wk_inb_ok {i : Int32} {n : Nat} (h : wk_inb i n = true) : vp_in i n := by
  simp only [wk_inb, Bool.and_eq_true, Bool.not_eq_true', decide_eq_false_iff_not, decide_eq_true_eq] at h
  intro z
  rcases z with z | z
  · exact h.1 z
  · omega
def wk_let {α β : Type} (x : α) (f : α → β) : β := f x
theorem wk_letE {α β : Type} {x : α} {f : α → Option β} {z : β} (h : wk_let x f = some z) : ∃ y, y = x ∧ f y = some z := ⟨x, rfl, h⟩
theorem wk_inj {α β γ : Type} {a a' : α} {b b' : β} {c c' : γ} (h : some (a, b, c) = some (a', b', c')) : a = a' ∧ b = b' ∧ c = c' := by cases h; exact ⟨rfl, rfl, rfl⟩
theorem wk_inc {x : Int32} {n : Int} {k : Int32} (h : Int32.ofInt n = k) : x + Int32.ofInt n = x + k := by rw [h]
abbrev ML : Type := Nat → Nat → Int64
theorem wk_inj3 {α β γ δ : Type} {a a' : α} {b b' : β} {c c' : γ} {d d' : δ} (h : some (a, b, c, d) = some (a', b', c', d')) : a = a' ∧ b = b' ∧ c = c' ∧ d = d' := by cases h; exact ⟨rfl, rfl, rfl, rfl⟩
theorem wk_tag {α : Type} {a b : Nat} {x y : α} (hn : a ≠ b) (h : some (a, x) = some (b, y)) : False := by cases h; exact hn rfl
theorem wk_inj6 {α β γ δ ε ζ η : Type} {a a' : α} {b b' : β} {c c' : γ} {d d' : δ} {e e' : ε} {f f' : ζ} {g g' : η} (h : some (a, b, c, d, e, f, g) = some (a', b', c', d', e', f', g')) : a = a' ∧ b = b' ∧ c = c' ∧ d = d' ∧ e = e' ∧ f = f' ∧ g = g' := by cases h; exact ⟨rfl, rfl, rfl, rfl, rfl, rfl, rfl⟩
theorem wk_inj5 {α β γ δ ε ζ : Type} {a a' : α} {b b' : β} {c c' : γ} {d d' : δ} {e e' : ε} {f f' : ζ} (h : some (a, b, c, d, e, f) = some (a', b', c', d', e', f')) : a = a' ∧ b = b' ∧ c = c' ∧ d = d' ∧ e = e' ∧ f = f' := by cases h; exact ⟨rfl, rfl, rfl, rfl, rfl, rfl⟩
theorem wk_inj1 {α0 α1 : Type} {a0 b0 : α0} {a1 b1 : α1} (h : some (a0, a1) = some (b0, b1)) : a0 = b0 ∧ a1 = b1 := by cases h; exact ⟨rfl, rfl⟩
theorem wk_inj4 {α0 α1 α2 α3 α4 : Type} {a0 b0 : α0} {a1 b1 : α1} {a2 b2 : α2} {a3 b3 : α3} {a4 b4 : α4} (h : some (a0, a1, a2, a3, a4) = some (b0, b1, b2, b3, b4)) : a0 = b0 ∧ a1 = b1 ∧ a2 = b2 ∧ a3 = b3 ∧ a4 = b4 := by cases h; exact ⟨rfl, rfl, rfl, rfl, rfl⟩
theorem wk_inj11 {α0 α1 α2 α3 α4 α5 α6 α7 α8 α9 α10 α11 : Type} {a0 b0 : α0} {a1 b1 : α1} {a2 b2 : α2} {a3 b3 : α3} {a4 b4 : α4} {a5 b5 : α5} {a6 b6 : α6} {a7 b7 : α7} {a8 b8 : α8} {a9 b9 : α9} {a10 b10 : α10} {a11 b11 : α11} (h : some (a0, a1, a2, a3, a4, a5, a6, a7, a8, a9, a10, a11) = some (b0, b1, b2, b3, b4, b5, b6, b7, b8, b9, b10, b11)) : a0 = b0 ∧ a1 = b1 ∧ a2 = b2 ∧ a3 = b3 ∧ a4 = b4 ∧ a5 = b5 ∧ a6 = b6 ∧ a7 = b7 ∧ a8 = b8 ∧ a9 = b9 ∧ a10 = b10 ∧ a11 = b11 := by cases h; exact ⟨rfl, rfl, rfl, rfl, rfl, rfl, rfl, rfl, rfl, rfl, rfl, rfl⟩

/-- a set of the reference: its first character may turn it round -/
def m_neg (s : Nat → Nat) (b : Nat) : Bool := decide (s b = 94)
def m_set (s : Nat → Nat) (b e c : Nat) : Bool := inset s e 24 (if m_neg s b then b + 1 else b) c != m_neg s b
/-- labels of the reference's nodes -/
def rLab (tn : Nat) (tx : Nat → Int32) (s : Nat → Nat) (k fr to : Int32) : Rl :=
  if k = 0 then rl_id else if k = 1 then tl_con tn tx (fun c => c = fr) else if k = 2 then tl_con tn tx (fun c => c ≠ 10) else if k = 3 then tl_con tn tx (fun c => m_set s fr.toNatClampNeg to.toNatClampNeg c.toNatClampNeg = true)
  else if k = 4 then tl_beg tx else if k = 5 then tl_end tn tx else rl_no
/-- where a set's characters stand -/
def SE (x y : Int32) : Prop := ∃ b e : Nat, x = Int32.ofNat b ∧ y = Int32.ofNat e ∧ b < e ∧ e ≤ 24
/-- the arrays of the reference's builder, and the graph -/
abbrev RAbs (tn : Nat) (tx : Nat → Int32) (s : Nat → Nat) (I : MI) (A : MA) (r : RR) : Prop := (I 17 = Int32.ofNat r.n) ∧ (r.n ≤ 160) ∧ (∀ u, u < r.n → nd r.n (A 21 u) (r.on u)) ∧ (∀ u, u < r.n → nd r.n (A 22 u) (r.tw u)) ∧ (∀ u, u < r.n → r.lab u = rLab tn tx s (A 18 u) (A 19 u) (A 20 u)) ∧ (I 25 = Int32.ofNat r.np) ∧ (r.np ≤ 160) ∧ (∀ p, p < r.np → A 26 p = Int32.ofNat (r.hd p) ∧ r.hd p < r.n) ∧ (∀ p, p < r.np → A 27 p = Int32.ofNat (r.tl p) ∧ r.tl p < r.n) ∧ (∀ p, p < r.np → A 18 (r.tl p) = 0) ∧ (∀ u, u < r.n → r.tw u ≠ none → A 18 u = 0) ∧ (I 28 = Int32.ofNat r.k) ∧ (r.k ≤ 10) ∧ (∀ j, j < r.k → nd r.np (A 29 j) (r.ch j)) ∧ (∀ j, j < r.k → A 30 j = Int32.ofNat (r.rw j) ∧ r.rw j < r.np) ∧ (∀ j, j < r.k → nd r.np (A 31 j) (r.pt j)) ∧ (∀ u, u < r.n → A 18 u = 3 → SE (A 19 u) (A 20 u)) ∧ (∀ u, u < r.n → A 18 u ≠ 0 → r.on u ≠ none)
theorem RAbs.n {tn : Nat} {tx : Nat → Int32} {s : Nat → Nat} {I : MI} {A : MA} {r : RR} (h_ : RAbs tn tx s I A r) : I 17 = Int32.ofNat r.n := h_.1
theorem RAbs.nb {tn : Nat} {tx : Nat → Int32} {s : Nat → Nat} {I : MI} {A : MA} {r : RR} (h_ : RAbs tn tx s I A r) : r.n ≤ 160 := h_.2.1
theorem RAbs.on {tn : Nat} {tx : Nat → Int32} {s : Nat → Nat} {I : MI} {A : MA} {r : RR} (h_ : RAbs tn tx s I A r) : ∀ u, u < r.n → nd r.n (A 21 u) (r.on u) := h_.2.2.1
theorem RAbs.tw {tn : Nat} {tx : Nat → Int32} {s : Nat → Nat} {I : MI} {A : MA} {r : RR} (h_ : RAbs tn tx s I A r) : ∀ u, u < r.n → nd r.n (A 22 u) (r.tw u) := h_.2.2.2.1
theorem RAbs.lab {tn : Nat} {tx : Nat → Int32} {s : Nat → Nat} {I : MI} {A : MA} {r : RR} (h_ : RAbs tn tx s I A r) : ∀ u, u < r.n → r.lab u = rLab tn tx s (A 18 u) (A 19 u) (A 20 u) := h_.2.2.2.2.1
theorem RAbs.np {tn : Nat} {tx : Nat → Int32} {s : Nat → Nat} {I : MI} {A : MA} {r : RR} (h_ : RAbs tn tx s I A r) : I 25 = Int32.ofNat r.np := h_.2.2.2.2.2.1
theorem RAbs.pb {tn : Nat} {tx : Nat → Int32} {s : Nat → Nat} {I : MI} {A : MA} {r : RR} (h_ : RAbs tn tx s I A r) : r.np ≤ 160 := h_.2.2.2.2.2.2.1
theorem RAbs.hd {tn : Nat} {tx : Nat → Int32} {s : Nat → Nat} {I : MI} {A : MA} {r : RR} (h_ : RAbs tn tx s I A r) : ∀ p, p < r.np → A 26 p = Int32.ofNat (r.hd p) ∧ r.hd p < r.n := h_.2.2.2.2.2.2.2.1
theorem RAbs.tl {tn : Nat} {tx : Nat → Int32} {s : Nat → Nat} {I : MI} {A : MA} {r : RR} (h_ : RAbs tn tx s I A r) : ∀ p, p < r.np → A 27 p = Int32.ofNat (r.tl p) ∧ r.tl p < r.n := h_.2.2.2.2.2.2.2.2.1
theorem RAbs.tk {tn : Nat} {tx : Nat → Int32} {s : Nat → Nat} {I : MI} {A : MA} {r : RR} (h_ : RAbs tn tx s I A r) : ∀ p, p < r.np → A 18 (r.tl p) = 0 := h_.2.2.2.2.2.2.2.2.2.1
theorem RAbs.of {tn : Nat} {tx : Nat → Int32} {s : Nat → Nat} {I : MI} {A : MA} {r : RR} (h_ : RAbs tn tx s I A r) : ∀ u, u < r.n → r.tw u ≠ none → A 18 u = 0 := h_.2.2.2.2.2.2.2.2.2.2.1
theorem RAbs.k {tn : Nat} {tx : Nat → Int32} {s : Nat → Nat} {I : MI} {A : MA} {r : RR} (h_ : RAbs tn tx s I A r) : I 28 = Int32.ofNat r.k := h_.2.2.2.2.2.2.2.2.2.2.2.1
theorem RAbs.kb {tn : Nat} {tx : Nat → Int32} {s : Nat → Nat} {I : MI} {A : MA} {r : RR} (h_ : RAbs tn tx s I A r) : r.k ≤ 10 := h_.2.2.2.2.2.2.2.2.2.2.2.2.1
theorem RAbs.ch {tn : Nat} {tx : Nat → Int32} {s : Nat → Nat} {I : MI} {A : MA} {r : RR} (h_ : RAbs tn tx s I A r) : ∀ j, j < r.k → nd r.np (A 29 j) (r.ch j) := h_.2.2.2.2.2.2.2.2.2.2.2.2.2.1
theorem RAbs.rw {tn : Nat} {tx : Nat → Int32} {s : Nat → Nat} {I : MI} {A : MA} {r : RR} (h_ : RAbs tn tx s I A r) : ∀ j, j < r.k → A 30 j = Int32.ofNat (r.rw j) ∧ r.rw j < r.np := h_.2.2.2.2.2.2.2.2.2.2.2.2.2.2.1
theorem RAbs.pt {tn : Nat} {tx : Nat → Int32} {s : Nat → Nat} {I : MI} {A : MA} {r : RR} (h_ : RAbs tn tx s I A r) : ∀ j, j < r.k → nd r.np (A 31 j) (r.pt j) := h_.2.2.2.2.2.2.2.2.2.2.2.2.2.2.2.1
theorem RAbs.se {tn : Nat} {tx : Nat → Int32} {s : Nat → Nat} {I : MI} {A : MA} {r : RR} (h_ : RAbs tn tx s I A r) : ∀ u, u < r.n → A 18 u = 3 → SE (A 19 u) (A 20 u) := h_.2.2.2.2.2.2.2.2.2.2.2.2.2.2.2.2.1
theorem RAbs.oo {tn : Nat} {tx : Nat → Int32} {s : Nat → Nat} {I : MI} {A : MA} {r : RR} (h_ : RAbs tn tx s I A r) : ∀ u, u < r.n → A 18 u ≠ 0 → r.on u ≠ none := h_.2.2.2.2.2.2.2.2.2.2.2.2.2.2.2.2.2
/-- what building changes -/
abbrev MFr (I I' : MI) (A A' : MA) : Prop := (∀ j, (j < 17 ∨ 29 ≤ j) → I' j = I j) ∧ (∀ j, (j < 18 ∨ 32 ≤ j) → A' j = A j)
theorem MFr.i {I I' : MI} {A A' : MA} (h_ : MFr I I' A A') : ∀ j, (j < 17 ∨ 29 ≤ j) → I' j = I j := h_.1
theorem MFr.a {I I' : MI} {A A' : MA} (h_ : MFr I I' A A') : ∀ j, (j < 18 ∨ 32 ≤ j) → A' j = A j := h_.2
theorem MFr.refl (I : MI) (A : MA) : MFr I I A A := ⟨fun _ _ => rfl, fun _ _ => rfl⟩
theorem MFr.trans {I I' I'' : MI} {A A' A'' : MA} (h : MFr I I' A A') (h' : MFr I' I'' A' A'') : MFr I I'' A A'' := ⟨fun j hj => (h'.i j hj).trans (h.i j hj), fun j hj => (h'.a j hj).trans (h.a j hj)⟩
theorem MFr.ui {I I' : MI} {A A' : MA} (h : MFr I I' A A') {j : Nat} (hj : 17 ≤ j ∧ j < 29) (v : Int32) : MFr I (upd I' j v) A A' := ⟨fun k hk => by rw [upd_ne _ _ (by omega)]; exact h.i k hk, h.a⟩
theorem MFr.ua {I I' : MI} {A A' : MA} (h : MFr I I' A A') {j : Nat} (hj : 18 ≤ j ∧ j < 32) (v : Nat → Int32) : MFr I I' A (va_up A' j v) := ⟨h.i, fun k hk => by rw [va_up_ne _ _ (by omega)]; exact h.a k hk⟩
theorem pn_i160 {n : Nat} (h : n < 160) : wk_inb (Int32.ofNat n) 160 = true := (pn_inb (by omega)).mpr h
theorem pn_i26 {n : Nat} (h : n < 26) : wk_inb (Int32.ofNat n) 26 = true := (pn_inb (by omega)).mpr h
theorem va_up2 {α : Type} (f : Nat → α) (k : Nat) (v w : α) : va_up (va_up f k v) k w = va_up f k w := by
  funext j; simp only [va_up]; split <;> rfl
theorem B_node {I : MI} {A : MA} {n : Nat} (a b c : Int32) (hn : I 17 = Int32.ofNat n) (h : n < 160) :
    f_M_node I A a b c = some (Int32.ofNat n, upd I 17 (Int32.ofNat (n + 1)), va_up (va_up (va_up (va_up (va_up A 18 (upd (A 18) n a)) 19 (upd (A 19) n b)) 20 (upd (A 20) n c)) 21 (upd (A 21) n (-1))) 22 (upd (A 22) n (-1))) := by
  have hi := pn_i160 h
  have h1 : va_up A 18 (upd (A 18) n a) 19 = A 19 := va_up_ne _ _ (by decide)
  have h2 : va_up (va_up A 18 (upd (A 18) n a)) 19 (upd (A 19) n b) 20 = A 20 := by rw [va_up_ne _ _ (by decide), va_up_ne _ _ (by decide)]
  have h3 : va_up (va_up (va_up A 18 (upd (A 18) n a)) 19 (upd (A 19) n b)) 20 (upd (A 20) n c) 21 = A 21 := by rw [va_up_ne _ _ (by decide), va_up_ne _ _ (by decide), va_up_ne _ _ (by decide)]
  have h4 : va_up (va_up (va_up (va_up A 18 (upd (A 18) n a)) 19 (upd (A 19) n b)) 20 (upd (A 20) n c)) 21 (upd (A 21) n (-1)) 22 = A 22 := by rw [va_up_ne _ _ (by decide), va_up_ne _ _ (by decide), va_up_ne _ _ (by decide), va_up_ne _ _ (by decide)]
  simp only [f_M_node, wk_let, hn, hi, if_true, pn_nat (show n < 2147483648 by omega), h1, h2, h3, h4, pn_succ, upd_self, pn_pred]
theorem B_link1 {I : MI} {A : MA} {a : Nat} (b : Int32) (h : a < 160) (hn : A 21 a = -1) : f_M_link I A (Int32.ofNat a) b = some (0, I, va_up A 21 (upd (A 21) a b)) := by
  have h0 : ¬ (0 : Int32) ≤ -1 := by decide
  simp only [f_M_link, pn_i160 h, if_true, pn_nat (show a < 2147483648 by omega), hn, if_neg h0, wk_let, f_M_link_26]
theorem B_link2 {I : MI} {A : MA} {a v : Nat} (b : Int32) (h : a < 160) (hv : v < 160) (hn : A 21 a = Int32.ofNat v) : f_M_link I A (Int32.ofNat a) b = some (0, I, va_up A 22 (upd (A 22) a b)) := by
  have h0 : (0 : Int32) ≤ Int32.ofNat v := pn_0le (by omega)
  simp only [f_M_link, pn_i160 h, if_true, pn_nat (show a < 2147483648 by omega), hn, if_pos h0, wk_let, f_M_link_26]
theorem B_piece {I : MI} {A : MA} {p : Nat} (a b : Int32) (hp : I 25 = Int32.ofNat p) (h : p < 160) :
    f_M_piece I A a b = some (Int32.ofNat p, upd I 25 (Int32.ofNat (p + 1)), va_up (va_up A 26 (upd (A 26) p a)) 27 (upd (A 27) p b)) := by
  have h1 : va_up A 26 (upd (A 26) p a) 27 = A 27 := va_up_ne _ _ (by decide)
  simp only [f_M_piece, wk_let, hp, pn_i160 h, if_true, pn_nat (show p < 2147483648 by omega), h1, pn_succ, upd_self, pn_pred]
theorem rlab_upd {tn : Nat} {tx : Nat → Int32} {s : Nat → Nat} {k u : Nat} {lab : Nat → Rl} {f fr to : Nat → Int32} {a b c : Int32} (h : u ≠ k → lab u = rLab tn tx s (f u) (fr u) (to u)) :
    sU lab k (rLab tn tx s a b c) u = rLab tn tx s (upd f k a u) (upd fr k b u) (upd to k c u) := by
  by_cases e : u = k
  · rw [e, upd_self, sU_self, upd_self, upd_self]
  · rw [upd_ne _ _ e, sU_ne _ _ e, upd_ne _ _ e, upd_ne _ _ e]; exact h e
theorem rlab_upd0 {tn : Nat} {tx : Nat → Int32} {s : Nat → Nat} {k u : Nat} {lab : Nat → Rl} {f fr to : Nat → Int32} {b c : Int32} (h : u ≠ k → lab u = rLab tn tx s (f u) (fr u) (to u)) :
    sU lab k rl_id u = rLab tn tx s (upd f k 0 u) (upd fr k b u) (upd to k c u) := rlab_upd (a := 0) h
theorem se_upd {k u : Nat} {f fr to : Nat → Int32} {a b c : Int32} (h : u ≠ k → f u = 3 → SE (fr u) (to u)) (hn : a = 3 → SE b c) : upd f k a u = 3 → SE (upd fr k b u) (upd to k c u) := by
  by_cases e : u = k
  · rw [e, upd_self, upd_self, upd_self]; exact hn
  · rw [upd_ne _ _ e, upd_ne _ _ e, upd_ne _ _ e]; exact h e
theorem oo_s {k u : Nat} {g : Nat → Option Nat} {v : Nat} (h : u ≠ k → g u ≠ none) : sU g k (some v) u ≠ none := by
  by_cases e : u = k
  · rw [e, sU_self]; exact fun z => by cases z
  · rw [sU_ne _ _ e]; exact h e
theorem oo_0 {k u : Nat} {f : Nat → Int32} {g : Nat → Option Nat} (h : u ≠ k → f u ≠ 0 → g u ≠ none) : upd f k 0 u ≠ 0 → sU g k none u ≠ none := by
  by_cases e : u = k
  · rw [e, upd_self]; exact fun z => (z rfl).elim
  · rw [upd_ne _ _ e, sU_ne _ _ e]; exact h e
theorem se_0 {b c : Int32} : (0 : Int32) = 3 → SE b c := fun z => absurd z (by decide)
/-- a kind that stays where no node is added -/
theorem kd_ne {f : Nat → Int32} {n u : Nat} {a : Int32} (h : u < n) : upd f n a u = f u := upd_ne _ _ (by omega)
/-- an empty piece -/
theorem RAbs.nothing {tn : Nat} {tx : Nat → Int32} {s : Nat → Nat} {I : MI} {A : MA} {r : RR} (h : RAbs tn tx s I A r) (hn : r.n < 160) (hp : r.np < 160) :
    Res (f_M_nothing I A) (fun z => z.1 = Int32.ofNat r.np ∧ RAbs tn tx s z.2.1 z.2.2 (r_nothing r) ∧ MFr I z.2.1 A z.2.2 ∧ z.2.2 29 = A 29) := by
  have e25 : upd I 17 (Int32.ofNat (r.n + 1)) 25 = Int32.ofNat r.np := by rw [upd_ne _ _ (by decide)]; exact h.np
  simp only [f_M_nothing, B_node 0 0 0 h.n hn, Option.bind_some, B_piece _ _ e25 hp]
  have hm : r.n ≤ (r_nothing r).n := Nat.le_succ _
  have hm1 : r.n < (r_nothing r).n := Nat.lt_succ_self _
  have hq : r.np ≤ (r_nothing r).np := Nat.le_succ _
  have hlt : ∀ u, u < (r_nothing r).n → u ≠ r.n → u < r.n := fun u hu e => by have : u < r.n + 1 := hu; omega
  have hlp : ∀ u, u < (r_nothing r).np → u ≠ r.np → u < r.np := fun u hu e => by have : u < r.np + 1 := hu; omega
  refine Res.mk ⟨rfl, ⟨?_, hn, fun u hu => ?_, fun u hu => ?_, fun u hu => ?_, ?_, hp, fun p hp' => ?_, fun p hp' => ?_, fun p hp' => ?_, fun u hu => ?_, ?_, h.kb, fun j hj => ?_, fun j hj => ?_, fun j hj => ?_, fun u hu => ?_, fun u hu => ?_⟩, ?_, ?_⟩
  · simp only [upd, if_true, if_false, Nat.reduceEqDiff]; rfl
  · simp only [va_up, if_true, if_false, Nat.reduceEqDiff]; exact nd_upd (fun e => (h.on u (hlt u hu e)).mono hm) rfl
  · simp only [va_up, if_true, if_false, Nat.reduceEqDiff]; exact nd_upd (fun e => (h.tw u (hlt u hu e)).mono hm) rfl
  · simp only [va_up, if_true, if_false, Nat.reduceEqDiff]; exact rlab_upd0 (fun e => h.lab u (hlt u hu e))
  · simp only [upd_self]; rfl
  · simp only [va_up, if_true, if_false, Nat.reduceEqDiff]; exact of_upd (fun e => ⟨(h.hd p (hlp p hp' e)).1, Nat.lt_of_lt_of_le (h.hd p (hlp p hp' e)).2 hm⟩) hm1
  · simp only [va_up, if_true, if_false, Nat.reduceEqDiff]; exact of_upd (fun e => ⟨(h.tl p (hlp p hp' e)).1, Nat.lt_of_lt_of_le (h.tl p (hlp p hp' e)).2 hm⟩) hm1
  · simp only [va_up, if_true, if_false, Nat.reduceEqDiff]
    by_cases e : p = r.np
    · have e2 : (r_nothing r).tl p = r.n := by rw [e]; exact sU_self _ _ _
      rw [e2, upd_self]
    · have e2 : (r_nothing r).tl p = r.tl p := sU_ne _ _ e
      rw [e2, kd_ne (h.tl p (hlp p hp' e)).2]; exact h.tk p (hlp p hp' e)
  · simp only [va_up, if_true, if_false, Nat.reduceEqDiff]; exact kz_upd (fun e => h.of u (hlt u hu e))
  · simp only [upd, if_true, if_false, Nat.reduceEqDiff]; exact h.k
  · simp only [va_up, if_true, if_false, Nat.reduceEqDiff]; exact (h.ch j hj).mono hq
  · simp only [va_up, if_true, if_false, Nat.reduceEqDiff]; exact ⟨(h.rw j hj).1, Nat.lt_of_lt_of_le (h.rw j hj).2 hq⟩
  · simp only [va_up, if_true, if_false, Nat.reduceEqDiff]; exact (h.pt j hj).mono hq
  · simp only [va_up, if_true, if_false, Nat.reduceEqDiff]; exact se_upd (fun e => h.se u (hlt u hu e)) se_0
  · simp only [va_up, if_true, if_false, Nat.reduceEqDiff]; exact oo_0 (fun e => h.oo u (hlt u hu e))
  · exact ((((((((MFr.refl I A).ui (j := 17) (by omega) _).ua (j := 18) (by omega) _).ua (j := 19) (by omega) _).ua (j := 20) (by omega) _).ua (j := 21) (by omega) _).ua (j := 22) (by omega) _).ui (j := 25) (by omega) _).ua (j := 26) (by omega) _ |>.ua (j := 27) (by omega) _
  · simp only [va_up, if_true, if_false, Nat.reduceEqDiff]
/-- a single node and its end -/
theorem RAbs.single {tn : Nat} {tx : Nat → Int32} {s : Nat → Nat} {I : MI} {A : MA} {r : RR} (h : RAbs tn tx s I A r) (hn : r.n + 1 < 160) (hp : r.np < 160) (k a b : Int32) (hse : k = 3 → SE a b) :
    Res (f_M_single I A k a b) (fun z => z.1 = Int32.ofNat r.np ∧ RAbs tn tx s z.2.1 z.2.2 (r_single r (rLab tn tx s k a b)) ∧ MFr I z.2.1 A z.2.2) := by
  have e17 : upd I 17 (Int32.ofNat (r.n + 1)) 17 = Int32.ofNat (r.n + 1) := upd_self _ _ _
  have e25 : upd (upd I 17 (Int32.ofNat (r.n + 1))) 17 (Int32.ofNat (r.n + 1 + 1)) 25 = Int32.ofNat r.np := by rw [upd_ne _ _ (by decide), upd_ne _ _ (by decide)]; exact h.np
  obtain ⟨A2, hA2⟩ : ∃ A2, A2 = va_up (va_up (va_up (va_up (va_up A 18 (upd (A 18) r.n k)) 19 (upd (A 19) r.n a)) 20 (upd (A 20) r.n b)) 21 (upd (A 21) r.n (-1))) 22 (upd (A 22) r.n (-1)) := ⟨_, rfl⟩
  obtain ⟨A3, hA3⟩ : ∃ A3, A3 = va_up (va_up (va_up (va_up (va_up A2 18 (upd (A2 18) (r.n + 1) 0)) 19 (upd (A2 19) (r.n + 1) 0)) 20 (upd (A2 20) (r.n + 1) 0)) 21 (upd (A2 21) (r.n + 1) (-1))) 22 (upd (A2 22) (r.n + 1) (-1)) := ⟨_, rfl⟩
  have a18 : A3 18 = upd (upd (A 18) r.n k) (r.n + 1) 0 := by rw [hA3, hA2]; simp only [va_up, if_true, if_false, Nat.reduceEqDiff]
  have a19 : A3 19 = upd (upd (A 19) r.n a) (r.n + 1) 0 := by rw [hA3, hA2]; simp only [va_up, if_true, if_false, Nat.reduceEqDiff]
  have a20 : A3 20 = upd (upd (A 20) r.n b) (r.n + 1) 0 := by rw [hA3, hA2]; simp only [va_up, if_true, if_false, Nat.reduceEqDiff]
  have a21 : A3 21 = upd (upd (A 21) r.n (-1)) (r.n + 1) (-1) := by rw [hA3, hA2]; simp only [va_up, if_true, if_false, Nat.reduceEqDiff]
  have a22 : A3 22 = upd (upd (A 22) r.n (-1)) (r.n + 1) (-1) := by rw [hA3, hA2]; simp only [va_up, if_true, if_false, Nat.reduceEqDiff]
  have ao : ∀ j, j < 18 ∨ 23 ≤ j → A3 j = A j := fun j hj => by
    rw [hA3, va_up_ne _ _ (by omega), va_up_ne _ _ (by omega), va_up_ne _ _ (by omega), va_up_ne _ _ (by omega), va_up_ne _ _ (by omega), hA2, va_up_ne _ _ (by omega), va_up_ne _ _ (by omega), va_up_ne _ _ (by omega), va_up_ne _ _ (by omega), va_up_ne _ _ (by omega)]
  have l1 : A3 21 r.n = -1 := by rw [a21, upd_ne _ _ (by omega), upd_self]
  have q26 : va_up A3 21 (upd (A3 21) r.n (Int32.ofNat (r.n + 1))) 26 = A 26 := by rw [va_up_ne _ _ (by decide)]; exact ao 26 (by omega)
  have q27 : va_up A3 21 (upd (A3 21) r.n (Int32.ofNat (r.n + 1))) 27 = A 27 := by rw [va_up_ne _ _ (by decide)]; exact ao 27 (by omega)
  simp only [f_M_single, B_node k a b h.n (show r.n < 160 by omega), Option.bind_some, ← hA2, B_node 0 0 0 e17 hn, ← hA3, B_link1 _ (show r.n < 160 by omega) l1, B_piece _ _ e25 hp, q26, q27]
  have hm : r.n ≤ (r_single r (rLab tn tx s k a b)).n := by show r.n ≤ r.n + 2; omega
  have hm1 : r.n < (r_single r (rLab tn tx s k a b)).n := by show r.n < r.n + 2; omega
  have hm2 : r.n + 1 < (r_single r (rLab tn tx s k a b)).n := by show r.n + 1 < r.n + 2; omega
  have hq : r.np ≤ (r_single r (rLab tn tx s k a b)).np := Nat.le_succ _
  have hlt : ∀ u, u < (r_single r (rLab tn tx s k a b)).n → u ≠ r.n → u ≠ r.n + 1 → u < r.n := fun u hu e e' => by have : u < r.n + 2 := hu; omega
  have hlp : ∀ u, u < (r_single r (rLab tn tx s k a b)).np → u ≠ r.np → u < r.np := fun u hu e => by have : u < r.np + 1 := hu; omega
  refine Res.mk ⟨rfl, ⟨?_, hn, fun u hu => ?_, fun u hu => ?_, fun u hu => ?_, ?_, hp, fun p hp' => ?_, fun p hp' => ?_, fun p hp' => ?_, fun u hu => ?_, ?_, h.kb, fun j hj => ?_, fun j hj => ?_, fun j hj => ?_, fun u hu => ?_, fun u hu hk0 => ?_⟩, ?_⟩
  · simp only [upd, if_true, if_false, Nat.reduceEqDiff]; rfl
  · simp only [va_up, if_true, if_false, Nat.reduceEqDiff, a21]
    exact nd_upd (fun _ => nd_upd (fun e1 => nd_upd (fun e => (h.on u (hlt u hu e e1)).mono hm) rfl) rfl) ⟨hm2, rfl⟩
  · simp only [va_up, if_true, if_false, Nat.reduceEqDiff, a22]
    exact nd_upd (fun e1 => nd_upd (fun e => (h.tw u (hlt u hu e e1)).mono hm) rfl) rfl
  · simp only [va_up, if_true, if_false, Nat.reduceEqDiff, a18, a19, a20]
    exact rlab_upd0 (fun e1 => rlab_upd (fun e => h.lab u (hlt u hu e e1)))
  · simp only [upd_self]; rfl
  · simp only [va_up, if_true, if_false, Nat.reduceEqDiff]; exact of_upd (fun e => ⟨(h.hd p (hlp p hp' e)).1, Nat.lt_of_lt_of_le (h.hd p (hlp p hp' e)).2 hm⟩) hm1
  · simp only [va_up, if_true, if_false, Nat.reduceEqDiff]; exact of_upd (fun e => ⟨(h.tl p (hlp p hp' e)).1, Nat.lt_of_lt_of_le (h.tl p (hlp p hp' e)).2 hm⟩) hm2
  · simp only [va_up, if_true, if_false, Nat.reduceEqDiff, a18]
    by_cases e : p = r.np
    · have e2 : (r_single r (rLab tn tx s k a b)).tl p = r.n + 1 := by rw [e]; exact sU_self _ _ _
      rw [e2, upd_self]
    · have e2 : (r_single r (rLab tn tx s k a b)).tl p = r.tl p := sU_ne _ _ e
      have := (h.tl p (hlp p hp' e)).2
      rw [e2, upd_ne _ _ (by omega), upd_ne _ _ (by omega)]; exact h.tk p (hlp p hp' e)
  · simp only [va_up, if_true, if_false, Nat.reduceEqDiff, a18]; exact kz_upd (fun e1 => kz_none (fun e => h.of u (hlt u hu e e1)))
  · simp only [upd, if_true, if_false, Nat.reduceEqDiff]; exact h.k
  · simp only [va_up, if_true, if_false, Nat.reduceEqDiff, ao 29 (by omega)]; exact (h.ch j hj).mono hq
  · simp only [va_up, if_true, if_false, Nat.reduceEqDiff, ao 30 (by omega)]; exact ⟨(h.rw j hj).1, Nat.lt_of_lt_of_le (h.rw j hj).2 hq⟩
  · simp only [va_up, if_true, if_false, Nat.reduceEqDiff, ao 31 (by omega)]; exact (h.pt j hj).mono hq
  · simp only [va_up, if_true, if_false, Nat.reduceEqDiff, a18, a19, a20]; exact se_upd (fun e1 => se_upd (fun e => h.se u (hlt u hu e e1)) hse) se_0
  · simp only [va_up, if_true, if_false, Nat.reduceEqDiff, a18] at hk0
    refine oo_s (fun e => ?_)
    by_cases e1 : u = r.n + 1
    · rw [e1, upd_self] at hk0; exact (hk0 rfl).elim
    · rw [upd_ne _ _ e1, upd_ne _ _ e] at hk0
      rw [sU_ne _ _ e1, sU_ne _ _ e]; exact h.oo u (hlt u hu e e1) hk0
  · refine ⟨fun j hj => ?_, fun j hj => ?_⟩
    · dsimp only; rw [upd_ne _ _ (by omega), upd_ne _ _ (by omega), upd_ne _ _ (by omega)]
    · dsimp only; rw [va_up_ne _ _ (by omega), va_up_ne _ _ (by omega), va_up_ne _ _ (by omega)]; exact ao j (by omega)

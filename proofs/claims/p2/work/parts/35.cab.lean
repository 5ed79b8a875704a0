theorem upd_self (f : Nat → Int32) (k : Nat) (v : Int32) : upd f k v k = v := by simp [upd]
theorem upd_ne (f : Nat → Int32) {k j : Nat} (v : Int32) (h : j ≠ k) : upd f k v j = f j := by simp [upd, h]
theorem vpl_self (f : Nat → Int64) (k : Nat) (v : Int64) : vp_updL f k v k = v := by simp [vp_updL]
theorem vpl_ne (f : Nat → Int64) {k j : Nat} (v : Int64) (h : j ≠ k) : vp_updL f k v j = f j := by simp [vp_updL, h]
theorem A_addNode {M : MI} {MB : MA} {L : ML} {n : Nat} (k : Int32) (hn : M 5 = Int32.ofNat n) (h : n < 50) :
    f_A_addNode M MB L k = some (Int32.ofNat n, upd M 5 (Int32.ofNat (n + 1)), va_up (va_up (va_up MB 0 (upd (MB 0) n k)) 1 (upd (MB 1) n (-1))) 2 (upd (MB 2) n (-1)), va_up (va_up L 3 (vp_updL (L 3) n 0)) 4 (vp_updL (L 4) n 0)) := by
  have hi : wk_inb (Int32.ofNat n) 50 = true := (pn_inb (by omega)).mpr h
  have h1 : va_up MB 0 (upd (MB 0) n k) 1 = MB 1 := va_up_ne _ _ (by decide)
  have h2 : va_up (va_up MB 0 (upd (MB 0) n k)) 1 (upd (MB 1) n (-1)) 2 = MB 2 := by rw [va_up_ne _ _ (by decide), va_up_ne _ _ (by decide)]
  have h3 : va_up L 3 (vp_updL (L 3) n 0) 4 = L 4 := va_up_ne _ _ (by decide)
  simp only [f_A_addNode, wk_let, hn, hi, if_true, pn_nat (show n < 2147483648 by omega), h1, h2, h3, pn_succ]
theorem A_addPart {sx : Nat → Int32} {I : MI} {A : MA} {M : MI} {MB : MA} {L : ML} {t : Nat} (a b : Int32) (ht : I 12 = Int32.ofNat t) (h : t < 50) :
    f_P_addPart sx I A M MB L a b = some (0, upd (upd (upd I 10 (Int32.ofNat t)) 11 a) 12 b, A, M, va_up MB 1 (upd (MB 1) t a), L) := by
  have hi : wk_inb (Int32.ofNat t) 50 = true := (pn_inb (by omega)).mpr h
  simp only [f_P_addPart, wk_let, ht, upd_self, hi, if_true, pn_nat (show t < 2147483648 by omega)]
theorem A_addNodeAsPart {sx : Nat → Int32} {I : MI} {A : MA} {M : MI} {MB : MA} {L : ML} {n t : Nat} (k : Int32) (hn : M 5 = Int32.ofNat n) (h : n < 50) (ht : I 12 = Int32.ofNat t) (h' : t < 50) :
    f_P_addNodeAsPart sx I A M MB L k = some (Int32.ofNat n, upd (upd (upd I 10 (Int32.ofNat t)) 11 (Int32.ofNat n)) 12 (Int32.ofNat n), A, upd M 5 (Int32.ofNat (n + 1)),
      va_up (va_up (va_up (va_up MB 0 (upd (MB 0) n k)) 1 (upd (MB 1) n (-1))) 2 (upd (MB 2) n (-1))) 1 (upd (upd (MB 1) n (-1)) t (Int32.ofNat n)), va_up (va_up L 3 (vp_updL (L 3) n 0)) 4 (vp_updL (L 4) n 0)) := by
  have h2 : va_up (va_up (va_up MB 0 (upd (MB 0) n k)) 1 (upd (MB 1) n (-1))) 2 (upd (MB 2) n (-1)) 1 = upd (MB 1) n (-1) := by rw [va_up_ne _ _ (by decide), va_up_self]
  simp only [f_P_addNodeAsPart, A_addNode k hn h, A_addPart _ _ ht h', Option.bind_some, h2]
/-- a number that may be -1, for a node that may be missing -/
def nd (n : Nat) (x : Int32) (o : Option Nat) : Prop := match o with
  | none => x = -1
  | some v => v < n ∧ x = Int32.ofNat v
theorem nd.mono {n n' : Nat} {x : Int32} {o : Option Nat} (h : nd n x o) (hn : n ≤ n') : nd n' x o := by
  cases o with
  | none => exact h
  | some v => exact ⟨Nat.lt_of_lt_of_le h.1 hn, h.2⟩
def tx_beg (tx : Nat → Int32) (i : Nat) : Prop := i = 0 ∨ tx (i - 1) = 10
def tx_end (tn : Nat) (tx : Nat → Int32) (i : Nat) : Prop := i = tn ∨ tx i = 10
def tl_con (tn : Nat) (tx : Nat → Int32) (P : Int32 → Prop) : Rl := fun i j => j = i + 1 ∧ i < tn ∧ P (tx i)
def tl_beg (tx : Nat → Int32) : Rl := fun i j => i = j ∧ tx_beg tx i
def tl_end (tn : Nat) (tx : Nat → Int32) : Rl := fun i j => i = j ∧ tx_end tn tx i
/-- bit k of a long -/
def lb (x : Int64) (k : Nat) : Bool := x.toBitVec.getLsbD k
/-- a consuming node of the class takes this character -/
def c_takes (lo hi : Int64) (c : Int32) : Prop := if c.toNatClampNeg < 64 then lb lo c.toNatClampNeg = true else lb hi (c.toNatClampNeg - 64) = true
def cLab (tn : Nat) (tx : Nat → Int32) (k : Int32) (lo hi : Int64) : Rl :=
  if k = 0 then rl_id else if k = 1 then tl_con tn tx (c_takes lo hi) else if k = 2 then tl_beg tx else if k = 3 then tl_end tn tx else rl_no
/-- the arrays of the reader and of what it makes, and the graph -/
abbrev CAbs (tn : Nat) (tx : Nat → Int32) (I : MI) (A : MA) (M : MI) (MB : MA) (L : ML) (r : CR) : Prop := (M 5 = Int32.ofNat r.n) ∧ (r.n ≤ 50) ∧ (∀ u, u < r.n → nd r.n (MB 1 u) (r.nx u)) ∧ (∀ u, u < r.n → nd r.n (MB 2 u) (r.ot u)) ∧ (∀ u, u < r.n → r.lab u = cLab tn tx (MB 0 u) (L 3 u) (L 4 u)) ∧ (I 8 = Int32.ofNat r.d) ∧ (r.d ≤ 8) ∧ (∀ k, k ≤ r.d → A 0 k = Int32.ofNat (r.cs k) ∧ r.cs k < r.n) ∧ (∀ k, k ≤ r.d → A 1 k = Int32.ofNat (r.ce k) ∧ r.ce k < r.n) ∧ (∀ k, k ≤ r.d → A 2 k = Int32.ofNat (r.rh k) ∧ r.rh k < r.n) ∧ (∀ k, 0 < k → k ≤ r.d → A 3 k = Int32.ofNat (r.ou k) ∧ r.ou k < r.n) ∧ (nd r.n (I 11) r.first) ∧ (r.first ≠ none → I 10 = Int32.ofNat r.lead ∧ r.lead < r.n) ∧ (I 12 = Int32.ofNat r.tail) ∧ (r.tail < r.n) ∧ (∀ u, u < r.n → r.ot u ≠ none → MB 0 u = 0) ∧ (∀ k, k ≤ r.d → MB 0 (r.rh k) = 0)
theorem CAbs.n {tn : Nat} {tx : Nat → Int32} {I : MI} {A : MA} {M : MI} {MB : MA} {L : ML} {r : CR} (h_ : CAbs tn tx I A M MB L r) : M 5 = Int32.ofNat r.n := h_.1
theorem CAbs.nb {tn : Nat} {tx : Nat → Int32} {I : MI} {A : MA} {M : MI} {MB : MA} {L : ML} {r : CR} (h_ : CAbs tn tx I A M MB L r) : r.n ≤ 50 := h_.2.1
theorem CAbs.nx {tn : Nat} {tx : Nat → Int32} {I : MI} {A : MA} {M : MI} {MB : MA} {L : ML} {r : CR} (h_ : CAbs tn tx I A M MB L r) : ∀ u, u < r.n → nd r.n (MB 1 u) (r.nx u) := h_.2.2.1
theorem CAbs.ot {tn : Nat} {tx : Nat → Int32} {I : MI} {A : MA} {M : MI} {MB : MA} {L : ML} {r : CR} (h_ : CAbs tn tx I A M MB L r) : ∀ u, u < r.n → nd r.n (MB 2 u) (r.ot u) := h_.2.2.2.1
theorem CAbs.lab {tn : Nat} {tx : Nat → Int32} {I : MI} {A : MA} {M : MI} {MB : MA} {L : ML} {r : CR} (h_ : CAbs tn tx I A M MB L r) : ∀ u, u < r.n → r.lab u = cLab tn tx (MB 0 u) (L 3 u) (L 4 u) := h_.2.2.2.2.1
theorem CAbs.d {tn : Nat} {tx : Nat → Int32} {I : MI} {A : MA} {M : MI} {MB : MA} {L : ML} {r : CR} (h_ : CAbs tn tx I A M MB L r) : I 8 = Int32.ofNat r.d := h_.2.2.2.2.2.1
theorem CAbs.db {tn : Nat} {tx : Nat → Int32} {I : MI} {A : MA} {M : MI} {MB : MA} {L : ML} {r : CR} (h_ : CAbs tn tx I A M MB L r) : r.d ≤ 8 := h_.2.2.2.2.2.2.1
theorem CAbs.cs {tn : Nat} {tx : Nat → Int32} {I : MI} {A : MA} {M : MI} {MB : MA} {L : ML} {r : CR} (h_ : CAbs tn tx I A M MB L r) : ∀ k, k ≤ r.d → A 0 k = Int32.ofNat (r.cs k) ∧ r.cs k < r.n := h_.2.2.2.2.2.2.2.1
theorem CAbs.ce {tn : Nat} {tx : Nat → Int32} {I : MI} {A : MA} {M : MI} {MB : MA} {L : ML} {r : CR} (h_ : CAbs tn tx I A M MB L r) : ∀ k, k ≤ r.d → A 1 k = Int32.ofNat (r.ce k) ∧ r.ce k < r.n := h_.2.2.2.2.2.2.2.2.1
theorem CAbs.rh {tn : Nat} {tx : Nat → Int32} {I : MI} {A : MA} {M : MI} {MB : MA} {L : ML} {r : CR} (h_ : CAbs tn tx I A M MB L r) : ∀ k, k ≤ r.d → A 2 k = Int32.ofNat (r.rh k) ∧ r.rh k < r.n := h_.2.2.2.2.2.2.2.2.2.1
theorem CAbs.ou {tn : Nat} {tx : Nat → Int32} {I : MI} {A : MA} {M : MI} {MB : MA} {L : ML} {r : CR} (h_ : CAbs tn tx I A M MB L r) : ∀ k, 0 < k → k ≤ r.d → A 3 k = Int32.ofNat (r.ou k) ∧ r.ou k < r.n := h_.2.2.2.2.2.2.2.2.2.2.1
theorem CAbs.fi {tn : Nat} {tx : Nat → Int32} {I : MI} {A : MA} {M : MI} {MB : MA} {L : ML} {r : CR} (h_ : CAbs tn tx I A M MB L r) : nd r.n (I 11) r.first := h_.2.2.2.2.2.2.2.2.2.2.2.1
theorem CAbs.le {tn : Nat} {tx : Nat → Int32} {I : MI} {A : MA} {M : MI} {MB : MA} {L : ML} {r : CR} (h_ : CAbs tn tx I A M MB L r) : r.first ≠ none → I 10 = Int32.ofNat r.lead ∧ r.lead < r.n := h_.2.2.2.2.2.2.2.2.2.2.2.2.1
theorem CAbs.ta {tn : Nat} {tx : Nat → Int32} {I : MI} {A : MA} {M : MI} {MB : MA} {L : ML} {r : CR} (h_ : CAbs tn tx I A M MB L r) : I 12 = Int32.ofNat r.tail := h_.2.2.2.2.2.2.2.2.2.2.2.2.2.1
theorem CAbs.tb {tn : Nat} {tx : Nat → Int32} {I : MI} {A : MA} {M : MI} {MB : MA} {L : ML} {r : CR} (h_ : CAbs tn tx I A M MB L r) : r.tail < r.n := h_.2.2.2.2.2.2.2.2.2.2.2.2.2.2.1
theorem CAbs.of {tn : Nat} {tx : Nat → Int32} {I : MI} {A : MA} {M : MI} {MB : MA} {L : ML} {r : CR} (h_ : CAbs tn tx I A M MB L r) : ∀ u, u < r.n → r.ot u ≠ none → MB 0 u = 0 := h_.2.2.2.2.2.2.2.2.2.2.2.2.2.2.2.1
theorem CAbs.rk {tn : Nat} {tx : Nat → Int32} {I : MI} {A : MA} {M : MI} {MB : MA} {L : ML} {r : CR} (h_ : CAbs tn tx I A M MB L r) : ∀ k, k ≤ r.d → MB 0 (r.rh k) = 0 := h_.2.2.2.2.2.2.2.2.2.2.2.2.2.2.2.2

def Res {α : Type} (o : Option α) (P : α → Prop) : Prop := ∃ z, o = some z ∧ P z
theorem Res.mk {α : Type} {z : α} {P : α → Prop} (h : P z) : Res (some z) P := ⟨z, rfl, h⟩
theorem Res.imp {α : Type} {o : Option α} {P Q : α → Prop} (h : Res o P) (hi : ∀ z, P z → Q z) : Res o Q := by
  obtain ⟨z, e, p⟩ := h; exact ⟨z, e, hi z p⟩
theorem Res.bind {α β : Type} {o : Option α} {f : α → Option β} {P : α → Prop} {Q : β → Prop} (h : Res o P) (hf : ∀ z, P z → Res (f z) Q) : Res (o.bind f) Q := by
  obtain ⟨z, e, p⟩ := h; rw [e]; exact hf z p
theorem nd_upd {N k u : Nat} {f : Nat → Int32} {x : Int32} {g : Nat → Option Nat} {v : Option Nat} (h : u ≠ k → nd N (f u) (g u)) (hx : nd N x v) : nd N (upd f k x u) (sU g k v u) := by
  by_cases e : u = k
  · rw [e, upd_self, sU_self]; exact hx
  · rw [upd_ne _ _ e, sU_ne _ _ e]; exact h e
theorem lab_upd {tn : Nat} {tx : Nat → Int32} {k u : Nat} {lab : Nat → Rl} {f : Nat → Int32} {lo hi : Nat → Int64} {a : Int32} {b c : Int64} (h : u ≠ k → lab u = cLab tn tx (f u) (lo u) (hi u)) :
    sU lab k (cLab tn tx a b c) u = cLab tn tx (upd f k a u) (vp_updL lo k b u) (vp_updL hi k c u) := by
  by_cases e : u = k
  · rw [e, upd_self, sU_self, vpl_self, vpl_self]
  · rw [upd_ne _ _ e, sU_ne _ _ e, vpl_ne _ _ e, vpl_ne _ _ e]; exact h e
theorem cLab0 (tn : Nat) (tx : Nat → Int32) (lo hi : Int64) : cLab tn tx 0 lo hi = rl_id := rfl
theorem lab_upd0 {tn : Nat} {tx : Nat → Int32} {k u : Nat} {lab : Nat → Rl} {f : Nat → Int32} {lo hi : Nat → Int64} {b c : Int64} (h : u ≠ k → lab u = cLab tn tx (f u) (lo u) (hi u)) :
    sU lab k rl_id u = cLab tn tx (upd f k 0 u) (vp_updL lo k b u) (vp_updL hi k c u) := lab_upd (a := 0) h
theorem of_upd {k u N : Nat} {f : Nat → Int32} {g : Nat → Nat} {v : Nat} (h : u ≠ k → f u = Int32.ofNat (g u) ∧ g u < N) (hv : v < N) : upd f k (Int32.ofNat v) u = Int32.ofNat (sU g k v u) ∧ sU g k v u < N := by
  by_cases e : u = k
  · rw [e, upd_self, sU_self]; exact ⟨rfl, hv⟩
  · rw [upd_ne _ _ e, sU_ne _ _ e]; exact h e
theorem kz_upd {k u : Nat} {f : Nat → Int32} {g : Nat → Option Nat} {v : Option Nat} (h : u ≠ k → g u ≠ none → f u = 0) : sU g k v u ≠ none → upd f k 0 u = 0 := by
  by_cases e : u = k
  · intro _; rw [e, upd_self]
  · intro hg; rw [upd_ne _ _ e]; rw [sU_ne _ _ e] at hg; exact h e hg
theorem kz_none {k u : Nat} {f : Nat → Int32} {g : Nat → Option Nat} {a : Int32} (h : u ≠ k → g u ≠ none → f u = 0) : sU g k none u ≠ none → upd f k a u = 0 := by
  by_cases e : u = k
  · intro hg; rw [e, sU_self] at hg; exact (hg rfl).elim
  · intro hg; rw [upd_ne _ _ e]; rw [sU_ne _ _ e] at hg; exact h e hg
/-- what a reader's step leaves: the graph, and its place and its fault as they were -/
def CStep (tn : Nat) (tx : Nat → Int32) (I : MI) (r : CR) (z : Int32 × MI × MA × MI × MA × ML) : Prop := CAbs tn tx z.2.1 z.2.2.1 z.2.2.2.1 z.2.2.2.2.1 z.2.2.2.2.2 r ∧ z.2.1 6 = I 6 ∧ z.2.1 7 = I 7 ∧ z.2.1 9 = I 9
/-- a node is added as a part -/
theorem CAbs.single {tn : Nat} {tx : Nat → Int32} {I : MI} {A : MA} {M : MI} {MB : MA} {L : ML} {r : CR} (h : CAbs tn tx I A M MB L r) (hn : r.n < 50) (k : Int32) (lo hi : Int64) {I' : MI} {M' : MI} {MB' : MA} {L' : ML}
    (hI : I' = upd (upd (upd I 10 (Int32.ofNat r.tail)) 11 (Int32.ofNat r.n)) 12 (Int32.ofNat r.n)) (hM : M' = upd M 5 (Int32.ofNat (r.n + 1)))
    (hMB : MB' = va_up (va_up (va_up (va_up MB 0 (upd (MB 0) r.n k)) 1 (upd (MB 1) r.n (-1))) 2 (upd (MB 2) r.n (-1))) 1 (upd (upd (MB 1) r.n (-1)) r.tail (Int32.ofNat r.n)))
    (hL3 : L' 3 = vp_updL (L 3) r.n lo) (hL4 : L' 4 = vp_updL (L 4) r.n hi) : CAbs tn tx I' A M' MB' L' (c_single r (cLab tn tx k lo hi)) := by
  have m0 : MB' 0 = upd (MB 0) r.n k := by rw [hMB, va_up_ne _ _ (by decide), va_up_ne _ _ (by decide), va_up_ne _ _ (by decide), va_up_self]
  have m1 : MB' 1 = upd (upd (MB 1) r.n (-1)) r.tail (Int32.ofNat r.n) := by rw [hMB, va_up_self]
  have m2 : MB' 2 = upd (MB 2) r.n (-1) := by rw [hMB, va_up_ne _ _ (by decide), va_up_self]
  have htb := h.tb
  have hlt : ∀ u, u < (c_single r (cLab tn tx k lo hi)).n → u ≠ r.n → u < r.n := fun u hu e => by have : u < r.n + 1 := hu; omega
  refine ⟨?_, hn, fun u hu => ?_, fun u hu => ?_, fun u hu => ?_, ?_, h.db, ?_, ?_, ?_, ?_, ?_, ?_, ?_, ?_, fun u hu => ?_, fun k' hk' => ?_⟩
  · rw [hM, upd_self]; rfl
  · rw [m1]; exact nd_upd (fun _ => nd_upd (fun e => (h.nx u (hlt u hu e)).mono (Nat.le_succ _)) rfl) ⟨Nat.lt_succ_self _, rfl⟩
  · rw [m2]; exact nd_upd (fun e => (h.ot u (hlt u hu e)).mono (Nat.le_succ _)) rfl
  · rw [m0, hL3, hL4]; exact lab_upd (fun e => h.lab u (hlt u hu e))
  · rw [hI, upd_ne _ _ (by decide), upd_ne _ _ (by decide), upd_ne _ _ (by decide)]; exact h.d
  · intro k hk; exact ⟨(h.cs k hk).1, Nat.lt_succ_of_lt (h.cs k hk).2⟩
  · intro k hk; exact ⟨(h.ce k hk).1, Nat.lt_succ_of_lt (h.ce k hk).2⟩
  · intro k hk; exact ⟨(h.rh k hk).1, Nat.lt_succ_of_lt (h.rh k hk).2⟩
  · intro k hk hk'; exact ⟨(h.ou k hk hk').1, Nat.lt_succ_of_lt (h.ou k hk hk').2⟩
  · show nd (r.n + 1) _ (some r.n)
    rw [hI, upd_ne _ _ (by decide), upd_self]; exact ⟨by omega, rfl⟩
  · intro _
    rw [hI, upd_ne _ _ (by decide), upd_ne _ _ (by decide), upd_self]
    exact ⟨rfl, by show r.tail < r.n + 1; omega⟩
  · rw [hI, upd_self]; rfl
  · show r.n < r.n + 1; omega
  · rw [m0]; exact kz_none (fun e => h.of u (hlt u hu e))
  · rw [m0, upd_ne _ _ (by have := (h.rh k' hk').2; show r.rh k' ≠ r.n; omega)]; exact h.rk k' hk'
theorem pn_i50 {n : Nat} (h : n < 50) : wk_inb (Int32.ofNat n) 50 = true := (pn_inb (by omega)).mpr h
theorem pn_i9 {n : Nat} (h : n ≤ 8) : wk_inb (Int32.ofNat n) 9 = true := (pn_inb (by omega)).mpr (by omega)
theorem CAbs.loop {tn : Nat} {tx : Nat → Int32} {sx : Nat → Int32} {I : MI} {A : MA} {M : MI} {MB : MA} {L : ML} {r : CR} (h : CAbs tn tx I A M MB L r) (hn : r.n < 50) {f : Nat} (hf : r.first = some f) (k : Int32) (hk : k ≠ 63) :
    Res (f_P_repeatPart sx I A M MB L k) (CStep tn tx I (c_loop r f (decide (k ≠ 43)))) := by
  have hfi := h.fi
  rw [hf] at hfi
  obtain ⟨hfn, hfi⟩ := hfi
  obtain ⟨hle, hlb⟩ := h.le (by rw [hf]; exact fun e => by cases e)
  have htb := h.tb
  have hff : ¬ Int32.ofNat f = -1 := pn_ne1 (by omega)
  have hl' : upd I 12 (Int32.ofNat r.n) 10 = Int32.ofNat r.lead := by rw [upd_ne _ _ (by decide), hle]
  have x1 : upd (upd (upd (fun _ => (0 : Int32)) 1 k) 2 (Int32.ofNat r.n)) 3 (Int32.ofNat r.n) 1 = k := by rw [upd_ne _ _ (by decide), upd_ne _ _ (by decide), upd_self]
  have x2 : upd (upd (upd (fun _ => (0 : Int32)) 1 k) 2 (Int32.ofNat r.n)) 3 (Int32.ofNat r.n) 2 = Int32.ofNat r.n := by rw [upd_ne _ _ (by decide), upd_self]
  have x3 : upd (upd (upd (fun _ => (0 : Int32)) 1 k) 2 (Int32.ofNat r.n)) 3 (Int32.ofNat r.n) 3 = Int32.ofNat r.n := by rw [upd_self]
  have n1 : (Int32.ofNat r.n).toNatClampNeg = r.n := pn_nat (by omega)
  have n2 : (Int32.ofNat r.tail).toNatClampNeg = r.tail := pn_nat (by omega)
  have n3 : (Int32.ofNat r.lead).toNatClampNeg = r.lead := pn_nat (by omega)
  by_cases e : k = 43
  · simp only [f_P_repeatPart, hfi, if_neg hff, A_addNode 0 h.n hn, Option.bind_some, pn_i50 hn, if_true, wk_let, if_neg hk, f_P_repeatPart_66, f_P_repeatPart_108, h.ta, pn_i50 (show r.tail < 50 by omega), x1, x2, x3, if_pos e, n1, n2]
    have hd : decide (k ≠ 43) = false := by simp [e]
    rw [hd]
    have hlt : ∀ u, u < (c_loop r f false).n → u ≠ r.n → u < r.n := fun u hu e => by have : u < r.n + 1 := hu; omega
    refine Res.mk ⟨⟨?_, hn, fun u hu => ?_, fun u hu => ?_, fun u hu => ?_, ?_, h.db, ?_, ?_, ?_, ?_, ?_, ?_, ?_, ?_, fun u hu => ?_, fun k' hk' => ?_⟩, ?_, ?_, ?_⟩
    · simp only [upd_self]; rfl
    · simp only [va_up, if_true, if_false, Nat.reduceEqDiff]; exact nd_upd (fun _ => nd_upd (fun e => (h.nx u (hlt u hu e)).mono (Nat.le_succ _)) rfl) ⟨Nat.lt_succ_self _, rfl⟩
    · simp only [va_up, if_true, if_false, Nat.reduceEqDiff]
      show nd _ _ (sU r.ot r.n (some f) u)
      exact nd_upd (fun e => by rw [upd_ne _ _ e]; exact (h.ot u (hlt u hu e)).mono (Nat.le_succ _)) ⟨Nat.lt_succ_of_lt hfn, rfl⟩
    · simp only [va_up, if_true, if_false, Nat.reduceEqDiff]; exact lab_upd0 (fun e => h.lab u (hlt u hu e))
    · simp only [upd, if_true, if_false, Nat.reduceEqDiff]; exact h.d
    · intro k hk; exact ⟨(h.cs k hk).1, Nat.lt_succ_of_lt (h.cs k hk).2⟩
    · intro k hk; exact ⟨(h.ce k hk).1, Nat.lt_succ_of_lt (h.ce k hk).2⟩
    · intro k hk; exact ⟨(h.rh k hk).1, Nat.lt_succ_of_lt (h.rh k hk).2⟩
    · intro k hk hk'; exact ⟨(h.ou k hk hk').1, Nat.lt_succ_of_lt (h.ou k hk hk').2⟩
    · simp only [upd, if_true, if_false, Nat.reduceEqDiff]; exact ⟨Nat.lt_succ_of_lt hfn, hfi⟩
    · intro _; simp only [upd, if_true, if_false, Nat.reduceEqDiff]; exact ⟨hle, Nat.lt_succ_of_lt hlb⟩
    · simp only [upd_self]; rfl
    · exact Nat.lt_succ_self _
    · simp only [va_up, if_true, if_false, Nat.reduceEqDiff]; exact kz_upd (fun e => h.of u (hlt u hu e))
    · simp only [va_up, if_true, if_false, Nat.reduceEqDiff]; rw [upd_ne _ _ (by have := (h.rh k' hk').2; show r.rh k' ≠ r.n; omega)]; exact h.rk k' hk'
    · simp only [upd, if_true, if_false, Nat.reduceEqDiff]
    · simp only [upd, if_true, if_false, Nat.reduceEqDiff]
    · simp only [upd, if_true, if_false, Nat.reduceEqDiff]
  · simp only [f_P_repeatPart, hfi, if_neg hff, A_addNode 0 h.n hn, Option.bind_some, pn_i50 hn, if_true, wk_let, if_neg hk, f_P_repeatPart_66, f_P_repeatPart_108, h.ta, pn_i50 (show r.tail < 50 by omega), x1, x2, x3, if_neg e, hl', pn_i50 (show r.lead < 50 by omega), n1, n2, n3]
    have hd : decide (k ≠ 43) = true := by simp [e]
    rw [hd]
    have hlt : ∀ u, u < (c_loop r f true).n → u ≠ r.n → u < r.n := fun u hu e => by have : u < r.n + 1 := hu; omega
    refine Res.mk ⟨⟨?_, hn, fun u hu => ?_, fun u hu => ?_, fun u hu => ?_, ?_, h.db, ?_, ?_, ?_, ?_, ?_, ?_, ?_, ?_, fun u hu => ?_, fun k' hk' => ?_⟩, ?_, ?_, ?_⟩
    · simp only [upd_self]; rfl
    · simp only [va_up, if_true, if_false, Nat.reduceEqDiff]; exact nd_upd (fun _ => nd_upd (fun _ => nd_upd (fun e => (h.nx u (hlt u hu e)).mono (Nat.le_succ _)) rfl) ⟨Nat.lt_succ_self _, rfl⟩) ⟨Nat.lt_succ_self _, rfl⟩
    · simp only [va_up, if_true, if_false, Nat.reduceEqDiff]
      show nd _ _ (sU r.ot r.n (some f) u)
      exact nd_upd (fun e => by rw [upd_ne _ _ e]; exact (h.ot u (hlt u hu e)).mono (Nat.le_succ _)) ⟨Nat.lt_succ_of_lt hfn, rfl⟩
    · simp only [va_up, if_true, if_false, Nat.reduceEqDiff]; exact lab_upd0 (fun e => h.lab u (hlt u hu e))
    · simp only [upd, if_true, if_false, Nat.reduceEqDiff]; exact h.d
    · intro k hk; exact ⟨(h.cs k hk).1, Nat.lt_succ_of_lt (h.cs k hk).2⟩
    · intro k hk; exact ⟨(h.ce k hk).1, Nat.lt_succ_of_lt (h.ce k hk).2⟩
    · intro k hk; exact ⟨(h.rh k hk).1, Nat.lt_succ_of_lt (h.rh k hk).2⟩
    · intro k hk hk'; exact ⟨(h.ou k hk hk').1, Nat.lt_succ_of_lt (h.ou k hk hk').2⟩
    · simp only [upd, if_true, if_false, Nat.reduceEqDiff]; exact ⟨Nat.lt_succ_self _, rfl⟩
    · intro _; simp only [upd, if_true, if_false, Nat.reduceEqDiff]; exact ⟨hle, Nat.lt_succ_of_lt hlb⟩
    · simp only [upd, if_true, if_false, Nat.reduceEqDiff]; rfl
    · exact Nat.lt_succ_self _
    · simp only [va_up, if_true, if_false, Nat.reduceEqDiff]; exact kz_upd (fun e => h.of u (hlt u hu e))
    · simp only [va_up, if_true, if_false, Nat.reduceEqDiff]; rw [upd_ne _ _ (by have := (h.rh k' hk').2; show r.rh k' ≠ r.n; omega)]; exact h.rk k' hk'
    · simp only [upd, if_true, if_false, Nat.reduceEqDiff]
    · simp only [upd, if_true, if_false, Nat.reduceEqDiff]
    · simp only [upd, if_true, if_false, Nat.reduceEqDiff]
/-- '?' -/
theorem CAbs.opt {tn : Nat} {tx : Nat → Int32} {sx : Nat → Int32} {I : MI} {A : MA} {M : MI} {MB : MA} {L : ML} {r : CR} (h : CAbs tn tx I A M MB L r) (hn : r.n + 1 < 50) {f : Nat} (hf : r.first = some f) :
    Res (f_P_repeatPart sx I A M MB L 63) (CStep tn tx I (c_opt r f)) := by
  have hfi := h.fi
  rw [hf] at hfi
  obtain ⟨hfn, hfi⟩ := hfi
  obtain ⟨hle, hlb⟩ := h.le (by rw [hf]; exact fun e => by cases e)
  have htb := h.tb
  have hff : ¬ Int32.ofNat f = -1 := pn_ne1 (by omega)
  have hl' : upd I 12 (Int32.ofNat (r.n + 1)) 10 = Int32.ofNat r.lead := by rw [upd_ne _ _ (by decide), hle]
  have x1 : upd (upd (upd (fun _ => (0 : Int32)) 1 63) 2 (Int32.ofNat r.n)) 3 (Int32.ofNat (r.n + 1)) 1 = 63 := by rw [upd_ne _ _ (by decide), upd_ne _ _ (by decide), upd_self]
  have x2 : upd (upd (upd (fun _ => (0 : Int32)) 1 63) 2 (Int32.ofNat r.n)) 3 (Int32.ofNat (r.n + 1)) 2 = Int32.ofNat r.n := by rw [upd_ne _ _ (by decide), upd_self]
  have x3 : upd (upd (upd (fun _ => (0 : Int32)) 1 63) 2 (Int32.ofNat r.n)) 3 (Int32.ofNat (r.n + 1)) 3 = Int32.ofNat (r.n + 1) := by rw [upd_self]
  have n1 : (Int32.ofNat r.n).toNatClampNeg = r.n := pn_nat (by omega)
  have n2 : (Int32.ofNat r.tail).toNatClampNeg = r.tail := pn_nat (by omega)
  have n3 : (Int32.ofNat r.lead).toNatClampNeg = r.lead := pn_nat (by omega)
  have hM1 : upd M 5 (Int32.ofNat (r.n + 1)) 5 = Int32.ofNat (r.n + 1) := upd_self _ _ _
  have h43 : ¬ (63 : Int32) = 43 := by decide
  simp only [f_P_repeatPart, hfi, if_neg hff, A_addNode 0 h.n (show r.n < 50 by omega), A_addNode 0 hM1 hn, Option.bind_some, pn_i50 (show r.n < 50 by omega), if_true, wk_let, f_P_repeatPart_66, f_P_repeatPart_108, h.ta, pn_i50 (show r.tail < 50 by omega), x1, x2, x3, if_neg h43, hl', pn_i50 (show r.lead < 50 by omega), n1, n2, n3]
  have hlt : ∀ u, u < (c_opt r f).n → u ≠ r.n → u ≠ r.n + 1 → u < r.n := fun u hu e e' => by have : u < r.n + 2 := hu; omega
  have hm : r.n ≤ (c_opt r f).n := by show r.n ≤ r.n + 2; omega
  have hm1 : r.n < (c_opt r f).n := by show r.n < r.n + 2; omega
  have hm2 : r.n + 1 < (c_opt r f).n := by show r.n + 1 < r.n + 2; omega
  refine Res.mk ⟨⟨?_, hn, fun u hu => ?_, fun u hu => ?_, fun u hu => ?_, ?_, h.db, ?_, ?_, ?_, ?_, ?_, ?_, ?_, ?_, fun u hu => ?_, fun k' hk' => ?_⟩, ?_, ?_, ?_⟩
  · simp only [upd_self]; rfl
  · simp only [va_up, if_true, if_false, Nat.reduceEqDiff]
    exact nd_upd (fun _ => nd_upd (fun _ => nd_upd (fun _ => nd_upd (fun e1 => nd_upd (fun e => (h.nx u (hlt u hu e e1)).mono hm) rfl) rfl) ⟨hm2, rfl⟩) ⟨hm2, rfl⟩) ⟨hm1, rfl⟩
  · simp only [va_up, if_true, if_false, Nat.reduceEqDiff]
    exact nd_upd (fun e1 => nd_upd (fun e => by rw [upd_ne _ _ e]; exact (h.ot u (hlt u hu e e1)).mono hm) ⟨Nat.lt_of_lt_of_le hfn hm, rfl⟩) rfl
  · simp only [va_up, if_true, if_false, Nat.reduceEqDiff]
    exact lab_upd0 (fun e1 => lab_upd0 (fun e => h.lab u (hlt u hu e e1)))
  · simp only [upd, if_true, if_false, Nat.reduceEqDiff]; exact h.d
  · intro k hk; exact ⟨(h.cs k hk).1, Nat.lt_of_lt_of_le (h.cs k hk).2 hm⟩
  · intro k hk; exact ⟨(h.ce k hk).1, Nat.lt_of_lt_of_le (h.ce k hk).2 hm⟩
  · intro k hk; exact ⟨(h.rh k hk).1, Nat.lt_of_lt_of_le (h.rh k hk).2 hm⟩
  · intro k hk hk'; exact ⟨(h.ou k hk hk').1, Nat.lt_of_lt_of_le (h.ou k hk hk').2 hm⟩
  · simp only [upd, if_true, if_false, Nat.reduceEqDiff]; exact ⟨hm1, rfl⟩
  · intro _; simp only [upd, if_true, if_false, Nat.reduceEqDiff]; exact ⟨hle, Nat.lt_of_lt_of_le hlb hm⟩
  · simp only [upd, if_true, if_false, Nat.reduceEqDiff]; rfl
  · exact hm2
  · simp only [va_up, if_true, if_false, Nat.reduceEqDiff]; exact kz_upd (fun e1 => kz_upd (fun e => h.of u (hlt u hu e e1)))
  · simp only [va_up, if_true, if_false, Nat.reduceEqDiff]
    have := (h.rh k' hk').2
    rw [upd_ne _ _ (show (c_opt r f).rh k' ≠ r.n + 1 by show r.rh k' ≠ r.n + 1; omega), upd_ne _ _ (show (c_opt r f).rh k' ≠ r.n by show r.rh k' ≠ r.n; omega)]; exact h.rk k' hk'
  · simp only [upd, if_true, if_false, Nat.reduceEqDiff]
  · simp only [upd, if_true, if_false, Nat.reduceEqDiff]
  · simp only [upd, if_true, if_false, Nat.reduceEqDiff]
theorem A_beginRow {sx : Nat → Int32} {I : MI} {A : MA} {M : MI} {MB : MA} {L : ML} {d : Nat} (k : Int32) (hd : I 8 = Int32.ofNat d) (h : d ≤ 8) :
    f_P_beginRow sx I A M MB L k = some (0, upd (upd (upd I 10 (-1)) 11 (-1)) 12 k, va_up A 2 (upd (A 2) d k), M, MB, L) := by
  simp only [f_P_beginRow, wk_let, hd, pn_i9 h, if_true, pn_nat (show d < 2147483648 by omega)]
/-- a choice is begun at a depth -/
theorem A_openChoice {sx : Nat → Int32} {I : MI} {A : MA} {M : MI} {MB : MA} {L : ML} {d n : Nat} (k : Int32) (hd : I 8 = Int32.ofNat d) (h : d ≤ 8) (hn : M 5 = Int32.ofNat n) (h' : n + 1 < 50) :
    Res (f_P_openChoice sx I A M MB L k) (fun z => z.2.1 = upd (upd (upd I 10 (-1)) 11 (-1)) 12 (Int32.ofNat n) ∧ z.2.2.1 0 = upd (A 0) d (Int32.ofNat n) ∧ z.2.2.1 1 = upd (A 1) d (Int32.ofNat (n + 1)) ∧ z.2.2.1 2 = upd (A 2) d (Int32.ofNat n) ∧ z.2.2.1 3 = upd (A 3) d k ∧
      z.2.2.2.1 5 = Int32.ofNat (n + 2) ∧ z.2.2.2.2.1 0 = upd (upd (MB 0) n 0) (n + 1) 0 ∧ z.2.2.2.2.1 1 = upd (upd (MB 1) n (-1)) (n + 1) (-1) ∧ z.2.2.2.2.1 2 = upd (upd (MB 2) n (-1)) (n + 1) (-1) ∧ z.2.2.2.2.2 3 = vp_updL (vp_updL (L 3) n 0) (n + 1) 0 ∧ z.2.2.2.2.2 4 = vp_updL (vp_updL (L 4) n 0) (n + 1) 0) := by
  have hM1 : upd M 5 (Int32.ofNat (n + 1)) 5 = Int32.ofNat (n + 1) := upd_self _ _ _
  simp only [f_P_openChoice, A_addNode 0 hn (show n < 50 by omega), A_addNode 0 hM1 h', Option.bind_some, hd, pn_i9 h, if_true, wk_let, A_beginRow _ hd h, pn_nat (show d < 2147483648 by omega)]
  refine Res.mk ⟨rfl, ?_, ?_, ?_, ?_, ?_, ?_, ?_, ?_, ?_, ?_⟩
  all_goals simp only [va_up, upd_self, if_true, if_false, Nat.reduceEqDiff]
theorem CAbs.openG {tn : Nat} {tx : Nat → Int32} {sx : Nat → Int32} {I : MI} {A : MA} {M : MI} {MB : MA} {L : ML} {r : CR} (h : CAbs tn tx I A M MB L r) (hn : r.n + 1 < 50) (hd : r.d < 8) :
    Res (f_P_openGroup sx I A M MB L) (CStep tn tx I (c_open r)) := by
  have hd8 : ¬ Int32.ofNat r.d = 8 := fun e => by have := (pn_eq (a := r.d) (b := 8) (by omega) (by omega)).mp e; omega
  have htb := h.tb
  have e8 : upd I 8 (Int32.ofNat (r.d + 1)) 8 = Int32.ofNat (r.d + 1) := upd_self _ _ _
  have e12 : upd I 8 (Int32.ofNat (r.d + 1)) 12 = Int32.ofNat r.tail := by rw [upd_ne _ _ (by decide)]; exact h.ta
  have hC := A_openChoice (sx := sx) (A := A) (M := M) (MB := MB) (L := L) (Int32.ofNat r.tail) e8 (show r.d + 1 ≤ 8 by omega) h.n hn
  simp only [f_P_openGroup, h.d, if_neg hd8, wk_let, pn_succ, e12]
  obtain ⟨⟨z0, I', A', M', MB', L'⟩, he, hI, h0, h1, h2, h3, hM, m0, m1, m2, l3, l4⟩ := hC
  simp only at hI h0 h1 h2 h3 hM m0 m1 m2 l3 l4
  rw [he]
  simp only [Option.bind_some]
  have hlt : ∀ u, u < (c_open r).n → u ≠ r.n → u ≠ r.n + 1 → u < r.n := fun u hu e e' => by have : u < r.n + 2 := hu; omega
  have hm : r.n ≤ (c_open r).n := by show r.n ≤ r.n + 2; omega
  have hm1 : r.n < (c_open r).n := by show r.n < r.n + 2; omega
  have hm2 : r.n + 1 < (c_open r).n := by show r.n + 1 < r.n + 2; omega
  have hk : ∀ k, k ≤ (c_open r).d → k ≠ r.d + 1 → k ≤ r.d := fun k hk e => by have : k ≤ r.d + 1 := hk; omega
  refine Res.mk ⟨⟨hM, hn, fun u hu => ?_, fun u hu => ?_, fun u hu => ?_, ?_, hd, fun k hk' => ?_, fun k hk' => ?_, fun k hk' => ?_, fun k hk0 hk' => ?_, ?_, ?_, ?_, ?_, fun u hu => ?_, fun k hk' => ?_⟩, ?_, ?_, ?_⟩
  · simp only [m1]; exact nd_upd (fun e1 => nd_upd (fun e => (h.nx u (hlt u hu e e1)).mono hm) rfl) rfl
  · simp only [m2]; exact nd_upd (fun e1 => nd_upd (fun e => (h.ot u (hlt u hu e e1)).mono hm) rfl) rfl
  · simp only [m0, l3, l4]; exact lab_upd0 (fun e1 => lab_upd0 (fun e => h.lab u (hlt u hu e e1)))
  · simp only [hI, upd, if_true, if_false, Nat.reduceEqDiff]; rfl
  · simp only [h0]; exact of_upd (fun e => ⟨(h.cs k (hk k hk' e)).1, Nat.lt_of_lt_of_le (h.cs k (hk k hk' e)).2 hm⟩) hm1
  · simp only [h1]; exact of_upd (fun e => ⟨(h.ce k (hk k hk' e)).1, Nat.lt_of_lt_of_le (h.ce k (hk k hk' e)).2 hm⟩) hm2
  · simp only [h2]; exact of_upd (fun e => ⟨(h.rh k (hk k hk' e)).1, Nat.lt_of_lt_of_le (h.rh k (hk k hk' e)).2 hm⟩) hm1
  · simp only [h3]; exact of_upd (fun e => ⟨(h.ou k hk0 (hk k hk' e)).1, Nat.lt_of_lt_of_le (h.ou k hk0 (hk k hk' e)).2 hm⟩) (Nat.lt_of_lt_of_le htb hm)
  · simp only [hI, upd, if_true, if_false, Nat.reduceEqDiff]; rfl
  · intro q; exact (q rfl).elim
  · simp only [hI, upd, if_true, if_false, Nat.reduceEqDiff]; rfl
  · exact hm1
  · simp only [m0]; exact kz_upd (fun e1 => kz_upd (fun e => h.of u (hlt u hu e e1)))
  · simp only [m0]
    by_cases e : k = r.d + 1
    · have e2 : (c_open r).rh k = r.n := by show sU _ _ _ _ = _; rw [e, sU_self]
      rw [e2, upd_ne _ _ (by omega), upd_self]
    · have e2 : (c_open r).rh k = r.rh k := sU_ne _ _ e
      have := (h.rh k (hk k hk' e)).2
      rw [e2, upd_ne _ _ (by omega), upd_ne _ _ (by omega)]; exact h.rk k (hk k hk' e)
  · simp only [hI, upd, if_true, if_false, Nat.reduceEqDiff]
  · simp only [hI, upd, if_true, if_false, Nat.reduceEqDiff]
  · simp only [hI, upd, if_true, if_false, Nat.reduceEqDiff]
/-- '|' -/
theorem CAbs.bar {tn : Nat} {tx : Nat → Int32} {sx : Nat → Int32} {I : MI} {A : MA} {M : MI} {MB : MA} {L : ML} {r : CR} (h : CAbs tn tx I A M MB L r) (hn : r.n < 50) :
    Res (f_P_openRow sx I A M MB L) (CStep tn tx I (c_bar r)) := by
  have htb := h.tb
  obtain ⟨ec, hc⟩ := h.ce r.d (Nat.le_refl _)
  obtain ⟨eh, hh⟩ := h.rh r.d (Nat.le_refl _)
  have hdb := h.db
  have n1 : (Int32.ofNat r.d).toNatClampNeg = r.d := pn_nat (by omega)
  have n2 : (Int32.ofNat r.tail).toNatClampNeg = r.tail := pn_nat (by omega)
  have n3 : (Int32.ofNat (r.rh r.d)).toNatClampNeg = r.rh r.d := pn_nat (by omega)
  simp only [f_P_openRow, h.d, pn_i9 h.db, if_true, h.ta, pn_i50 (show r.tail < 50 by omega), wk_let, n1, n2, ec, A_addNode 0 h.n hn, Option.bind_some, eh, pn_i50 (show r.rh r.d < 50 by omega), n3, A_beginRow _ h.d h.db]
  have hlt : ∀ u, u < (c_bar r).n → u ≠ r.n → u < r.n := fun u hu e => by have : u < r.n + 1 := hu; omega
  have hm : r.n ≤ (c_bar r).n := by show r.n ≤ r.n + 1; omega
  have hm1 : r.n < (c_bar r).n := by show r.n < r.n + 1; omega
  refine Res.mk ⟨⟨?_, hn, fun u hu => ?_, fun u hu => ?_, fun u hu => ?_, ?_, h.db, ?_, ?_, fun k hk => ?_, ?_, ?_, ?_, ?_, ?_, fun u hu hne => ?_, fun k hk => ?_⟩, ?_, ?_, ?_⟩
  · simp only [upd_self]; rfl
  · simp only [va_up, if_true, if_false, Nat.reduceEqDiff]
    exact nd_upd (fun e => nd_upd (fun _ => (h.nx u (hlt u hu e)).mono hm) ⟨Nat.lt_of_lt_of_le hc hm, rfl⟩) rfl
  · simp only [va_up, if_true, if_false, Nat.reduceEqDiff]
    exact nd_upd (fun _ => nd_upd (fun e => (h.ot u (hlt u hu e)).mono hm) rfl) ⟨hm1, rfl⟩
  · simp only [va_up, if_true, if_false, Nat.reduceEqDiff]
    exact lab_upd0 (fun e => h.lab u (hlt u hu e))
  · simp only [upd, if_true, if_false, Nat.reduceEqDiff]; exact h.d
  · intro k hk; simp only [va_up, if_true, if_false, Nat.reduceEqDiff]; exact ⟨(h.cs k hk).1, Nat.lt_of_lt_of_le (h.cs k hk).2 hm⟩
  · intro k hk; simp only [va_up, if_true, if_false, Nat.reduceEqDiff]; exact ⟨(h.ce k hk).1, Nat.lt_of_lt_of_le (h.ce k hk).2 hm⟩
  · simp only [va_up, if_true, if_false, Nat.reduceEqDiff]
    exact of_upd (fun e => ⟨(h.rh k hk).1, Nat.lt_of_lt_of_le (h.rh k hk).2 hm⟩) hm1
  · intro k hk hk'; simp only [va_up, if_true, if_false, Nat.reduceEqDiff]; exact ⟨(h.ou k hk hk').1, Nat.lt_of_lt_of_le (h.ou k hk hk').2 hm⟩
  · simp only [upd, if_true, if_false, Nat.reduceEqDiff]; rfl
  · intro q; exact (q rfl).elim
  · simp only [upd, if_true, if_false, Nat.reduceEqDiff]; rfl
  · exact hm1
  · simp only [va_up, if_true, if_false, Nat.reduceEqDiff]
    by_cases e : u = r.n
    · rw [e, upd_self]
    · rw [upd_ne _ _ e]
      by_cases e2 : u = r.rh r.d
      · rw [e2]; exact h.rk _ (Nat.le_refl _)
      · have hne' : sU (sU r.ot r.n none) (r.rh r.d) (some r.n) u ≠ none := hne
        rw [sU_ne _ _ e2, sU_ne _ _ e] at hne'
        exact h.of u (hlt u hu e) hne'
  · simp only [va_up, if_true, if_false, Nat.reduceEqDiff]
    by_cases e : k = r.d
    · have e2 : (c_bar r).rh k = r.n := by show sU _ _ _ _ = _; rw [e, sU_self]
      rw [e2, upd_self]
    · have e2 : (c_bar r).rh k = r.rh k := sU_ne _ _ e
      have := (h.rh k hk).2
      rw [e2, upd_ne _ _ (by omega)]; exact h.rk k hk
  · simp only [upd, if_true, if_false, Nat.reduceEqDiff]
  · simp only [upd, if_true, if_false, Nat.reduceEqDiff]
  · simp only [upd, if_true, if_false, Nat.reduceEqDiff]
/-- ')' -/
theorem CAbs.closeG {tn : Nat} {tx : Nat → Int32} {sx : Nat → Int32} {I : MI} {A : MA} {M : MI} {MB : MA} {L : ML} {r : CR} (h : CAbs tn tx I A M MB L r) (hd : 0 < r.d) :
    Res (f_P_closeGroup sx I A M MB L) (CStep tn tx I (c_close r)) := by
  have htb := h.tb
  have hnb := h.nb
  have hdb := h.db
  obtain ⟨es, hs⟩ := h.cs r.d (Nat.le_refl _)
  obtain ⟨ec, hc⟩ := h.ce r.d (Nat.le_refl _)
  obtain ⟨eo, ho⟩ := h.ou r.d hd (Nat.le_refl _)
  have hd0 : ¬ Int32.ofNat r.d = 0 := fun e => by have := (pn_eq (a := r.d) (b := 0) (by omega) (by omega)).mp e; omega
  have n1 : (Int32.ofNat r.d).toNatClampNeg = r.d := pn_nat (by omega)
  have n2 : (Int32.ofNat r.tail).toNatClampNeg = r.tail := pn_nat (by omega)
  have hp : Int32.ofNat r.d - 1 = Int32.ofNat (r.d - 1) := pn_sub (a := r.d) (b := 1) hd
  have e8 : upd I 12 (Int32.ofNat (r.ou r.d)) 8 = Int32.ofNat r.d := by rw [upd_ne _ _ (by decide)]; exact h.d
  have e12 : upd (upd I 12 (Int32.ofNat (r.ou r.d))) 8 (Int32.ofNat (r.d - 1)) 12 = Int32.ofNat (r.ou r.d) := by rw [upd_ne _ _ (by decide), upd_self]
  simp only [f_P_closeGroup, h.d, if_neg hd0, pn_i9 h.db, if_true, h.ta, pn_i50 (show r.tail < 50 by omega), wk_let, n1, n2, es, ec, eo, e8, hp, A_addPart _ _ e12 (show r.ou r.d < 50 by omega), Option.bind_some]
  have hk : ∀ k, k ≤ (c_close r).d → k ≤ r.d := fun k hk => by have : k ≤ r.d - 1 := hk; omega
  refine Res.mk ⟨⟨h.n, h.nb, fun u hu => ?_, fun u hu => ?_, fun u hu => ?_, ?_, by show r.d - 1 ≤ 8; omega, fun k hk' => h.cs k (hk k hk'), fun k hk' => h.ce k (hk k hk'), fun k hk' => h.rh k (hk k hk'), fun k hk0 hk' => h.ou k hk0 (hk k hk'), ?_, fun _ => ?_, ?_, hc, fun u hu => ?_, fun k hk' => ?_⟩, ?_, ?_, ?_⟩
  · simp only [va_up, if_true, if_false, Nat.reduceEqDiff]
    exact nd_upd (fun _ => nd_upd (fun _ => h.nx u hu) ⟨hc, rfl⟩) ⟨hs, rfl⟩
  · simp only [va_up, if_true, if_false, Nat.reduceEqDiff]; exact h.ot u hu
  · simp only [va_up, if_true, if_false, Nat.reduceEqDiff]; exact h.lab u hu
  · simp only [upd, if_true, if_false, Nat.reduceEqDiff]; rfl
  · simp only [upd, if_true, if_false, Nat.reduceEqDiff]; exact ⟨hs, rfl⟩
  · simp only [upd, if_true, if_false, Nat.reduceEqDiff]; exact ⟨rfl, ho⟩
  · simp only [upd, if_true, if_false, Nat.reduceEqDiff]; rfl
  · simp only [va_up, if_true, if_false, Nat.reduceEqDiff]; exact h.of u hu
  · simp only [va_up, if_true, if_false, Nat.reduceEqDiff]; exact h.rk k (hk k hk')
  · simp only [upd, if_true, if_false, Nat.reduceEqDiff]
  · simp only [upd, if_true, if_false, Nat.reduceEqDiff]
  · simp only [upd, if_true, if_false, Nat.reduceEqDiff]

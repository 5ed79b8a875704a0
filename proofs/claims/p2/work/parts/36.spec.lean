theorem lb_or (x y : Int64) (k : Nat) : lb (x ||| y) k = (lb x k || lb y k) := by simp [lb]
theorem lb_and (x y : Int64) (k : Nat) : lb (x &&& y) k = (lb x k && lb y k) := by simp [lb]
theorem lb_big (x : Int64) {k : Nat} (h : 64 ≤ k) : lb x k = false := BitVec.getLsbD_of_ge _ _ h
theorem lb_not (x : Int64) {k : Nat} (h : k < 64) : lb (x ^^^ (-1)) k = !lb x k := by
  have h1 : lb (-1) k = true := by
    have : ∀ k : Fin 64, lb (-1) k.val = true := by decide +kernel
    exact this ⟨k, h⟩
  have h2 : lb (x ^^^ (-1)) k = (lb x k ^^ lb (-1) k) := by
    unfold lb; rw [Int64.toBitVec_xor, BitVec.getLsbD_xor]
  rw [h2, h1]; cases lb x k <;> rfl
theorem lb_zero (k : Nat) : lb 0 k = false := by simp [lb]
theorem lb_one {c : Nat} (h : c < 64) (k : Nat) : lb ((1 : Int64) <<< ((Int32.ofNat c).toInt64 &&& 63)) k = decide (k = c) := by
  by_cases hk : k < 64
  · have : ∀ (c k : Fin 64), lb ((1 : Int64) <<< ((Int32.ofNat c.val).toInt64 &&& 63)) k.val = decide (k.val = c.val) := by decide +kernel
    exact this ⟨c, h⟩ ⟨k, hk⟩
  · rw [lb_big _ (by omega)]; simp; omega
theorem lb_ext {x y : Int64} (h : ∀ k, k < 64 → lb x k = lb y k) : x = y := by
  apply Int64.toBitVec_inj.mp
  apply BitVec.eq_of_getLsbD_eq
  intro i hi
  exact h i hi
theorem vpl_vpl (f : Nat → Int64) (k : Nat) (a b : Int64) : vp_updL (vp_updL f k a) k b = vp_updL f k b := by
  funext j; simp only [vp_updL]; split <;> rfl
/-- the codes from a to b are put into a node's sets -/
theorem A_takeCodes_go {M : MI} {MB : MA} {node b : Nat} (hno : node < 50) (hb : b < 128) : ∀ (m c fuel : Nat) (L : ML) (X : Nat → Int32) (Y : Nat → Int64), b + 1 - c = m → m < fuel → c ≤ 128 → X 1 = Int32.ofNat node → X 3 = Int32.ofNat b → X 4 = Int32.ofNat c →
    Res (f_A_takeCodes_go fuel 3 M MB L X Y) (fun z => z.1 = 0 ∧ z.2.1 = M ∧ z.2.2.1 = MB ∧ ∃ lo hi, z.2.2.2 3 = vp_updL (L 3) node lo ∧ z.2.2.2 4 = vp_updL (L 4) node hi ∧
      (∀ k, k < 64 → lb lo k = (lb (L 3 node) k || decide (c ≤ k ∧ k ≤ b))) ∧ (∀ k, k < 64 → lb hi k = (lb (L 4 node) k || decide (c ≤ k + 64 ∧ k + 64 ≤ b)))) := by
  intro m
  induction m with
  | zero =>
    intro c fuel L X Y hm hf hc h1 h3 h4
    obtain ⟨g, rfl⟩ : ∃ g, fuel = g + 1 := ⟨fuel - 1, by omega⟩
    have hlt : Int32.ofNat b < Int32.ofNat c := (pn_lt (by omega) (by omega)).mpr (by omega)
    simp only [f_A_takeCodes_go, f_A_takeCodes_3, if_true, h3, h4, if_pos hlt]
    refine Res.mk ⟨rfl, rfl, rfl, L 3 node, L 4 node, ?_, ?_, fun k hk => ?_, fun k hk => ?_⟩
    · funext j; simp only [vp_updL]; split <;> simp_all
    · funext j; simp only [vp_updL]; split <;> simp_all
    · rw [decide_eq_false (by omega), Bool.or_false]
    · rw [decide_eq_false (by omega), Bool.or_false]
  | succ m ih =>
    intro c fuel L X Y hm hf hc h1 h3 h4
    obtain ⟨g, rfl⟩ : ∃ g, fuel = g + 1 := ⟨fuel - 1, by omega⟩
    have hlt : ¬ Int32.ofNat b < Int32.ofNat c := fun z => by have := (pn_lt (by omega) (by omega)).mp z; omega
    have nn : (Int32.ofNat node).toNatClampNeg = node := pn_nat (by omega)
    by_cases h64 : 64 ≤ c
    · have hle : (64 : Int32) ≤ Int32.ofNat c := (pn_le (a := 64) (b := c) (by omega) (by omega)).mpr h64
      have hs : Int32.ofNat c - 64 = Int32.ofNat (c - 64) := pn_sub (a := c) (b := 64) h64
      simp only [f_A_takeCodes_go, f_A_takeCodes_3, if_true, h1, h3, h4, if_neg hlt, if_pos hle, pn_i50 hno, wk_let, f_A_takeCodes_48, nn, hs, pn_succ]
      refine (ih (c + 1) g _ _ Y (by omega) (by omega) (by omega) ?_ ?_ ?_).imp ?_
      · rw [upd_ne _ _ (by decide)]; exact h1
      · rw [upd_ne _ _ (by decide)]; exact h3
      · exact upd_self _ _ _
      · rintro ⟨z0, z1, z2, z3⟩ ⟨e0, e1, e2, lo, hi, hlo, hhi, blo, bhi⟩
        refine ⟨e0, e1, e2, lo, hi, ?_, ?_, fun k hk => ?_, fun k hk => ?_⟩
        · rw [hlo, va_up_ne _ _ (by decide)]
        · rw [hhi, va_up_self, vpl_vpl]
        · rw [blo k hk, va_up_ne _ _ (by decide)]
          congr 1
          apply decide_eq_decide.mpr
          omega
        · rw [bhi k hk, va_up_self, vpl_self, lb_or, lb_one (by omega), Bool.or_assoc]
          congr 1
          rw [← Bool.decide_or]
          apply decide_eq_decide.mpr
          omega
    · have hle : ¬ (64 : Int32) ≤ Int32.ofNat c := fun z => h64 ((pn_le (a := 64) (b := c) (by omega) (by omega)).mp z)
      simp only [f_A_takeCodes_go, f_A_takeCodes_3, if_true, h1, h3, h4, if_neg hlt, if_neg hle, pn_i50 hno, wk_let, f_A_takeCodes_48, nn, pn_succ]
      refine (ih (c + 1) g _ _ Y (by omega) (by omega) (by omega) ?_ ?_ ?_).imp ?_
      · rw [upd_ne _ _ (by decide)]; exact h1
      · rw [upd_ne _ _ (by decide)]; exact h3
      · exact upd_self _ _ _
      · rintro ⟨z0, z1, z2, z3⟩ ⟨e0, e1, e2, lo, hi, hlo, hhi, blo, bhi⟩
        refine ⟨e0, e1, e2, lo, hi, ?_, ?_, fun k hk => ?_, fun k hk => ?_⟩
        · rw [hlo, va_up_self, vpl_vpl]
        · rw [hhi, va_up_ne _ _ (by decide)]
        · rw [blo k hk, va_up_self, vpl_self, lb_or, lb_one (by omega), Bool.or_assoc]
          congr 1
          rw [← Bool.decide_or]
          apply decide_eq_decide.mpr
          omega
        · rw [bhi k hk, va_up_ne _ _ (by decide)]
          congr 1
          apply decide_eq_decide.mpr
          omega
theorem wk_FUEL_big : 100000 < wk_FUEL := by decide
theorem A_takeCodes {M : MI} {MB : MA} {L : ML} {node a b : Nat} (hno : node < 50) (ha : a < 128) (hb : b < 128) :
    Res (f_A_takeCodes M MB L (Int32.ofNat node) (Int32.ofNat a) (Int32.ofNat b)) (fun z => z.1 = 0 ∧ z.2.1 = M ∧ z.2.2.1 = MB ∧ ∃ lo hi, z.2.2.2 3 = vp_updL (L 3) node lo ∧ z.2.2.2 4 = vp_updL (L 4) node hi ∧
      (∀ k, k < 64 → lb lo k = (lb (L 3 node) k || decide (a ≤ k ∧ k ≤ b))) ∧ (∀ k, k < 64 → lb hi k = (lb (L 4 node) k || decide (a ≤ k + 64 ∧ k + 64 ≤ b)))) := by
  have := wk_FUEL_big
  exact A_takeCodes_go hno hb (b + 1 - a) a wk_FUEL L _ _ rfl (by omega) (by omega) (by simp [upd]) (by simp [upd]) (by simp [upd])
theorem A_takeOther {M : MI} {MB : MA} {L : ML} {node : Nat} (hno : node < 50) :
    Res (f_A_takeOtherCodes M MB L (Int32.ofNat node)) (fun z => z.1 = 0 ∧ z.2.1 = M ∧ z.2.2.1 = MB ∧ ∃ lo hi, z.2.2.2 3 = vp_updL (L 3) node lo ∧ z.2.2.2 4 = vp_updL (L 4) node hi ∧
      (∀ k, k < 64 → lb lo k = !lb (L 3 node) k) ∧ (∀ k, k < 64 → lb hi k = !lb (L 4 node) k)) := by
  have nn : (Int32.ofNat node).toNatClampNeg = node := pn_nat (by omega)
  have h3 : va_up L 3 (vp_updL (L 3) node (L 3 node ^^^ (-1))) 4 = L 4 := va_up_ne _ _ (by decide)
  simp only [f_A_takeOtherCodes, pn_i50 hno, if_true, wk_let, nn, h3]
  refine Res.mk ⟨rfl, rfl, rfl, L 3 node ^^^ (-1), L 4 node ^^^ (-1), ?_, ?_, fun k hk => lb_not _ hk, fun k hk => lb_not _ hk⟩
  · simp only [va_up, if_true, if_false, Nat.reduceEqDiff]
  · simp only [va_up, if_true, if_false, Nat.reduceEqDiff]
/-- the slip as codes -/
abbrev Slip (sx : Nat → Int32) (s : Nat → Nat) (n : Nat) : Prop := (n ≤ 24) ∧ (∀ k, k < n → sx k = Int32.ofNat (s k) ∧ s k < 128)
theorem Slip.nb {sx : Nat → Int32} {s : Nat → Nat} {n : Nat} (h_ : Slip sx s n) : n ≤ 24 := h_.1
theorem Slip.ch {sx : Nat → Int32} {s : Nat → Nat} {n : Nat} (h_ : Slip sx s n) : ∀ k, k < n → sx k = Int32.ofNat (s k) ∧ s k < 128 := h_.2
/-- the first closing bracket among the next m places -/
def fbr (s : Nat → Nat) : Nat → Nat → Nat
  | 0, p => p
  | m + 1, p => if s p = 93 then p else fbr s m (p + 1)
def inset (s : Nat → Nat) (e : Nat) : Nat → Nat → Nat → Bool
  | 0, _, _ => false
  | f + 1, p, c => if e ≤ p then false else if p + 2 < e ∧ s (p + 1) = 45 ∧ s p ≤ s (p + 2) then (decide (s p ≤ c ∧ c ≤ s (p + 2)) || inset s e f (p + 3) c) else (decide (c = s p) || inset s e f (p + 1) c)
abbrev LSp : Type := (Nat → Bool) ⊕ Bool
abbrev LSp.con (P : Nat → Bool) : LSp := Sum.inl P
abbrev LSp.beg : LSp := Sum.inr true
abbrev LSp.fin : LSp := Sum.inr false
abbrev Tk : Type := Nat × Bool × Bool × LSp
abbrev Tk.opn : Tk := (0, false, false, LSp.fin)
abbrev Tk.cls : Tk := (1, false, false, LSp.fin)
abbrev Tk.bar : Tk := (2, false, false, LSp.fin)
abbrev Tk.rep (leave again : Bool) : Tk := (3, leave, again, LSp.fin)
abbrev Tk.sing (l : LSp) : Tk := (4, false, false, l)
abbrev Lx : Type := Nat ⊕ (Tk × Nat)
abbrev Lx.bad (p : Nat) : Lx := Sum.inl p
abbrev Lx.tok (t : Tk) (k : Nat) : Lx := Sum.inr (t, k)
def lxNeg (s : Nat → Nat) (n k : Nat) : Bool := decide (k + 1 < n ∧ s (k + 1) = 94)
def lxB (s : Nat → Nat) (n k : Nat) : Nat := if lxNeg s n k then k + 2 else k + 1
def lxE (s : Nat → Nat) (n k : Nat) : Nat := fbr s (n - lxB s n k) (lxB s n k)
def lxSet (s : Nat → Nat) (n k : Nat) : Lx :=
  if lxE s n k = n ∨ lxE s n k = lxB s n k then Lx.bad (lxE s n k) else Lx.tok (Tk.sing (LSp.con (fun c => inset s (lxE s n k) 24 (lxB s n k) c != lxNeg s n k))) (lxE s n k + 1)
def lx (s : Nat → Nat) (n k : Nat) : Lx :=
  if s k = 40 then Lx.tok Tk.opn (k + 1) else if s k = 41 then Lx.tok Tk.cls (k + 1) else if s k = 42 then Lx.tok (Tk.rep true true) (k + 1) else if s k = 43 then Lx.tok (Tk.rep false true) (k + 1) else if s k = 63 then Lx.tok (Tk.rep true false) (k + 1)
  else if s k = 91 then lxSet s n k else if s k = 92 then (if k + 1 = n then Lx.bad n else Lx.tok (Tk.sing (LSp.con (fun c => decide (c = s (k + 1))))) (k + 2)) else if s k = 93 then Lx.bad k else if s k = 124 then Lx.tok Tk.bar (k + 1)
  else if s k = 36 then Lx.tok (Tk.sing LSp.fin) (k + 1) else if s k = 46 then Lx.tok (Tk.sing (LSp.con (fun c => decide (c ≠ 10)))) (k + 1) else if s k = 94 then Lx.tok (Tk.sing LSp.beg) (k + 1) else Lx.tok (Tk.sing (LSp.con (fun c => decide (c = s k)))) (k + 1)
def ls_rl (tn : Nat) (tx : Nat → Int32) (l : LSp) : Rl := match l with
  | Sum.inl P => tl_con tn tx (fun c => P c.toNatClampNeg = true)
  | Sum.inr true => tl_beg tx
  | Sum.inr false => tl_end tn tx
def st_rep (leave again : Bool) (st : List RLv) : Option (List RLv) := match st with
  | (c, q, some p) :: s => some (st_times leave again ((c, q, some p) :: s))
  | _ => none
def stk (tn : Nat) (tx : Nat → Int32) (t : Tk) (st : List RLv) : Option (List RLv) :=
  if t.1 = 0 then (if st.length = 9 then none else some (st_open st)) else if t.1 = 1 then (if st.length ≤ 1 then none else some (st_close st)) else if t.1 = 2 then some (st_bar st)
  else if t.1 = 3 then st_rep t.2.1 t.2.2.1 st else some (st_single (ls_rl tn tx t.2.2.2) st)
theorem stk_opn (tn : Nat) (tx : Nat → Int32) (st : List RLv) : stk tn tx Tk.opn st = if st.length = 9 then none else some (st_open st) := rfl
theorem stk_cls (tn : Nat) (tx : Nat → Int32) (st : List RLv) : stk tn tx Tk.cls st = if st.length ≤ 1 then none else some (st_close st) := rfl
theorem stk_bar (tn : Nat) (tx : Nat → Int32) (st : List RLv) : stk tn tx Tk.bar st = some (st_bar st) := rfl
theorem stk_rep (tn : Nat) (tx : Nat → Int32) (l a : Bool) (st : List RLv) : stk tn tx (Tk.rep l a) st = st_rep l a st := rfl
theorem stk_sing (tn : Nat) (tx : Nat → Int32) (l : LSp) (st : List RLv) : stk tn tx (Tk.sing l) st = some (st_single (ls_rl tn tx l) st) := rfl
abbrev Rd : Type := Nat ⊕ List RLv
abbrev Rd.fault (p : Nat) : Rd := Sum.inl p
abbrev Rd.done (st : List RLv) : Rd := Sum.inr st
def rd (tn : Nat) (tx : Nat → Int32) (s : Nat → Nat) (n : Nat) : Nat → Nat → List RLv → Rd
  | 0, _, _ => Rd.fault 0
  | f + 1, k, st => if n ≤ k then (if 1 < st.length then Rd.fault n else Rd.done st) else match lx s n k with
    | Sum.inl p => Rd.fault p
    | Sum.inr (t, k') => match stk tn tx t st with
      | none => Rd.fault k
      | some st' => rd tn tx s n f k' st'
theorem fbr_ok (s : Nat → Nat) : ∀ (m p : Nat), p ≤ fbr s m p ∧ fbr s m p ≤ p + m ∧ (∀ k, p ≤ k → k < fbr s m p → s k ≠ 93) ∧ (fbr s m p = p + m ∨ s (fbr s m p) = 93)
  | 0, p => ⟨Nat.le_refl _, Nat.le_refl _, fun k h1 h2 => by simp only [fbr] at h2; omega, Or.inl rfl⟩
  | m + 1, p => by
    by_cases e : s p = 93
    · simp only [fbr, if_pos e]
      exact ⟨Nat.le_refl _, by omega, fun k h1 h2 => by omega, Or.inr e⟩
    · simp only [fbr, if_neg e]
      obtain ⟨a, b, c, d⟩ := fbr_ok s m (p + 1)
      refine ⟨by omega, by omega, fun k h1 h2 => ?_, ?_⟩
      · by_cases q : k = p
        · rw [q]; exact e
        · exact c k (by omega) h2
      · rcases d with d | d
        · exact Or.inl (by omega)
        · exact Or.inr d
/-- a text: at most 160 codes below 128 -/
abbrev Txt (tn : Nat) (tx : Nat → Int32) : Prop := (tn ≤ 160) ∧ (∀ k, k < tn → ∃ c, c < 128 ∧ tx k = Int32.ofNat c)
theorem Txt.nb {tn : Nat} {tx : Nat → Int32} (h_ : Txt tn tx) : tn ≤ 160 := h_.1
theorem Txt.ch {tn : Nat} {tx : Nat → Int32} (h_ : Txt tn tx) : ∀ k, k < tn → ∃ c, c < 128 ∧ tx k = Int32.ofNat c := h_.2
theorem tl_con_eq {tn : Nat} {tx : Nat → Int32} (hT : Txt tn tx) {lo hi : Int64} {P : Nat → Bool} (h1 : ∀ k, k < 64 → lb lo k = P k) (h2 : ∀ k, k < 64 → lb hi k = P (k + 64)) : cLab tn tx 1 lo hi = ls_rl tn tx (LSp.con P) := by
  have e : cLab tn tx 1 lo hi = tl_con tn tx (c_takes lo hi) := rfl
  rw [e]
  funext i j
  apply propext
  show (j = i + 1 ∧ i < tn ∧ _) ↔ (j = i + 1 ∧ i < tn ∧ _)
  refine and_congr_right (fun _ => and_congr_right (fun hi => ?_))
  obtain ⟨c, hc, e⟩ := hT.ch i hi
  have hn : (tx i).toNatClampNeg = c := by rw [e]; exact pn_nat (by omega)
  unfold c_takes
  rw [hn]
  by_cases h : c < 64
  · rw [if_pos h, h1 c h]
    show _ ↔ P (tx i).toNatClampNeg = true
    rw [hn]
  · rw [if_neg h, h2 (c - 64) (by omega), show c - 64 + 64 = c by omega]
    show _ ↔ P (tx i).toNatClampNeg = true
    rw [hn]
/-- a node that takes one code, or codes otherwise chosen afterwards -/
theorem A_readLiteral {tn : Nat} {tx : Nat → Int32} {sx : Nat → Int32} {I : MI} {A : MA} {M : MI} {MB : MA} {L : ML} {r : CR} (hT : Txt tn tx) (h : CAbs tn tx I A M MB L r) (hn : r.n < 50) {c : Nat} (hc : c < 128) :
    Res (f_P_readLiteral sx I A M MB L (Int32.ofNat c)) (CStep tn tx I (c_single r (ls_rl tn tx (LSp.con (fun x => decide (x = c)))))) := by
  have htb := h.tb
  simp only [f_P_readLiteral, A_addNodeAsPart 1 h.n hn h.ta (show r.tail < 50 by omega), Option.bind_some]
  refine (A_takeCodes hn hc hc).bind ?_
  rintro ⟨z0, z1, z2, z3⟩ ⟨e0, e1, e2, lo, hi, hlo, hhi, blo, bhi⟩
  simp only at e0 e1 e2 hlo hhi
  refine Res.mk ⟨?_, ?_, ?_, ?_⟩
  · rw [← tl_con_eq hT (lo := lo) (hi := hi) (P := fun x => decide (x = c)) (fun k hk => ?_) (fun k hk => ?_)]
    · refine h.single hn 1 lo hi rfl e1 e2 ?_ ?_
      · show z3 3 = _; rw [hlo, va_up_ne _ _ (by decide), va_up_self, vpl_vpl]
      · show z3 4 = _; rw [hhi, va_up_self, vpl_vpl]
    · rw [blo k hk, va_up_ne _ _ (by decide), va_up_self, vpl_self, lb_zero, Bool.false_or]
      apply decide_eq_decide.mpr; omega
    · rw [bhi k hk, va_up_self, vpl_self, lb_zero, Bool.false_or]
      apply decide_eq_decide.mpr; omega
  · simp only [upd, if_true, if_false, Nat.reduceEqDiff]
  · simp only [upd, if_true, if_false, Nat.reduceEqDiff]
  · simp only [upd, if_true, if_false, Nat.reduceEqDiff]
theorem A_readDot {tn : Nat} {tx : Nat → Int32} {sx : Nat → Int32} {I : MI} {A : MA} {M : MI} {MB : MA} {L : ML} {r : CR} (hT : Txt tn tx) (h : CAbs tn tx I A M MB L r) (hn : r.n < 50) :
    Res (f_P_readDot sx I A M MB L) (CStep tn tx I (c_single r (ls_rl tn tx (LSp.con (fun x => decide (x ≠ 10)))))) := by
  have htb := h.tb
  simp only [f_P_readDot, A_addNodeAsPart 1 h.n hn h.ta (show r.tail < 50 by omega), Option.bind_some]
  refine (A_takeCodes (a := 10) (b := 10) hn (by omega) (by omega)).bind ?_
  rintro ⟨z0, z1, z2, z3⟩ ⟨e0, e1, e2, lo, hi, hlo, hhi, blo, bhi⟩
  simp only at e0 e1 e2 hlo hhi
  subst e1; subst e2
  refine (A_takeOther hn).bind ?_
  rintro ⟨y0, y1, y2, y3⟩ ⟨f0, f1, f2, lo', hi', hlo', hhi', blo', bhi'⟩
  simp only at f0 f1 f2 hlo' hhi' blo' bhi'
  refine Res.mk ⟨?_, ?_, ?_, ?_⟩
  · rw [← tl_con_eq hT (lo := lo') (hi := hi') (P := fun x => decide (x ≠ 10)) (fun k hk => ?_) (fun k hk => ?_)]
    · refine h.single hn 1 lo' hi' rfl f1 f2 ?_ ?_
      · show y3 3 = _; rw [hlo', hlo, vpl_vpl, va_up_ne _ _ (by decide), va_up_self, vpl_vpl]
      · show y3 4 = _; rw [hhi', hhi, vpl_vpl, va_up_self, vpl_vpl]
    · rw [blo' k hk, hlo, vpl_self, blo k hk, va_up_ne _ _ (by decide), va_up_self, vpl_self, lb_zero, Bool.false_or, ← decide_not]
      apply decide_eq_decide.mpr; omega
    · rw [bhi' k hk, hhi, vpl_self, bhi k hk, va_up_self, vpl_self, lb_zero, Bool.false_or, ← decide_not]
      apply decide_eq_decide.mpr; omega
  · simp only [upd, if_true, if_false, Nat.reduceEqDiff]
  · simp only [upd, if_true, if_false, Nat.reduceEqDiff]
  · simp only [upd, if_true, if_false, Nat.reduceEqDiff]
theorem pn_i24 {n : Nat} (h : n < 24) : wk_inb (Int32.ofNat n) 24 = true := (pn_inb (by omega)).mpr h
theorem pn_add2 (n : Nat) : Int32.ofNat n + 2 = Int32.ofNat (n + 2) := pn_add n 2
theorem pn_add3 (n : Nat) : Int32.ofNat n + 3 = Int32.ofNat (n + 3) := pn_add n 3
/-- a character or a range inside a set -/
theorem A_readRange {sx : Nat → Int32} {s : Nat → Nat} {n p e node : Nat} (hS : Slip sx s n) (hpe : p < e) (hen : e ≤ n) (hbr : ∀ k, p ≤ k → k < e → s k ≠ 93) (hee : e = n ∨ s e = 93) (hno : node < 50)
    {I : MI} {A : MA} {M : MI} {MB : MA} {L : ML} (h6 : I 6 = Int32.ofNat n) (h7 : I 7 = Int32.ofNat p) :
    Res (f_P_readRange sx I A M MB L (Int32.ofNat node)) (fun z => z.2.1 = upd I 7 (Int32.ofNat (if p + 2 < e ∧ s (p + 1) = 45 ∧ s p ≤ s (p + 2) then p + 3 else p + 1)) ∧ z.2.2.1 = A ∧ z.2.2.2.1 = M ∧ z.2.2.2.2.1 = MB ∧
      ∃ lo hi, z.2.2.2.2.2 3 = vp_updL (L 3) node lo ∧ z.2.2.2.2.2 4 = vp_updL (L 4) node hi ∧
        (∀ k, k < 64 → lb lo k = (lb (L 3 node) k || (if p + 2 < e ∧ s (p + 1) = 45 ∧ s p ≤ s (p + 2) then decide (s p ≤ k ∧ k ≤ s (p + 2)) else decide (k = s p)))) ∧
        (∀ k, k < 64 → lb hi k = (lb (L 4 node) k || (if p + 2 < e ∧ s (p + 1) = 45 ∧ s p ≤ s (p + 2) then decide (s p ≤ k + 64 ∧ k + 64 ≤ s (p + 2)) else decide (k + 64 = s p))))) := by
  have hn := hS.nb
  obtain ⟨e0, c0⟩ := hS.ch p (by omega)
  have n0 : (Int32.ofNat p).toNatClampNeg = p := pn_nat (by omega)
  have n1 : (Int32.ofNat (p + 1)).toNatClampNeg = p + 1 := pn_nat (by omega)
  have n2 : (Int32.ofNat (p + 2)).toNatClampNeg = p + 2 := pn_nat (by omega)
  have one : ∀ (X : Nat → Int32) (Y : Nat → Int64), X 1 = Int32.ofNat node → X 2 = Int32.ofNat (s p) → ¬ (p + 2 < e ∧ s (p + 1) = 45 ∧ s p ≤ s (p + 2)) → Res (f_P_readRange_74 sx I A M MB L X Y) (fun z => z.2.1 = upd I 7 (Int32.ofNat (if p + 2 < e ∧ s (p + 1) = 45 ∧ s p ≤ s (p + 2) then p + 3 else p + 1)) ∧ z.2.2.1 = A ∧ z.2.2.2.1 = M ∧ z.2.2.2.2.1 = MB ∧
      ∃ lo hi, z.2.2.2.2.2 3 = vp_updL (L 3) node lo ∧ z.2.2.2.2.2 4 = vp_updL (L 4) node hi ∧
        (∀ k, k < 64 → lb lo k = (lb (L 3 node) k || (if p + 2 < e ∧ s (p + 1) = 45 ∧ s p ≤ s (p + 2) then decide (s p ≤ k ∧ k ≤ s (p + 2)) else decide (k = s p)))) ∧
        (∀ k, k < 64 → lb hi k = (lb (L 4 node) k || (if p + 2 < e ∧ s (p + 1) = 45 ∧ s p ≤ s (p + 2) then decide (s p ≤ k + 64 ∧ k + 64 ≤ s (p + 2)) else decide (k + 64 = s p))))) := by
    intro X Y hx1 hx2 hc
    simp only [if_neg hc]
    simp only [f_P_readRange_74, f_P_readRange_75, if_true, hx1, hx2]
    refine (A_takeCodes hno c0 c0).bind ?_
    rintro ⟨z0, z1, z2, z3⟩ ⟨q0, q1, q2, lo, hi, hlo, hhi, blo, bhi⟩
    simp only at q0 q1 q2 hlo hhi
    simp only [wk_let, f_P_readRange_133, h7, pn_succ]
    refine Res.mk ⟨rfl, rfl, q1, q2, lo, hi, hlo, hhi, fun k hk => ?_, fun k hk => ?_⟩
    · rw [blo k hk]; congr 1; apply decide_eq_decide.mpr; omega
    · rw [bhi k hk]; congr 1; apply decide_eq_decide.mpr; omega
  have x1 : ∀ v, upd (upd (fun _ => (0 : Int32)) 1 (Int32.ofNat node)) 2 v 1 = Int32.ofNat node := fun v => by rw [upd_ne _ _ (by decide), upd_self]
  have x2 : ∀ v, upd (upd (fun _ => (0 : Int32)) 1 (Int32.ofNat node)) 2 v 2 = v := fun v => upd_self _ _ _
  simp only [f_P_readRange, h6, h7, pn_i24 (show p < 24 by omega), if_true, pn_add2, pn_succ, n0, n1, n2, e0]
  by_cases h1 : n ≤ p + 2
  · rw [if_pos ((pn_le (by omega) (by omega)).mpr h1)]
    exact one _ _ (x1 _) (x2 _) (by omega)
  · rw [if_neg (fun z => h1 ((pn_le (by omega) (by omega)).mp z))]
    obtain ⟨e1, c1⟩ := hS.ch (p + 1) (by omega)
    obtain ⟨e2, c2⟩ := hS.ch (p + 2) (by omega)
    simp only [pn_i24 (show p + 1 < 24 by omega), pn_i24 (show p + 2 < 24 by omega), if_true, e1, e2]
    by_cases h2 : s (p + 1) = 45
    · rw [if_pos ((pn_eqc (a := s (p + 1)) (x := 45) 45 rfl (by omega) (by omega)).mpr h2)]
      have hp1 : p + 1 < e := by
        by_cases q : p + 1 = e
        · rcases hee with z | z
          · omega
          · rw [← q] at z; omega
        · omega
      by_cases h3 : s (p + 2) = 93
      · rw [if_pos ((pn_eqc (a := s (p + 2)) (x := 93) 93 rfl (by omega) (by omega)).mpr h3)]
        refine one _ _ (x1 _) (x2 _) (fun z => hbr (p + 2) (by omega) z.1 h3)
      · rw [if_neg (fun z => h3 ((pn_eqc (a := s (p + 2)) (x := 93) 93 rfl (by omega) (by omega)).mp z))]
        have hp2 : p + 2 < e := by
          by_cases q : p + 2 = e
          · rcases hee with z | z
            · omega
            · rw [← q] at z; omega
          · omega
        by_cases h4 : s (p + 2) < s p
        · rw [if_pos ((pn_lt (by omega) (by omega)).mpr h4)]
          exact one _ _ (x1 _) (x2 _) (by omega)
        · rw [if_neg (fun z => h4 ((pn_lt (by omega) (by omega)).mp z))]
          have hc : p + 2 < e ∧ s (p + 1) = 45 ∧ s p ≤ s (p + 2) := ⟨hp2, h2, by omega⟩
          simp only [if_pos hc]
          have h10 : ¬ (1 : Int32) = 0 := by decide
          simp only [f_P_readRange_75, if_neg h10, h7, pn_add2, pn_i24 (show p + 2 < 24 by omega), if_true, n2, x1, x2, e2]
          refine (A_takeCodes hno c0 c2).bind ?_
          rintro ⟨z0, z1, z2, z3⟩ ⟨q0, q1, q2, lo, hi, hlo, hhi, blo, bhi⟩
          simp only at q0 q1 q2 hlo hhi
          simp only [wk_let, f_P_readRange_133, pn_add3]
          exact Res.mk ⟨rfl, rfl, q1, q2, lo, hi, hlo, hhi, blo, bhi⟩
    · rw [if_neg (fun z => h2 ((pn_eqc (a := s (p + 1)) (x := 45) 45 rfl (by omega) (by omega)).mp z))]
      exact one _ _ (x1 _) (x2 _) (by omega)
theorem inset_fuel (s : Nat → Nat) (e : Nat) : ∀ (f g p c : Nat), e - p ≤ f → e - p ≤ g → inset s e f p c = inset s e g p c := by
  intro f
  induction f with
  | zero =>
    intro g p c h1 h2
    cases g with
    | zero => rfl
    | succ g => simp only [inset, if_pos (show e ≤ p by omega)]
  | succ f ih =>
    intro g p c h1 h2
    cases g with
    | zero => simp only [inset, if_pos (show e ≤ p by omega)]
    | succ g =>
      simp only [inset]
      by_cases h : e ≤ p
      · rw [if_pos h, if_pos h]
      · rw [if_neg h, if_neg h]
        split
        · rw [ih g (p + 3) c (by omega) (by omega)]
        · rw [ih g (p + 1) c (by omega) (by omega)]
theorem inset_step {s : Nat → Nat} {e p c f : Nat} (hpe : p < e) (hf : e - p ≤ f) : inset s e f p c = (if p + 2 < e ∧ s (p + 1) = 45 ∧ s p ≤ s (p + 2) then (decide (s p ≤ c ∧ c ≤ s (p + 2)) || inset s e f (p + 3) c) else (decide (c = s p) || inset s e f (p + 1) c)) := by
  obtain ⟨g, rfl⟩ : ∃ g, f = g + 1 := ⟨f - 1, by omega⟩
  have h : ¬ e ≤ p := by omega
  have h3 := inset_fuel s e g (g + 1) (p + 3) c (by omega) (by omega)
  have h1 := inset_fuel s e g (g + 1) (p + 1) c (by omega) (by omega)
  rw [← h3, ← h1]
  conv => lhs; unfold inset
  rw [if_neg h]
theorem inset_done {s : Nat → Nat} {e p c : Nat} (f : Nat) (h : e ≤ p) : inset s e f p c = false := by
  cases f with
  | zero => rfl
  | succ f => unfold inset; rw [if_pos h]
theorem vpl_same (f : Nat → Int64) (k : Nat) : f = vp_updL f k (f k) := by
  funext j
  by_cases e : j = k
  · rw [e, vpl_self]
  · rw [vpl_ne _ _ e]
/-- the loop over a set's characters, up to its bracket -/
theorem A_readSet_go {sx : Nat → Int32} {s : Nat → Nat} {n e node : Nat} (hS : Slip sx s n) (hen : e ≤ n) (hee : e = n ∨ s e = 93) (hno : node < 50) {A : MA} {M : MI} {MB : MA} {Q : Int32 × MI × MA × MI × MA × ML → Prop} :
    ∀ (m p t fuel : Nat) (I : MI) (L : ML) (X : Nat → Int32) (Y : Nat → Int64), e - p ≤ m → p ≤ e → m < fuel → t ≤ p → (∀ k, p ≤ k → k < e → s k ≠ 93) → I 6 = Int32.ofNat n → I 7 = Int32.ofNat p → X 3 = Int32.ofNat node → X 4 = Int32.ofNat t →
      (∀ (rc : Nat → MI → MA → MI → MA → ML → (Nat → Int32) → (Nat → Int64) → Option (Int32 × MI × MA × MI × MA × ML)) (I' : MI) (L' : ML) (X' : Nat → Int32) (lo hi : Int64), I' 7 = Int32.ofNat e → (∀ j, j ≠ 7 → I' j = I j) → (∀ j, j ≠ 4 → X' j = X j) → L' 3 = vp_updL (L 3) node lo → L' 4 = vp_updL (L 4) node hi →
        (∀ k, k < 64 → lb lo k = (lb (L 3 node) k || inset s e 24 p k)) → (∀ k, k < 64 → lb hi k = (lb (L 4 node) k || inset s e 24 p (k + 64))) → Res (f_P_readSet_112 sx rc I' A M MB L' X' Y) Q) →
      Res (f_P_readSet_go sx fuel 67 I A M MB L X Y) Q := by
  intro m
  have hn := hS.nb
  induction m with
  | zero =>
    intro p t fuel I L X Y hm hpe hf ht hbr h6 h7 h3 h4 hQ
    obtain ⟨g, rfl⟩ : ∃ g, fuel = g + 1 := ⟨fuel - 1, by omega⟩
    have epe : p = e := by omega
    have hQ' : ∀ rc, Res (f_P_readSet_112 sx rc I A M MB L X Y) Q := fun rc => hQ rc I L X (L 3 node) (L 4 node) (by rw [← epe]; exact h7) (fun _ _ => rfl) (fun _ _ => rfl) (vpl_same _ _) (vpl_same _ _)
      (fun k _ => by rw [inset_done 24 (by omega), Bool.or_false]) (fun k _ => by rw [inset_done 24 (by omega), Bool.or_false])
    simp only [f_P_readSet_go, f_P_readSet_67, if_true, h6, h7, h4]
    split
    · exact hQ' _
    · split
      · exact hQ' _
      · rename_i q1 q2
        have hpn : p < n := by
          by_cases z : n ≤ p
          · exact (q2 ((pn_le (by omega) (by omega)).mpr z)).elim
          · omega
        obtain ⟨e0, c0⟩ := hS.ch p hpn
        have h93 : s p = 93 := by
          rcases hee with z | z
          · omega
          · rw [epe]; exact z
        rw [pn_nat (show p < 2147483648 by omega), e0, if_pos (pn_i24 (by omega)), if_pos ((pn_eqc (x := 93) 93 rfl (by omega) (by omega)).mpr h93)]
        exact hQ' _
  | succ m ih =>
    intro p t fuel I L X Y hm hpe hf ht hbr h6 h7 h3 h4 hQ
    by_cases hlt : p < e
    · obtain ⟨g, rfl⟩ : ∃ g, fuel = g + 1 := ⟨fuel - 1, by omega⟩
      obtain ⟨e0, c0⟩ := hS.ch p (by omega)
      have h93 : s p ≠ 93 := hbr p (Nat.le_refl _) hlt
      simp only [f_P_readSet_go, f_P_readSet_67, if_true, h6, h7, h4, pn_nat (show p < 2147483648 by omega), e0]
      rw [if_neg (fun z => by have := (pn_le (a := n) (b := t) (by omega) (by omega)).mp z; omega), if_neg (fun z => by have := (pn_le (a := n) (b := p) (by omega) (by omega)).mp z; omega), if_pos (pn_i24 (show p < 24 by omega)), if_neg (fun z => h93 ((pn_eqc (x := 93) 93 rfl (by omega) (by omega)).mp z)), h3]
      refine (A_readRange hS hlt hen hbr hee hno h6 h7).bind ?_
      rintro ⟨z0, z1, z2, z3, z4, z5⟩ ⟨e1, e2, e3, e4, lo, hi, hlo, hhi, blo, bhi⟩
      simp only at e1 e2 e3 e4 hlo hhi
      subst e2; subst e3; subst e4
      simp only [pn_succ]
      refine ih (if p + 2 < e ∧ s (p + 1) = 45 ∧ s p ≤ s (p + 2) then p + 3 else p + 1) (t + 1) g z1 z5 _ Y ?_ ?_ (by omega) ?_ ?_ ?_ ?_ ?_ ?_ ?_
      · split <;> omega
      · split <;> omega
      · split <;> omega
      · intro k h1 h2; exact hbr k (by split at h1 <;> omega) h2
      · rw [e1, upd_ne _ _ (by decide)]; exact h6
      · rw [e1, upd_self]
      · rw [upd_ne _ _ (by decide)]; exact h3
      · exact upd_self _ _ _
      · intro rc I' L' X' lo' hi' a1 a2 a3 a4 a5 a6 a7
        refine hQ rc I' L' X' lo' hi' a1 (fun j hj => by rw [a2 j hj, e1, upd_ne _ _ hj]) (fun j hj => by rw [a3 j hj, upd_ne _ _ hj]) (by rw [a4, hlo, vpl_vpl]) (by rw [a5, hhi, vpl_vpl]) (fun k hk => ?_) (fun k hk => ?_)
        · rw [a6 k hk, hlo, vpl_self, blo k hk, inset_step hlt (show e - p ≤ 24 by omega)]
          split <;> rw [Bool.or_assoc]
        · rw [a7 k hk, hhi, vpl_self, bhi k hk, inset_step hlt (show e - p ≤ 24 by omega)]
          split <;> rw [Bool.or_assoc]
    · exact ih p t fuel I L X Y (by omega) hpe (by omega) ht hbr h6 h7 h3 h4 hQ

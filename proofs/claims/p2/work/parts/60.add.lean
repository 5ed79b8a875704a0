/-- so many characters were added to the draft -/
def AdOut (I : MI) (A : MA) (m len : Nat) (src : Nat → Int32) (z : Int32 × MI × MA) : Prop :=
  z.2.1 36 = Int32.ofNat (m + len) ∧ (∀ j, j ≠ 36 → z.2.1 j = I j) ∧ (∀ j, j ≠ 37 → z.2.2 j = A j) ∧ ∀ k, z.2.2 37 k = if m ≤ k ∧ k < m + len then src (k - m) else A 37 k
theorem B_add {I : MI} {A : MA} {m c : Nat} (h36 : I 36 = Int32.ofNat m) (hm : m < 4000) (hc : c < 128) : f_M_add I A (Int32.ofNat c) = some (0, upd I 36 (Int32.ofNat (m + 1)), va_up A 37 (upd (A 37) m (Int32.ofNat c))) := by
  have i4 : wk_inb (Int32.ofNat m) 4000 = true := (pn_inb (by omega)).mpr hm
  simp only [f_M_add, h36, i4, if_true, wk_let, pn_nat (show m < 2147483648 by omega), nar_ch hc, pn_succ]
theorem as_go (g : Nat) (I : MI) (A : MA) (X : Nat → Int32) : f_M_addSlip_go (g + 1) 2 I A X = f_M_addSlip_2 (f_M_addSlip_go g) I A X := rfl
theorem at_go (g : Nat) (I : MI) (A : MA) (X : Nat → Int32) : f_M_addText_go (g + 1) 2 I A X = f_M_addText_2 (f_M_addText_go g) I A X := rfl
/-- one more character -/
theorem AdOut.step {I : MI} {A : MA} {m len : Nat} {src : Nat → Int32} {x : Int32} (hx : src 0 = x) {z : Int32 × MI × MA} (h : AdOut (upd I 36 (Int32.ofNat (m + 1))) (va_up A 37 (upd (A 37) m x)) (m + 1) len (fun k => src (k + 1)) z) : AdOut I A m (len + 1) src z := by
  obtain ⟨a, b, c, d⟩ := h
  refine ⟨by rw [a, show m + 1 + len = m + (len + 1) by omega], fun j hj => by rw [b j hj, upd_ne _ _ hj], fun j hj => by rw [c j hj, va_up_ne _ _ hj], fun k => ?_⟩
  rw [d k, va_up_self]
  by_cases q : m + 1 ≤ k ∧ k < m + 1 + len
  · rw [if_pos q, if_pos (by omega)]
    show src (k - (m + 1) + 1) = src (k - m)
    rw [show k - (m + 1) + 1 = k - m by omega]
  · rw [if_neg q]
    by_cases e : k = m
    · rw [e, upd_self, if_pos (by omega), Nat.sub_self, hx]
    · rw [upd_ne _ _ e, if_neg (by omega)]
theorem AdOut.zero (I : MI) (A : MA) (m : Nat) (src : Nat → Int32) (h : I 36 = Int32.ofNat m) : AdOut I A m 0 src (0, I, A) := ⟨h, fun _ _ => rfl, fun _ _ => rfl, fun k => by rw [if_neg (by omega)]⟩
theorem B_addSlip_go {sn : Nat} {sc : Nat → Nat} : ∀ (d k m fuel : Nat) (I : MI) (A : MA) (X : Nat → Int32), sn - k = d → k ≤ sn → sn ≤ 24 → d < fuel → m + d ≤ 4000 → I 1 = Int32.ofNat sn → I 36 = Int32.ofNat m → (∀ j, j < sn → A 2 j = Int32.ofNat (sc j) ∧ sc j < 128) → X 1 = Int32.ofNat k →
    Res (f_M_addSlip_go fuel 2 I A X) (AdOut I A m d (fun j => Int32.ofNat (sc (k + j)))) := by
  intro d
  induction d with
  | zero =>
    intro k m fuel I A X hd hk hs hf hm i1 i36 hsl x1
    obtain ⟨g, rfl⟩ : ∃ g, fuel = g + 1 := ⟨fuel - 1, by omega⟩
    rw [as_go]
    unfold f_M_addSlip_2
    rw [i1, x1, if_pos ((pn_le (by omega) (by omega)).mpr (by omega))]
    exact Res.mk (AdOut.zero I A m _ i36)
  | succ d ih =>
    intro k m fuel I A X hd hk hs hf hm i1 i36 hsl x1
    obtain ⟨g, rfl⟩ : ∃ g, fuel = g + 1 := ⟨fuel - 1, by omega⟩
    obtain ⟨e2, c2⟩ := hsl k (by omega)
    rw [as_go]
    unfold f_M_addSlip_2
    rw [i1, x1, if_neg (fun z => by have := (pn_le (a := sn) (b := k) (by omega) (by omega)).mp z; omega), if_pos (pn_i24 (show k < 24 by omega)), pn_nat (show k < 2147483648 by omega), e2, B_add i36 (by omega) c2]
    simp only [Option.bind_some, pn_succ]
    refine (ih (k + 1) (m + 1) g _ _ _ (by omega) (by omega) hs (by omega) (by omega) (by rw [upd_ne _ _ (by decide)]; exact i1) (upd_self _ _ _) (fun j hj => by rw [va_up_ne _ _ (by decide)]; exact hsl j hj) (upd_self _ _ _)).imp (fun z hz => ?_)
    refine AdOut.step (src := fun j => Int32.ofNat (sc (k + j))) rfl ?_
    have e : (fun j => Int32.ofNat (sc (k + 1 + j))) = (fun j => (fun j => Int32.ofNat (sc (k + j))) (j + 1)) := by
      funext j; show Int32.ofNat (sc (k + 1 + j)) = Int32.ofNat (sc (k + (j + 1))); rw [show k + 1 + j = k + (j + 1) by omega]
    rw [← e]; exact hz
theorem B_addSlip {sn m : Nat} {sc : Nat → Nat} {I : MI} {A : MA} (hs : sn ≤ 24) (hm : m + sn ≤ 4000) (i1 : I 1 = Int32.ofNat sn) (i36 : I 36 = Int32.ofNat m) (hsl : ∀ j, j < sn → A 2 j = Int32.ofNat (sc j) ∧ sc j < 128) : Res (f_M_addSlip I A) (AdOut I A m sn (fun j => Int32.ofNat (sc j))) := by
  have fu := wk_FUEL_big
  unfold f_M_addSlip f_M_addSlip_e
  generalize wk_FUEL = F at fu ⊢
  refine (B_addSlip_go (sn := sn) (sc := sc) sn 0 m F I A _ (by omega) (by omega) hs (by omega) hm i1 i36 hsl (upd_self _ _ _)).imp (fun z hz => ?_)
  have e : (fun j => Int32.ofNat (sc (0 + j))) = (fun j => Int32.ofNat (sc j)) := by funext j; rw [Nat.zero_add]
  rw [e] at hz; exact hz
theorem B_addText_go {tn hi : Nat} {tx : Nat → Int32} {ps : Nat} (hhi : hi ≤ tn) : ∀ (d k m fuel : Nat) (I : MI) (A : MA) (X : Nat → Int32), MTxt I A tn tx ps → hi - k = d → d < fuel → m + d ≤ 4000 → k < 1000 → I 36 = Int32.ofNat m → X 2 = Int32.ofNat hi → X 3 = Int32.ofNat k → Res (f_M_addText_go fuel 2 I A X) (AdOut I A m d (fun j => tx (k + j))) := by
  intro d
  induction d with
  | zero =>
    intro k m fuel I A X hM hd hf hm hk i36 x2 x3
    have ht := hM.t.nb
    obtain ⟨g, rfl⟩ : ∃ g, fuel = g + 1 := ⟨fuel - 1, by clear hM; omega⟩
    rw [at_go]
    unfold f_M_addText_2
    rw [x2, x3, if_pos ((pn_le (by clear hM; omega) (by clear hM; omega)).mpr (by clear hM; omega))]
    exact Res.mk (AdOut.zero I A m _ i36)
  | succ d ih =>
    intro k m fuel I A X hM hd hf hm hk i36 x2 x3
    have ht := hM.t.nb
    obtain ⟨g, rfl⟩ : ∃ g, fuel = g + 1 := ⟨fuel - 1, by clear hM; omega⟩
    obtain ⟨c, hc, ec⟩ := hM.t.ch k (by clear hM; omega)
    rw [at_go]
    unfold f_M_addText_2
    rw [x2, x3, if_neg (fun z => by have := (pn_le (a := hi) (b := k) (by clear hM; omega) (by clear hM; omega)).mp z; clear hM; omega), B_char hM (by clear hM; omega)]
    simp only [Option.bind_some]
    rw [ec, B_add i36 (by clear hM; omega) hc]
    simp only [Option.bind_some, pn_succ]
    have hM' : MTxt (upd I 36 (Int32.ofNat (m + 1))) (va_up A 37 (upd (A 37) m (Int32.ofNat c))) tn tx ps := hM.fr (upd_ne _ _ (by decide)) (va_up_ne _ _ (by decide)) (va_up_ne _ _ (by decide))
    refine (ih (k + 1) (m + 1) g _ _ _ hM' (by clear hM hM'; omega) (by clear hM hM'; omega) (by clear hM hM'; omega) (by clear hM hM'; omega) (upd_self _ _ _) (by rw [upd_ne _ _ (by decide)]; exact x2) (upd_self _ _ _)).imp (fun z hz => ?_)
    refine AdOut.step (src := fun j => tx (k + j)) ec ?_
    have e : (fun j => tx (k + 1 + j)) = (fun j => (fun j => tx (k + j)) (j + 1)) := by
      funext j; show tx (k + 1 + j) = tx (k + (j + 1)); rw [show k + 1 + j = k + (j + 1) by omega]
    rw [← e]; exact hz
theorem B_addText {tn lo hi m : Nat} {tx : Nat → Int32} {ps : Nat} {I : MI} {A : MA} (hM : MTxt I A tn tx ps) (hlo : lo ≤ hi) (hhi : hi ≤ tn) (hm : m + (hi - lo) ≤ 4000) (i36 : I 36 = Int32.ofNat m) : Res (f_M_addText I A (Int32.ofNat lo) (Int32.ofNat hi)) (AdOut I A m (hi - lo) (fun j => tx (lo + j))) := by
  have fu := wk_FUEL_big
  have ht := hM.t.nb
  unfold f_M_addText f_M_addText_e
  generalize wk_FUEL = F at fu ⊢
  exact B_addText_go hhi (hi - lo) lo m F I A _ hM rfl (by clear hM; omega) hm (by clear hM; omega) i36 (by rw [upd_ne _ _ (by decide), upd_self]) (upd_self _ _ _)
/-- going to a state -/
theorem B_come {I : MI} {A : MA} {p s : Nat} (i4 : I 4 = Int32.ofNat p) (hp : p < 40) (hs : s < 40) :
    ∃ I' A', f_M_come I A (Int32.ofNat s) = some (0, I', A') ∧ I' 4 = Int32.ofNat s ∧ I' 11 = upd (A 7) p (I 11) s ∧ I' 12 = -1 ∧ I' 10 = I 10 + 1 ∧ (∀ j, j ≠ 4 → j ≠ 11 → j ≠ 12 → j ≠ 10 → I' j = I j) ∧ A' 7 = upd (A 7) p (I 11) ∧ A' 9 = upd (A 9) s (I 10 + 1) ∧ ∀ j, j ≠ 7 → j ≠ 9 → A' j = A j := by
  have ip : wk_inb (Int32.ofNat p) 40 = true := (pn_inb (by omega)).mpr hp
  have is_ : wk_inb (Int32.ofNat s) 40 = true := (pn_inb (by omega)).mpr hs
  obtain ⟨A1, hA1⟩ : ∃ A1, A1 = va_up A 7 (upd (A 7) p (I 11)) := ⟨_, rfl⟩
  obtain ⟨I2, hI2⟩ : ∃ I2, I2 = upd I 4 (Int32.ofNat s) := ⟨_, rfl⟩
  obtain ⟨I3, hI3⟩ : ∃ I3, I3 = upd I2 11 (A1 7 s) := ⟨_, rfl⟩
  obtain ⟨I4, hI4⟩ : ∃ I4, I4 = upd I3 12 (-1) := ⟨_, rfl⟩
  obtain ⟨I5, hI5⟩ : ∃ I5, I5 = upd I4 10 (I4 10 + 1) := ⟨_, rfl⟩
  have e10 : I4 10 = I 10 := by rw [hI4, upd_ne _ _ (by decide), hI3, upd_ne _ _ (by decide), hI2, upd_ne _ _ (by decide)]
  refine ⟨I5, va_up A1 9 (upd (A1 9) s (I5 10)), ?_, ?_, ?_, ?_, ?_, fun j h1 h2 h3 h4 => ?_, ?_, ?_, fun j h1 h2 => ?_⟩
  · unfold f_M_come
    simp only [wk_let, i4, ip, is_, if_true, pn_nat (show p < 2147483648 by omega), pn_nat (show s < 2147483648 by omega)]
    rw [← hA1, ← hI2, ← hI3, ← hI4, ← hI5]
  · rw [hI5, upd_ne _ _ (by decide), hI4, upd_ne _ _ (by decide), hI3, upd_ne _ _ (by decide), hI2, upd_self]
  · rw [hI5, upd_ne _ _ (by decide), hI4, upd_ne _ _ (by decide), hI3, upd_self, hA1, va_up_self]
  · rw [hI5, upd_ne _ _ (by decide), hI4, upd_self]
  · rw [hI5, upd_self, e10]
  · rw [hI5, upd_ne _ _ h4, hI4, upd_ne _ _ h3, hI3, upd_ne _ _ h2, hI2, upd_ne _ _ h1]
  · rw [va_up_ne _ _ (by decide), hA1, va_up_self]
  · rw [va_up_self, hI5, upd_self, e10, hA1, va_up_ne _ _ (by decide)]
  · rw [va_up_ne _ _ h2, hA1, va_up_ne _ _ h1]
theorem ed_go (g : Nat) (I : MI) (A : MA) (X : Nat → Int32) : f_M_edit_go (g + 1) 17 I A X = f_M_edit_17 (f_M_edit_go g) I A X := rfl
/-- the draft becomes the text of a new state -/
theorem B_edit_go {n m : Nat} {I : MI} (hn : n < 40) (hm : m ≤ 160) (i36 : I 36 = Int32.ofNat m) {Q : Int32 × MI × MA → Prop} : ∀ (d k fuel : Nat) (A : MA) (X : Nat → Int32), m - k = d → k ≤ m → d < fuel → X 2 = Int32.ofNat n → X 3 = Int32.ofNat k → (∀ j, j < m → ∃ c, c < 128 ∧ A 37 j = Int32.ofNat c) →
    (∀ A2 : MA, (∀ j, j ≠ 5 → A2 j = A j) → (∀ i, A2 5 i = if 160 * n + k ≤ i ∧ i < 160 * n + m then A 37 (i - 160 * n) else A 5 i) → Res (f_M_come I (va_up (va_up (va_up A2 6 (upd (A2 6) n (Int32.ofNat m))) 7 (upd (A2 7) n (X 1))) 8 (upd (A2 8) n (I 4))) (Int32.ofNat n)) (fun z => Q (0, z.2.1, z.2.2))) →
    Res (f_M_edit_go fuel 17 I A X) Q := by
  have i40 : wk_inb (Int32.ofNat n) 40 = true := (pn_inb (by omega)).mpr hn
  intro d
  induction d with
  | zero =>
    intro k fuel A X hd hk hf x2 x3 hch hQ
    obtain ⟨g, rfl⟩ : ∃ g, fuel = g + 1 := ⟨fuel - 1, by omega⟩
    have hQ' := hQ A (fun _ _ => rfl) (fun i => by rw [if_neg (by omega)])
    rw [ed_go]
    unfold f_M_edit_17
    rw [i36, x3, if_pos ((pn_le (by omega) (by omega)).mpr (by omega)), x2, if_pos i40, pn_nat (show n < 2147483648 by omega)]
    simp only [wk_let, i40, if_true]
    rw [va_up_ne (k := 6) (j := 7) _ _ (by decide), va_up_ne (k := 7) (j := 8) _ _ (by decide), va_up_ne (k := 6) (j := 8) _ _ (by decide)]
    exact hQ'.bind (fun z hz => Res.mk hz)
  | succ d ih =>
    intro k fuel A X hd hk hf x2 x3 hch hQ
    obtain ⟨g, rfl⟩ : ∃ g, fuel = g + 1 := ⟨fuel - 1, by omega⟩
    obtain ⟨c, hc, ec⟩ := hch k (by omega)
    have e : (160 * Int32.ofNat n) + Int32.ofNat k = Int32.ofNat (160 * n + k) := by
      rw [show (160 : Int32) = Int32.ofNat 160 from rfl, pn_mul, pn_add]
    have i64 : wk_inb (Int32.ofNat (160 * n + k)) 6400 = true := (pn_inb (by omega)).mpr (by omega)
    have i4k : wk_inb (Int32.ofNat k) 4000 = true := (pn_inb (by omega)).mpr (by omega)
    rw [ed_go]
    unfold f_M_edit_17
    rw [i36, x3, if_neg (fun z => by have := (pn_le (a := m) (b := k) (by omega) (by omega)).mp z; omega), x2, if_pos i4k, e, if_pos i64, pn_nat (show 160 * n + k < 2147483648 by omega), pn_nat (show k < 2147483648 by omega), ec, nar_ch hc, pn_succ]
    simp only [wk_let]
    refine ih (k + 1) g _ _ (by omega) (by omega) (by omega) (by rw [upd_ne _ _ (by decide)]; exact x2) (upd_self _ _ _) (fun j hj => by rw [va_up_ne _ _ (by decide)]; exact hch j hj) (fun A2 h1 h2 => ?_)
    have hh := hQ A2 (fun j hj => by rw [h1 j hj, va_up_ne _ _ hj]) (fun i => by
      rw [h2 i, va_up_ne _ _ (by decide), va_up_self]
      by_cases q : 160 * n + (k + 1) ≤ i ∧ i < 160 * n + m
      · rw [if_pos q, if_pos (by omega)]
      · rw [if_neg q]
        by_cases e2 : i = 160 * n + k
        · rw [e2, upd_self, if_pos (by omega), show 160 * n + k - 160 * n = k by omega, ec]
        · rw [upd_ne _ _ e2, if_neg (by omega)])
    rw [upd_ne _ _ (by decide)]
    exact hh

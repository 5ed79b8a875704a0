-- 60.add
/-- so many characters were added to the draft -/
def AdOut (I : MI) (A : MA) (m len : Nat) (src : Nat → Int32) (z : Int32 × MI × MA) : Prop :=
  z.2.1 36 = Int32.ofNat (m + len) ∧ (∀ j, j ≠ 36 → z.2.1 j = I j) ∧ (∀ j, j ≠ 37 → z.2.2 j = A j) ∧ ∀ k, z.2.2 37 k = if m ≤ k ∧ k < m + len then src (k - m) else A 37 k
theorem B_add {I : MI} {A : MA} {m c : Nat} (h36 : I 36 = Int32.ofNat m) (hm : m < 4000) (hc : c < 128) : f_M_add I A (Int32.ofNat c) = some (0, upd I 36 (Int32.ofNat (m + 1)), va_up A 37 (upd (A 37) m (Int32.ofNat c))) := by
  have i4 : wk_inb (Int32.ofNat m) 4000 = true := (pn_inb (by omega)).mpr hm
  simp only [f_M_add, h36, i4, if_true, wk_let, pn_nat (show m < 2147483648 by omega), nar_ch hc, pn_succ]
theorem as_go (g : Nat) (I : MI) (A : MA) (X : Nat → Int32) : f_M_addSlip_go (g + 1) 2 I A X = f_M_addSlip_2 (f_M_addSlip_go g) I A X := rfl
theorem at_go (g : Nat) (I : MI) (A : MA) (X : Nat → Int32) : f_M_addText_go (g + 1) 2 I A X = f_M_addText_2 (f_M_addText_go g) I A X := rfl
/-- one more character -/
theorem AdOut.step {I : MI} {A : MA} {m len : Nat} {src : Nat → Int32} {x : Int32} (hx : src 0 = x) {z : Int32 × MI × MA} (h : AdOut (upd I 36 (Int32.ofNat (m + 1))) (va_up A 37 (upd (A 37) m x)) (m + 1) len (fun k => src (k + 1)) z) : AdOut I A m (len + 1) src z := by
  obtain ⟨a, b, c, d⟩ := h
  refine ⟨by rw [a, show m + 1 + len = m + (len + 1) by omega], fun j hj => by rw [b j hj, upd_ne _ _ hj], fun j hj => by rw [c j hj, va_up_ne _ _ hj], fun k => ?_⟩
  rw [d k, va_up_self]
  by_cases q : m + 1 ≤ k ∧ k < m + 1 + len
  · rw [if_pos q, if_pos (by omega)]
    show src (k - (m + 1) + 1) = src (k - m)
    rw [show k - (m + 1) + 1 = k - m by omega]
  · rw [if_neg q]
    by_cases e : k = m
    · rw [e, upd_self, if_pos (by omega), Nat.sub_self, hx]
    · rw [upd_ne _ _ e, if_neg (by omega)]
theorem AdOut.zero (I : MI) (A : MA) (m : Nat) (src : Nat → Int32) (h : I 36 = Int32.ofNat m) : AdOut I A m 0 src (0, I, A) := ⟨h, fun _ _ => rfl, fun _ _ => rfl, fun k => by rw [if_neg (by omega)]⟩
theorem B_addSlip_go {sn : Nat} {sc : Nat → Nat} : ∀ (d k m fuel : Nat) (I : MI) (A : MA) (X : Nat → Int32), sn - k = d → k ≤ sn → sn ≤ 24 → d < fuel → m + d ≤ 4000 → I 1 = Int32.ofNat sn → I 36 = Int32.ofNat m → (∀ j, j < sn → A 2 j = Int32.ofNat (sc j) ∧ sc j < 128) → X 1 = Int32.ofNat k →
    Res (f_M_addSlip_go fuel 2 I A X) (AdOut I A m d (fun j => Int32.ofNat (sc (k + j)))) := by
  intro d
  induction d with
  | zero =>
    intro k m fuel I A X hd hk hs hf hm i1 i36 hsl x1
    obtain ⟨g, rfl⟩ : ∃ g, fuel = g + 1 := ⟨fuel - 1, by omega⟩
    rw [as_go]
    unfold f_M_addSlip_2
    rw [i1, x1, if_pos ((pn_le (by omega) (by omega)).mpr (by omega))]
    exact Res.mk (AdOut.zero I A m _ i36)
  | succ d ih =>
    intro k m fuel I A X hd hk hs hf hm i1 i36 hsl x1
    obtain ⟨g, rfl⟩ : ∃ g, fuel = g + 1 := ⟨fuel - 1, by omega⟩
    obtain ⟨e2, c2⟩ := hsl k (by omega)
    rw [as_go]
    unfold f_M_addSlip_2
    rw [i1, x1, if_neg (fun z => by have := (pn_le (a := sn) (b := k) (by omega) (by omega)).mp z; omega), if_pos (pn_i24 (show k < 24 by omega)), pn_nat (show k < 2147483648 by omega), e2, B_add i36 (by omega) c2]
    simp only [Option.bind_some, pn_succ]
    refine (ih (k + 1) (m + 1) g _ _ _ (by omega) (by omega) hs (by omega) (by omega) (by rw [upd_ne _ _ (by decide)]; exact i1) (upd_self _ _ _) (fun j hj => by rw [va_up_ne _ _ (by decide)]; exact hsl j hj) (upd_self _ _ _)).imp (fun z hz => ?_)
    refine AdOut.step (src := fun j => Int32.ofNat (sc (k + j))) rfl ?_
    have e : (fun j => Int32.ofNat (sc (k + 1 + j))) = (fun j => (fun j => Int32.ofNat (sc (k + j))) (j + 1)) := by
      funext j; show Int32.ofNat (sc (k + 1 + j)) = Int32.ofNat (sc (k + (j + 1))); rw [show k + 1 + j = k + (j + 1) by omega]
    rw [← e]; exact hz
theorem B_addSlip {sn m : Nat} {sc : Nat → Nat} {I : MI} {A : MA} (hs : sn ≤ 24) (hm : m + sn ≤ 4000) (i1 : I 1 = Int32.ofNat sn) (i36 : I 36 = Int32.ofNat m) (hsl : ∀ j, j < sn → A 2 j = Int32.ofNat (sc j) ∧ sc j < 128) : Res (f_M_addSlip I A) (AdOut I A m sn (fun j => Int32.ofNat (sc j))) := by
  have fu := wk_FUEL_big
  unfold f_M_addSlip f_M_addSlip_e
  generalize wk_FUEL = F at fu ⊢
  refine (B_addSlip_go (sn := sn) (sc := sc) sn 0 m F I A _ (by omega) (by omega) hs (by omega) hm i1 i36 hsl (upd_self _ _ _)).imp (fun z hz => ?_)
  have e : (fun j => Int32.ofNat (sc (0 + j))) = (fun j => Int32.ofNat (sc j)) := by funext j; rw [Nat.zero_add]
  rw [e] at hz; exact hz
theorem B_addText_go {tn hi : Nat} {tx : Nat → Int32} {ps : Nat} (hhi : hi ≤ tn) : ∀ (d k m fuel : Nat) (I : MI) (A : MA) (X : Nat → Int32), MTxt I A tn tx ps → hi - k = d → d < fuel → m + d ≤ 4000 → k < 1000 → I 36 = Int32.ofNat m → X 2 = Int32.ofNat hi → X 3 = Int32.ofNat k → Res (f_M_addText_go fuel 2 I A X) (AdOut I A m d (fun j => tx (k + j))) := by
  intro d
  induction d with
  | zero =>
    intro k m fuel I A X hM hd hf hm hk i36 x2 x3
    have ht := hM.t.nb
    obtain ⟨g, rfl⟩ : ∃ g, fuel = g + 1 := ⟨fuel - 1, by clear hM; omega⟩
    rw [at_go]
    unfold f_M_addText_2
    rw [x2, x3, if_pos ((pn_le (by clear hM; omega) (by clear hM; omega)).mpr (by clear hM; omega))]
    exact Res.mk (AdOut.zero I A m _ i36)
  | succ d ih =>
    intro k m fuel I A X hM hd hf hm hk i36 x2 x3
    have ht := hM.t.nb
    obtain ⟨g, rfl⟩ : ∃ g, fuel = g + 1 := ⟨fuel - 1, by clear hM; omega⟩
    obtain ⟨c, hc, ec⟩ := hM.t.ch k (by clear hM; omega)
    rw [at_go]
    unfold f_M_addText_2
    rw [x2, x3, if_neg (fun z => by have := (pn_le (a := hi) (b := k) (by clear hM; omega) (by clear hM; omega)).mp z; clear hM; omega), B_char hM (by clear hM; omega)]
    simp only [Option.bind_some]
    rw [ec, B_add i36 (by clear hM; omega) hc]
    simp only [Option.bind_some, pn_succ]
    have hM' : MTxt (upd I 36 (Int32.ofNat (m + 1))) (va_up A 37 (upd (A 37) m (Int32.ofNat c))) tn tx ps := hM.fr (upd_ne _ _ (by decide)) (va_up_ne _ _ (by decide)) (va_up_ne _ _ (by decide))
    refine (ih (k + 1) (m + 1) g _ _ _ hM' (by clear hM hM'; omega) (by clear hM hM'; omega) (by clear hM hM'; omega) (by clear hM hM'; omega) (upd_self _ _ _) (by rw [upd_ne _ _ (by decide)]; exact x2) (upd_self _ _ _)).imp (fun z hz => ?_)
    refine AdOut.step (src := fun j => tx (k + j)) ec ?_
    have e : (fun j => tx (k + 1 + j)) = (fun j => (fun j => tx (k + j)) (j + 1)) := by
      funext j; show tx (k + 1 + j) = tx (k + (j + 1)); rw [show k + 1 + j = k + (j + 1) by omega]
    rw [← e]; exact hz
theorem B_addText {tn lo hi m : Nat} {tx : Nat → Int32} {ps : Nat} {I : MI} {A : MA} (hM : MTxt I A tn tx ps) (hlo : lo ≤ hi) (hhi : hi ≤ tn) (hm : m + (hi - lo) ≤ 4000) (i36 : I 36 = Int32.ofNat m) : Res (f_M_addText I A (Int32.ofNat lo) (Int32.ofNat hi)) (AdOut I A m (hi - lo) (fun j => tx (lo + j))) := by
  have fu := wk_FUEL_big
  have ht := hM.t.nb
  unfold f_M_addText f_M_addText_e
  generalize wk_FUEL = F at fu ⊢
  exact B_addText_go hhi (hi - lo) lo m F I A _ hM rfl (by clear hM; omega) hm (by clear hM; omega) i36 (by rw [upd_ne _ _ (by decide), upd_self]) (upd_self _ _ _)
/-- going to a state -/
theorem B_come {I : MI} {A : MA} {p s : Nat} (i4 : I 4 = Int32.ofNat p) (hp : p < 40) (hs : s < 40) :
    ∃ I' A', f_M_come I A (Int32.ofNat s) = some (0, I', A') ∧ I' 4 = Int32.ofNat s ∧ I' 11 = upd (A 7) p (I 11) s ∧ I' 12 = -1 ∧ I' 10 = I 10 + 1 ∧ (∀ j, j ≠ 4 → j ≠ 11 → j ≠ 12 → j ≠ 10 → I' j = I j) ∧ A' 7 = upd (A 7) p (I 11) ∧ A' 9 = upd (A 9) s (I 10 + 1) ∧ ∀ j, j ≠ 7 → j ≠ 9 → A' j = A j := by
  have ip : wk_inb (Int32.ofNat p) 40 = true := (pn_inb (by omega)).mpr hp
  have is_ : wk_inb (Int32.ofNat s) 40 = true := (pn_inb (by omega)).mpr hs
  obtain ⟨A1, hA1⟩ : ∃ A1, A1 = va_up A 7 (upd (A 7) p (I 11)) := ⟨_, rfl⟩
  obtain ⟨I2, hI2⟩ : ∃ I2, I2 = upd I 4 (Int32.ofNat s) := ⟨_, rfl⟩
  obtain ⟨I3, hI3⟩ : ∃ I3, I3 = upd I2 11 (A1 7 s) := ⟨_, rfl⟩
  obtain ⟨I4, hI4⟩ : ∃ I4, I4 = upd I3 12 (-1) := ⟨_, rfl⟩
  obtain ⟨I5, hI5⟩ : ∃ I5, I5 = upd I4 10 (I4 10 + 1) := ⟨_, rfl⟩
  have e10 : I4 10 = I 10 := by rw [hI4, upd_ne _ _ (by decide), hI3, upd_ne _ _ (by decide), hI2, upd_ne _ _ (by decide)]
  refine ⟨I5, va_up A1 9 (upd (A1 9) s (I5 10)), ?_, ?_, ?_, ?_, ?_, fun j h1 h2 h3 h4 => ?_, ?_, ?_, fun j h1 h2 => ?_⟩
  · unfold f_M_come
    simp only [wk_let, i4, ip, is_, if_true, pn_nat (show p < 2147483648 by omega), pn_nat (show s < 2147483648 by omega)]
    rw [← hA1, ← hI2, ← hI3, ← hI4, ← hI5]
  · rw [hI5, upd_ne _ _ (by decide), hI4, upd_ne _ _ (by decide), hI3, upd_ne _ _ (by decide), hI2, upd_self]
  · rw [hI5, upd_ne _ _ (by decide), hI4, upd_ne _ _ (by decide), hI3, upd_self, hA1, va_up_self]
  · rw [hI5, upd_ne _ _ (by decide), hI4, upd_self]
  · rw [hI5, upd_self, e10]
  · rw [hI5, upd_ne _ _ h4, hI4, upd_ne _ _ h3, hI3, upd_ne _ _ h2, hI2, upd_ne _ _ h1]
  · rw [va_up_ne _ _ (by decide), hA1, va_up_self]
  · rw [va_up_self, hI5, upd_self, e10, hA1, va_up_ne _ _ (by decide)]
  · rw [va_up_ne _ _ h2, hA1, va_up_ne _ _ h1]
theorem ed_go (g : Nat) (I : MI) (A : MA) (X : Nat → Int32) : f_M_edit_go (g + 1) 17 I A X = f_M_edit_17 (f_M_edit_go g) I A X := rfl
/-- the draft becomes the text of a new state -/
theorem B_edit_go {n m : Nat} {I : MI} (hn : n < 40) (hm : m ≤ 160) (i36 : I 36 = Int32.ofNat m) {Q : Int32 × MI × MA → Prop} : ∀ (d k fuel : Nat) (A : MA) (X : Nat → Int32), m - k = d → k ≤ m → d < fuel → X 2 = Int32.ofNat n → X 3 = Int32.ofNat k → (∀ j, j < m → ∃ c, c < 128 ∧ A 37 j = Int32.ofNat c) →
    (∀ A2 : MA, (∀ j, j ≠ 5 → A2 j = A j) → (∀ i, A2 5 i = if 160 * n + k ≤ i ∧ i < 160 * n + m then A 37 (i - 160 * n) else A 5 i) → Res (f_M_come I (va_up (va_up (va_up A2 6 (upd (A2 6) n (Int32.ofNat m))) 7 (upd (A2 7) n (X 1))) 8 (upd (A2 8) n (I 4))) (Int32.ofNat n)) (fun z => Q (0, z.2.1, z.2.2))) →
    Res (f_M_edit_go fuel 17 I A X) Q := by
  have i40 : wk_inb (Int32.ofNat n) 40 = true := (pn_inb (by omega)).mpr hn
  intro d
  induction d with
  | zero =>
    intro k fuel A X hd hk hf x2 x3 hch hQ
    obtain ⟨g, rfl⟩ : ∃ g, fuel = g + 1 := ⟨fuel - 1, by omega⟩
    have hQ' := hQ A (fun _ _ => rfl) (fun i => by rw [if_neg (by omega)])
    rw [ed_go]
    unfold f_M_edit_17
    rw [i36, x3, if_pos ((pn_le (by omega) (by omega)).mpr (by omega)), x2, if_pos i40, pn_nat (show n < 2147483648 by omega)]
    simp only [wk_let, i40, if_true]
    rw [va_up_ne (k := 6) (j := 7) _ _ (by decide), va_up_ne (k := 7) (j := 8) _ _ (by decide), va_up_ne (k := 6) (j := 8) _ _ (by decide)]
    exact hQ'.bind (fun z hz => Res.mk hz)
  | succ d ih =>
    intro k fuel A X hd hk hf x2 x3 hch hQ
    obtain ⟨g, rfl⟩ : ∃ g, fuel = g + 1 := ⟨fuel - 1, by omega⟩
    obtain ⟨c, hc, ec⟩ := hch k (by omega)
    have e : (160 * Int32.ofNat n) + Int32.ofNat k = Int32.ofNat (160 * n + k) := by
      rw [show (160 : Int32) = Int32.ofNat 160 from rfl, pn_mul, pn_add]
    have i64 : wk_inb (Int32.ofNat (160 * n + k)) 6400 = true := (pn_inb (by omega)).mpr (by omega)
    have i4k : wk_inb (Int32.ofNat k) 4000 = true := (pn_inb (by omega)).mpr (by omega)
    rw [ed_go]
    unfold f_M_edit_17
    rw [i36, x3, if_neg (fun z => by have := (pn_le (a := m) (b := k) (by omega) (by omega)).mp z; omega), x2, if_pos i4k, e, if_pos i64, pn_nat (show 160 * n + k < 2147483648 by omega), pn_nat (show k < 2147483648 by omega), ec, nar_ch hc, pn_succ]
    simp only [wk_let]
    refine ih (k + 1) g _ _ (by omega) (by omega) (by omega) (by rw [upd_ne _ _ (by decide)]; exact x2) (upd_self _ _ _) (fun j hj => by rw [va_up_ne _ _ (by decide)]; exact hch j hj) (fun A2 h1 h2 => ?_)
    have hh := hQ A2 (fun j hj => by rw [h1 j hj, va_up_ne _ _ hj]) (fun i => by
      rw [h2 i, va_up_ne _ _ (by decide), va_up_self]
      by_cases q : 160 * n + (k + 1) ≤ i ∧ i < 160 * n + m
      · rw [if_pos q, if_pos (by omega)]
      · rw [if_neg q]
        by_cases e2 : i = 160 * n + k
        · rw [e2, upd_self, if_pos (by omega), show 160 * n + k - 160 * n = k by omega, ec]
        · rw [upd_ne _ _ e2, if_neg (by omega)])
    rw [upd_ne _ _ (by decide)]
    exact hh
-- 61.es
/-- the editor as both sides hold it -/
abbrev ES : Type := (Nat) × (Nat → Nat) × (Nat) × (Nat) × (Nat) × (Option Nat) × (Nat → Nat) × (Nat → Nat → Int32) × (Nat → Nat) × (Nat → Option Nat) × (Nat → Option Nat) × (Bool) × (Nat → (Nat → Int32) → Rl) × (Option Nat)
def ES.sn (r_ : ES) : Nat := r_.1
def ES.sc (r_ : ES) : Nat → Nat := r_.2.1
def ES.n (r_ : ES) : Nat := r_.2.2.1
def ES.p (r_ : ES) : Nat := r_.2.2.2.1
def ES.c (r_ : ES) : Nat := r_.2.2.2.2.1
def ES.mr (r_ : ES) : Option Nat := r_.2.2.2.2.2.1
def ES.tn (r_ : ES) : Nat → Nat := r_.2.2.2.2.2.2.1
def ES.tx (r_ : ES) : Nat → Nat → Int32 := r_.2.2.2.2.2.2.2.1
def ES.pl (r_ : ES) : Nat → Nat := r_.2.2.2.2.2.2.2.2.1
def ES.pa (r_ : ES) : Nat → Option Nat := r_.2.2.2.2.2.2.2.2.2.1
def ES.lc (r_ : ES) : Nat → Option Nat := r_.2.2.2.2.2.2.2.2.2.2.1
def ES.has (r_ : ES) : Bool := r_.2.2.2.2.2.2.2.2.2.2.2.1
def ES.pat (r_ : ES) : Nat → (Nat → Int32) → Rl := r_.2.2.2.2.2.2.2.2.2.2.2.2.1
def ES.fl (r_ : ES) : Option Nat := r_.2.2.2.2.2.2.2.2.2.2.2.2.2
abbrev ES.mk (sn_ : Nat) (sc_ : Nat → Nat) (n_ : Nat) (p_ : Nat) (c_ : Nat) (mr_ : Option Nat) (tn_ : Nat → Nat) (tx_ : Nat → Nat → Int32) (pl_ : Nat → Nat) (pa_ : Nat → Option Nat) (lc_ : Nat → Option Nat) (has_ : Bool) (pat_ : Nat → (Nat → Int32) → Rl) (fl_ : Option Nat) : ES := (sn_, sc_, n_, p_, c_, mr_, tn_, tx_, pl_, pa_, lc_, has_, pat_, fl_)

/-- a number that may be missing -/
def mkI (o : Option Nat) : Int32 := match o with
  | none => -1
  | some v => Int32.ofNat v
abbrev EWf (e : ES) : Prop := (e.sn ≤ 24) ∧ (∀ k, k < e.sn → e.sc k < 128) ∧ (1 ≤ e.n) ∧ (e.n ≤ 40) ∧ (e.p < e.n) ∧ (∀ s, s < e.n → Txt (e.tn s) (e.tx s)) ∧ (e.c ≤ e.tn e.p) ∧ (∀ m, e.mr = some m → m ≤ e.tn e.p) ∧ (∀ s, s < e.n → e.pl s ≤ e.tn s) ∧ (e.pa 0 = none) ∧ (∀ s, 0 < s → s < e.n → ∃ q, e.pa s = some q ∧ q < s) ∧ (∀ s j, s < e.n → e.lc s = some j → j < e.n ∧ e.pa j = some s) ∧ (∀ s, s < e.n → e.lc s = none → ∀ j, j < e.n → e.pa j ≠ some s)
theorem EWf.sb {e : ES} (h_ : EWf e) : e.sn ≤ 24 := h_.1
theorem EWf.sv {e : ES} (h_ : EWf e) : ∀ k, k < e.sn → e.sc k < 128 := h_.2.1
theorem EWf.n1 {e : ES} (h_ : EWf e) : 1 ≤ e.n := h_.2.2.1
theorem EWf.n2 {e : ES} (h_ : EWf e) : e.n ≤ 40 := h_.2.2.2.1
theorem EWf.pb {e : ES} (h_ : EWf e) : e.p < e.n := h_.2.2.2.2.1
theorem EWf.tt {e : ES} (h_ : EWf e) : ∀ s, s < e.n → Txt (e.tn s) (e.tx s) := h_.2.2.2.2.2.1
theorem EWf.cb {e : ES} (h_ : EWf e) : e.c ≤ e.tn e.p := h_.2.2.2.2.2.2.1
theorem EWf.mb {e : ES} (h_ : EWf e) : ∀ m, e.mr = some m → m ≤ e.tn e.p := h_.2.2.2.2.2.2.2.1
theorem EWf.lb {e : ES} (h_ : EWf e) : ∀ s, s < e.n → e.pl s ≤ e.tn s := h_.2.2.2.2.2.2.2.2.1
theorem EWf.p0 {e : ES} (h_ : EWf e) : e.pa 0 = none := h_.2.2.2.2.2.2.2.2.2.1
theorem EWf.ps {e : ES} (h_ : EWf e) : ∀ s, 0 < s → s < e.n → ∃ q, e.pa s = some q ∧ q < s := h_.2.2.2.2.2.2.2.2.2.2.1
theorem EWf.l1 {e : ES} (h_ : EWf e) : ∀ s j, s < e.n → e.lc s = some j → j < e.n ∧ e.pa j = some s := h_.2.2.2.2.2.2.2.2.2.2.2.1
theorem EWf.l0 {e : ES} (h_ : EWf e) : ∀ s, s < e.n → e.lc s = none → ∀ j, j < e.n → e.pa j ≠ some s := h_.2.2.2.2.2.2.2.2.2.2.2.2
/-- the reference holds the editor; its clock, and when each state was come to -/
abbrev MRel (e : ES) (t : Nat) (cf : Nat → Nat) (I : MI) (A : MA) : Prop := (I 1 = Int32.ofNat e.sn) ∧ (∀ k, k < e.sn → A 2 k = Int32.ofNat (e.sc k)) ∧ (I 3 = Int32.ofNat e.n) ∧ (I 4 = Int32.ofNat e.p) ∧ (∀ s, s < e.n → A 6 s = Int32.ofNat (e.tn s)) ∧ (∀ s, s < e.n → ∀ i, i < e.tn s → A 5 (160 * s + i) = e.tx s i) ∧ (I 11 = Int32.ofNat e.c) ∧ (I 12 = mkI e.mr) ∧ (∀ s, s < e.n → A 7 s = Int32.ofNat (e.pl s)) ∧ (∀ s, s < e.n → A 8 s = mkI (e.pa s)) ∧ (I 10 = Int32.ofNat t) ∧ (∀ s, s < e.n → A 9 s = Int32.ofNat (cf s) ∧ cf s ≤ t) ∧ (∀ s j j', s < e.n → e.lc s = some j → j' < e.n → e.pa j' = some s → j' ≠ j → cf j' < cf j) ∧ (I 13 = g_flag e.has) ∧ (I 14 = mkI e.fl) ∧ (∀ k, k < 24 → ∃ c, c < 128 ∧ A 16 k = Int32.ofNat c) ∧ (e.has = true → ∀ tn tx, Txt tn tx → RMean tn tx I A (e.pat tn tx))
theorem MRel.s1 {e : ES} {t : Nat} {cf : Nat → Nat} {I : MI} {A : MA} (h_ : MRel e t cf I A) : I 1 = Int32.ofNat e.sn := h_.1
theorem MRel.s2 {e : ES} {t : Nat} {cf : Nat → Nat} {I : MI} {A : MA} (h_ : MRel e t cf I A) : ∀ k, k < e.sn → A 2 k = Int32.ofNat (e.sc k) := h_.2.1
theorem MRel.hn {e : ES} {t : Nat} {cf : Nat → Nat} {I : MI} {A : MA} (h_ : MRel e t cf I A) : I 3 = Int32.ofNat e.n := h_.2.2.1
theorem MRel.hp {e : ES} {t : Nat} {cf : Nat → Nat} {I : MI} {A : MA} (h_ : MRel e t cf I A) : I 4 = Int32.ofNat e.p := h_.2.2.2.1
theorem MRel.tl {e : ES} {t : Nat} {cf : Nat → Nat} {I : MI} {A : MA} (h_ : MRel e t cf I A) : ∀ s, s < e.n → A 6 s = Int32.ofNat (e.tn s) := h_.2.2.2.2.1
theorem MRel.tc {e : ES} {t : Nat} {cf : Nat → Nat} {I : MI} {A : MA} (h_ : MRel e t cf I A) : ∀ s, s < e.n → ∀ i, i < e.tn s → A 5 (160 * s + i) = e.tx s i := h_.2.2.2.2.2.1
theorem MRel.hc {e : ES} {t : Nat} {cf : Nat → Nat} {I : MI} {A : MA} (h_ : MRel e t cf I A) : I 11 = Int32.ofNat e.c := h_.2.2.2.2.2.2.1
theorem MRel.hm {e : ES} {t : Nat} {cf : Nat → Nat} {I : MI} {A : MA} (h_ : MRel e t cf I A) : I 12 = mkI e.mr := h_.2.2.2.2.2.2.2.1
theorem MRel.hpl {e : ES} {t : Nat} {cf : Nat → Nat} {I : MI} {A : MA} (h_ : MRel e t cf I A) : ∀ s, s < e.n → A 7 s = Int32.ofNat (e.pl s) := h_.2.2.2.2.2.2.2.2.1
theorem MRel.hpa {e : ES} {t : Nat} {cf : Nat → Nat} {I : MI} {A : MA} (h_ : MRel e t cf I A) : ∀ s, s < e.n → A 8 s = mkI (e.pa s) := h_.2.2.2.2.2.2.2.2.2.1
theorem MRel.ck {e : ES} {t : Nat} {cf : Nat → Nat} {I : MI} {A : MA} (h_ : MRel e t cf I A) : I 10 = Int32.ofNat t := h_.2.2.2.2.2.2.2.2.2.2.1
theorem MRel.cm {e : ES} {t : Nat} {cf : Nat → Nat} {I : MI} {A : MA} (h_ : MRel e t cf I A) : ∀ s, s < e.n → A 9 s = Int32.ofNat (cf s) ∧ cf s ≤ t := h_.2.2.2.2.2.2.2.2.2.2.2.1
theorem MRel.cl {e : ES} {t : Nat} {cf : Nat → Nat} {I : MI} {A : MA} (h_ : MRel e t cf I A) : ∀ s j j', s < e.n → e.lc s = some j → j' < e.n → e.pa j' = some s → j' ≠ j → cf j' < cf j := h_.2.2.2.2.2.2.2.2.2.2.2.2.1
theorem MRel.hh {e : ES} {t : Nat} {cf : Nat → Nat} {I : MI} {A : MA} (h_ : MRel e t cf I A) : I 13 = g_flag e.has := h_.2.2.2.2.2.2.2.2.2.2.2.2.2.1
theorem MRel.hf {e : ES} {t : Nat} {cf : Nat → Nat} {I : MI} {A : MA} (h_ : MRel e t cf I A) : I 14 = mkI e.fl := h_.2.2.2.2.2.2.2.2.2.2.2.2.2.2.1
theorem MRel.pv {e : ES} {t : Nat} {cf : Nat → Nat} {I : MI} {A : MA} (h_ : MRel e t cf I A) : ∀ k, k < 24 → ∃ c, c < 128 ∧ A 16 k = Int32.ofNat c := h_.2.2.2.2.2.2.2.2.2.2.2.2.2.2.2.1
theorem MRel.pm {e : ES} {t : Nat} {cf : Nat → Nat} {I : MI} {A : MA} (h_ : MRel e t cf I A) : e.has = true → ∀ tn tx, Txt tn tx → RMean tn tx I A (e.pat tn tx) := h_.2.2.2.2.2.2.2.2.2.2.2.2.2.2.2.2
theorem MRel.txt {e : ES} {t : Nat} {cf : Nat → Nat} {I : MI} {A : MA} (h : MRel e t cf I A) (w : EWf e) : MTxt I A (e.tn e.p) (e.tx e.p) e.p := ⟨h.hp, Nat.lt_of_lt_of_le w.pb w.n2, h.tl _ w.pb, h.tc _ w.pb, w.tt _ w.pb⟩
/-- going to a state -/
def e_come (e : ES) (s : Nat) : ES := (ES.mk e.sn e.sc e.n (s) (sU e.pl e.p e.c s) (none) e.tn e.tx (sU e.pl e.p e.c) e.pa ((match e.pa s with | none => e.lc | some q => sU e.lc q (some s))) e.has e.pat e.fl)
theorem e_come_pl (e : ES) (s : Nat) : (e_come e s).pl = sU e.pl e.p e.c := rfl
theorem e_come_lc0 {e : ES} {s : Nat} (h : e.pa s = none) : (e_come e s).lc = e.lc := by
  show (match e.pa s with | none => e.lc | some q => sU e.lc q (some s)) = e.lc
  rw [h]
theorem e_come_lc1 {e : ES} {s q : Nat} (h : e.pa s = some q) : (e_come e s).lc = sU e.lc q (some s) := by
  show (match e.pa s with | none => e.lc | some q => sU e.lc q (some s)) = sU e.lc q (some s)
  rw [h]
theorem e_pl_le {e : ES} (w : EWf e) {s : Nat} (hs : s < e.n) : sU e.pl e.p e.c s ≤ e.tn s := by
  by_cases q : s = e.p
  · rw [q, sU_self]; exact w.cb
  · rw [sU_ne _ _ q]; exact w.lb s hs
theorem EWf.come {e : ES} (w : EWf e) {s : Nat} (hs : s < e.n) : EWf (e_come e s) := by
  refine ⟨w.sb, w.sv, w.n1, w.n2, hs, w.tt, e_pl_le w hs, (fun m hm => by cases hm), fun i hi => e_pl_le w hi, w.p0, w.ps, fun i j hi hj => ?_, fun i hi h0 j hj => ?_⟩
  · cases hp : e.pa s with
    | none => rw [e_come_lc0 hp] at hj; exact w.l1 i j hi hj
    | some q =>
      rw [e_come_lc1 hp] at hj
      by_cases z : i = q
      · rw [z, sU_self] at hj; cases hj; rw [z]; exact ⟨hs, hp⟩
      · rw [sU_ne _ _ z] at hj; exact w.l1 i j hi hj
  · cases hp : e.pa s with
    | none => rw [e_come_lc0 hp] at h0; exact w.l0 i hi h0 j hj
    | some q =>
      rw [e_come_lc1 hp] at h0
      by_cases z : i = q
      · rw [z, sU_self] at h0; cases h0
      · rw [sU_ne _ _ z] at h0; exact w.l0 i hi h0 j hj
theorem ofsU {f : Nat → Int32} {g : Nat → Nat} {k u v : Nat} {x : Int32} (hx : x = Int32.ofNat v) (h : u ≠ k → f u = Int32.ofNat (g u)) : upd f k x u = Int32.ofNat (sU g k v u) := by
  by_cases q : u = k
  · rw [q, upd_self, sU_self]; exact hx
  · rw [upd_ne _ _ q, sU_ne _ _ q]; exact h q
theorem MRel.come {e : ES} {t : Nat} {cf : Nat → Nat} {I : MI} {A : MA} (h : MRel e t cf I A) (w : EWf e) {s : Nat} (hs : s < e.n) :
    ∃ I' A', f_M_come I A (Int32.ofNat s) = some (0, I', A') ∧ MRel (e_come e s) (t + 1) (sU cf s (t + 1)) I' A' ∧ I' 0 = I 0 := by
  have hn2 := w.n2
  have hpb := w.pb
  obtain ⟨I', A', e0, e4, e11, e12, e10, ei, e7, e9, ea⟩ := B_come h.hp (show e.p < 40 by clear h w; omega) (show s < 40 by clear h w; omega)
  have ck : I 10 + 1 = Int32.ofNat (t + 1) := by rw [h.ck]; exact pn_succ _
  refine ⟨I', A', e0, ⟨?_, ?_, ?_, e4, ?_, ?_, ?_, e12, ?_, ?_, ?_, ?_, ?_, ?_, ?_, ?_, ?_⟩, ei 0 (by decide) (by decide) (by decide) (by decide)⟩
  · rw [ei 1 (by decide) (by decide) (by decide) (by decide)]; exact h.s1
  · rw [ea 2 (by decide) (by decide)]; exact h.s2
  · rw [ei 3 (by decide) (by decide) (by decide) (by decide)]; exact h.hn
  · rw [ea 6 (by decide) (by decide)]; exact h.tl
  · rw [ea 5 (by decide) (by decide)]; exact h.tc
  · rw [e11]; exact ofsU h.hc (fun _ => h.hpl s hs)
  · intro i hi; rw [e7]; exact ofsU h.hc (fun _ => h.hpl i hi)
  · rw [ea 8 (by decide) (by decide)]; exact h.hpa
  · rw [e10]; exact ck
  · intro i hi
    rw [e9]
    refine ⟨ofsU ck (fun _ => (h.cm i hi).1), ?_⟩
    by_cases q : i = s
    · rw [q, sU_self]; exact Nat.le_refl _
    · rw [sU_ne _ _ q]; exact Nat.le_succ_of_le (h.cm i hi).2
  · intro i j j' hi hj hj' hp hne
    have old : e.lc i = some j → i < e.n → (∀ q, e.pa s = some q → i ≠ q) → sU cf s (t + 1) j' < sU cf s (t + 1) j := by
      intro hl hi' hq
      have hjn := w.l1 i j hi' hl
      have n1 : j' ≠ s := fun z => hq i (by rw [← z]; exact hp) rfl
      have n2 : j ≠ s := fun z => hq i (by rw [← z]; exact hjn.2) rfl
      rw [sU_ne _ _ n1, sU_ne _ _ n2]
      exact h.cl i j j' hi' hl hj' hp hne
    cases hps : e.pa s with
    | none =>
      rw [e_come_lc0 hps] at hj
      exact old hj hi (fun q hq => by rw [hps] at hq; cases hq)
    | some q =>
      rw [e_come_lc1 hps] at hj
      by_cases z : i = q
      · rw [z, sU_self] at hj
        cases hj
        rw [sU_ne _ _ hne, sU_self]
        have := (h.cm j' hj').2
        exact Nat.lt_succ_of_le this
      · rw [sU_ne _ _ z] at hj
        exact old hj hi (fun q' hq' => by rw [hps] at hq'; cases hq'; exact z)
  · rw [ei 13 (by decide) (by decide) (by decide) (by decide)]; exact h.hh
  · rw [ei 14 (by decide) (by decide) (by decide) (by decide)]; exact h.hf
  · rw [ea 16 (by decide) (by decide)]; exact h.pv
  · intro hhas tn tx hT
    exact (h.pm hhas tn tx hT).frame (ei 17 (by decide) (by decide) (by decide) (by decide)) (ei 23 (by decide) (by decide) (by decide) (by decide)) (ei 24 (by decide) (by decide) (by decide) (by decide)) (fun j h1 h2 => ea j (by clear h w; omega) (by clear h w; omega))
/-- a new state, made from the present one -/
def e_new (e : ES) (tl : Nat) (tf : Nat → Int32) (place : Nat) : ES := (ES.mk e.sn e.sc (e.n + 1) e.p e.c e.mr (sU e.tn e.n tl) (sU e.tx e.n tf) (sU e.pl e.n place) (sU e.pa e.n (some e.p)) (sU (sU e.lc e.n none) e.p (some e.n)) e.has e.pat e.fl)
def e_edit (e : ES) (tl : Nat) (tf : Nat → Int32) (place : Nat) : ES := e_come (e_new e tl tf place) e.n
theorem EWf.new {e : ES} (w : EWf e) {tl : Nat} {tf : Nat → Int32} {place : Nat} (hn : e.n < 40) (hT : Txt tl tf) (hp : place ≤ tl) : EWf (e_new e tl tf place) := by
  have hpb := w.pb
  have hn1 := w.n1
  have lt : ∀ s, s < (e_new e tl tf place).n → s ≠ e.n → s < e.n := fun s h1 h2 => by have : s < e.n + 1 := h1; clear w hT; omega
  have pne : e.p ≠ e.n := by clear w hT; omega
  have tnp : (e_new e tl tf place).tn e.p = e.tn e.p := sU_ne _ _ pne
  refine ⟨w.sb, w.sv, by show 1 ≤ e.n + 1; clear w hT; omega, hn, by show e.p < e.n + 1; clear w hT; omega, fun s hs => ?_, ?_, fun m hm => ?_, fun s hs => ?_, ?_, fun s h0 hs => ?_, fun s j hs hj => ?_, fun s hs h0 j hj => ?_⟩
  · show Txt (sU e.tn e.n tl s) (sU e.tx e.n tf s)
    by_cases q : s = e.n
    · rw [q, sU_self, sU_self]; exact hT
    · rw [sU_ne _ _ q, sU_ne _ _ q]; exact w.tt s (lt s hs q)
  · show e.c ≤ (e_new e tl tf place).tn e.p
    rw [tnp]; exact w.cb
  · show m ≤ (e_new e tl tf place).tn e.p
    rw [tnp]; exact w.mb m hm
  · show sU e.pl e.n place s ≤ sU e.tn e.n tl s
    by_cases q : s = e.n
    · rw [q, sU_self, sU_self]; exact hp
    · rw [sU_ne _ _ q, sU_ne _ _ q]; exact w.lb s (lt s hs q)
  · show sU e.pa e.n (some e.p) 0 = none
    rw [sU_ne _ _ (by clear w hT; omega)]; exact w.p0
  · show ∃ q, sU e.pa e.n (some e.p) s = some q ∧ q < s
    by_cases q : s = e.n
    · rw [q, sU_self]; exact ⟨e.p, rfl, hpb⟩
    · rw [sU_ne _ _ q]; exact w.ps s h0 (lt s hs q)
  · have hj' : sU (sU e.lc e.n none) e.p (some e.n) s = some j := hj
    by_cases qp : s = e.p
    · rw [qp, sU_self] at hj'
      cases hj'
      refine ⟨by show e.n < e.n + 1; clear w hT; omega, ?_⟩
      show sU e.pa e.n (some e.p) e.n = some s
      rw [sU_self, qp]
    · rw [sU_ne _ _ qp] at hj'
      by_cases q : s = e.n
      · rw [q, sU_self] at hj'; cases hj'
      · rw [sU_ne _ _ q] at hj'
        obtain ⟨a, b⟩ := w.l1 s j (lt s hs q) hj'
        refine ⟨by show j < e.n + 1; clear w hT; omega, ?_⟩
        show sU e.pa e.n (some e.p) j = some s
        rw [sU_ne _ _ (by clear w hT; omega)]; exact b
  · have h0' : sU (sU e.lc e.n none) e.p (some e.n) s = none := h0
    show sU e.pa e.n (some e.p) j ≠ some s
    by_cases qp : s = e.p
    · rw [qp, sU_self] at h0'; cases h0'
    · rw [sU_ne _ _ qp] at h0'
      by_cases qj : j = e.n
      · rw [qj, sU_self]; intro z; cases z; exact qp rfl
      · rw [sU_ne _ _ qj]
        by_cases q : s = e.n
        · intro z
          have hjn := lt j hj qj
          by_cases j0 : j = 0
          · rw [j0, w.p0] at z; cases z
          · obtain ⟨q', hq', hlt⟩ := w.ps j (by clear w hT; omega) hjn
            rw [hq'] at z; cases z; clear w hT; omega
        · rw [sU_ne _ _ q] at h0'
          exact w.l0 s (lt s hs q) h0' j (lt j hj qj)
theorem EWf.edit {e : ES} (w : EWf e) {tl : Nat} {tf : Nat → Int32} {place : Nat} (hn : e.n < 40) (hT : Txt tl tf) (hp : place ≤ tl) : EWf (e_edit e tl tf place) := (w.new hn hT hp).come (Nat.lt_succ_self _)
theorem MRel.edit {e : ES} {t : Nat} {cf : Nat → Nat} {I : MI} {A : MA} (h : MRel e t cf I A) (w : EWf e) {m : Nat} {tf : Nat → Int32} {place : Nat} (hn : e.n < 40) (i36 : I 36 = Int32.ofNat m) (hd : ∀ k, k < m → A 37 k = tf k) (hT : Txt m tf) :
    Res (f_M_edit I A (Int32.ofNat place)) (fun z => MRel (e_edit e m tf place) (t + 1) (sU cf e.n (t + 1)) z.2.1 z.2.2 ∧ z.2.1 0 = I 0) := by
  have fu := wk_FUEL_big
  have hm := hT.nb
  have hpb := w.pb
  have hn1 := w.n1
  have pne : e.p ≠ e.n := by clear h w hT; omega
  have lt : ∀ s, s < (e_edit e m tf place).n → s ≠ e.n → s < e.n := fun s h1 h2 => by have : s < e.n + 1 := h1; clear h w hT; omega
  unfold f_M_edit f_M_edit_e
  generalize wk_FUEL = F at fu ⊢
  simp only [wk_let, h.hn, pn_succ]
  obtain ⟨I1, hI1⟩ : ∃ I1, I1 = upd I 3 (Int32.ofNat (e.n + 1)) := ⟨_, rfl⟩
  have io : ∀ j, j ≠ 3 → I1 j = I j := fun j hj => by rw [hI1, upd_ne _ _ hj]
  rw [← hI1]
  refine B_edit_go hn hm (by rw [io 36 (by decide)]; exact i36) m 0 F A _ rfl (by clear h w hT; omega) (by clear h w hT; omega) (by rw [upd_ne _ _ (by decide), upd_self]) (upd_self _ _ _) (fun j hj => by obtain ⟨c, hc, ec⟩ := hT.ch j hj; exact ⟨c, hc, by rw [hd j hj]; exact ec⟩) (fun A2 h1 h2 => ?_)
  have x1 : upd (upd (upd (fun _ => (0 : Int32)) 1 (Int32.ofNat place)) 2 (Int32.ofNat e.n)) 3 0 1 = Int32.ofNat place := by rw [upd_ne _ _ (by decide), upd_ne _ _ (by decide), upd_self]
  rw [x1]
  obtain ⟨A3, hA3⟩ : ∃ A3, A3 = va_up (va_up (va_up A2 6 (upd (A2 6) e.n (Int32.ofNat m))) 7 (upd (A2 7) e.n (Int32.ofNat place))) 8 (upd (A2 8) e.n (I1 4)) := ⟨_, rfl⟩
  have b6 : A3 6 = upd (A 6) e.n (Int32.ofNat m) := by rw [hA3, va_up_ne _ _ (by decide), va_up_ne _ _ (by decide), va_up_self, h1 6 (by decide)]
  have b7 : A3 7 = upd (A 7) e.n (Int32.ofNat place) := by rw [hA3, va_up_ne _ _ (by decide), va_up_self, h1 7 (by decide)]
  have b8 : A3 8 = upd (A 8) e.n (Int32.ofNat e.p) := by rw [hA3, va_up_self, h1 8 (by decide), io 4 (by decide), h.hp]
  have b5 : A3 5 = A2 5 := by rw [hA3, va_up_ne _ _ (by decide), va_up_ne _ _ (by decide), va_up_ne _ _ (by decide)]
  have bo : ∀ j, j ≠ 5 → j ≠ 6 → j ≠ 7 → j ≠ 8 → A3 j = A j := fun j q5 q6 q7 q8 => by rw [hA3, va_up_ne _ _ q8, va_up_ne _ _ q7, va_up_ne _ _ q6, h1 j q5]
  rw [← hA3]
  obtain ⟨I', A', e0, e4, e11, e12, e10, ei, e7, e9, ea⟩ := B_come (I := I1) (A := A3) (s := e.n) (by rw [io 4 (by decide)]; exact h.hp) (show e.p < 40 by clear h w hT; omega) hn
  have ck : I1 10 + 1 = Int32.ofNat (t + 1) := by rw [io 10 (by decide), h.ck]; exact pn_succ _
  have c11 : I1 11 = Int32.ofNat e.c := by rw [io 11 (by decide)]; exact h.hc
  have epl : (e_edit e m tf place).pl = sU (sU e.pl e.n place) e.p e.c := rfl
  have elc : (e_edit e m tf place).lc = sU (sU (sU e.lc e.n none) e.p (some e.n)) e.p (some e.n) := e_come_lc1 (sU_self _ _ _)
  suffices key : MRel (e_edit e m tf place) (t + 1) (sU cf e.n (t + 1)) I' A' ∧ I' 0 = I 0 from ⟨_, e0, key⟩
  refine ⟨⟨?_, ?_, ?_, e4, ?_, ?_, ?_, e12, ?_, ?_, ?_, ?_, ?_, ?_, ?_, ?_, ?_⟩, ?_⟩
  · rw [ei 1 (by decide) (by decide) (by decide) (by decide), io 1 (by decide)]; exact h.s1
  · rw [ea 2 (by decide) (by decide), bo 2 (by decide) (by decide) (by decide) (by decide)]; exact h.s2
  · rw [ei 3 (by decide) (by decide) (by decide) (by decide), hI1, upd_self]; rfl
  · intro s hs
    rw [ea 6 (by decide) (by decide), b6]
    exact ofsU rfl (fun q => h.tl s (lt s hs q))
  · intro s hs i hi
    have hi' : i < sU e.tn e.n m s := hi
    show A' 5 (160 * s + i) = sU e.tx e.n tf s i
    rw [ea 5 (by decide) (by decide), b5, h2]
    by_cases q : s = e.n
    · rw [q, sU_self] at hi'
      rw [q, sU_self, if_pos (by clear h w hT; omega), show 160 * e.n + i - 160 * e.n = i by clear h w hT; omega, hd i hi']
    · rw [sU_ne _ _ q] at hi'
      have hsn := lt s hs q
      have h160 := (w.tt s hsn).nb
      rw [sU_ne _ _ q, if_neg (by clear h w hT; omega)]
      exact h.tc s hsn i hi'
  · rw [e11, b7]
    show _ = Int32.ofNat ((e_edit e m tf place).pl e.n)
    rw [epl]
    exact ofsU c11 (fun _ => ofsU rfl (fun q => (q rfl).elim))
  · intro s hs
    rw [e7, b7, epl]
    exact ofsU c11 (fun _ => ofsU rfl (fun q => h.hpl s (lt s hs q)))
  · intro s hs
    rw [ea 8 (by decide) (by decide), b8]
    show _ = mkI (sU e.pa e.n (some e.p) s)
    by_cases q : s = e.n
    · rw [q, upd_self, sU_self]; rfl
    · rw [upd_ne _ _ q, sU_ne _ _ q]; exact h.hpa s (lt s hs q)
  · rw [e10]; exact ck
  · intro s hs
    rw [e9]
    refine ⟨ofsU ck (fun q => by rw [bo 9 (by decide) (by decide) (by decide) (by decide)]; exact (h.cm s (lt s hs q)).1), ?_⟩
    by_cases q : s = e.n
    · rw [q, sU_self]; exact Nat.le_refl _
    · rw [sU_ne _ _ q]; exact Nat.le_succ_of_le (h.cm s (lt s hs q)).2
  · intro s j j' hs hj hj' hp hne
    rw [elc] at hj
    have hp' : sU e.pa e.n (some e.p) j' = some s := hp
    by_cases qp : s = e.p
    · rw [qp, sU_self] at hj
      cases hj
      rw [sU_ne _ _ hne, sU_self]
      exact Nat.lt_succ_of_le (h.cm j' (lt j' hj' hne)).2
    · rw [sU_ne _ _ qp, sU_ne _ _ qp] at hj
      by_cases q : s = e.n
      · rw [q, sU_self] at hj; cases hj
      · rw [sU_ne _ _ q] at hj
        have hjn := w.l1 s j (lt s hs q) hj
        have n1 : j ≠ e.n := by clear h w hT; omega
        have n2 : j' ≠ e.n := fun z => by rw [z, sU_self] at hp'; cases hp'; exact qp rfl
        rw [sU_ne _ _ n2] at hp'
        rw [sU_ne _ _ n1, sU_ne _ _ n2]
        exact h.cl s j j' (lt s hs q) hj (lt j' hj' n2) hp' hne
  · rw [ei 13 (by decide) (by decide) (by decide) (by decide), io 13 (by decide)]; exact h.hh
  · rw [ei 14 (by decide) (by decide) (by decide) (by decide), io 14 (by decide)]; exact h.hf
  · rw [ea 16 (by decide) (by decide), bo 16 (by decide) (by decide) (by decide) (by decide)]; exact h.pv
  · intro hhas tn tx hT'
    exact (h.pm hhas tn tx hT').frame (by rw [ei 17 (by decide) (by decide) (by decide) (by decide), io 17 (by decide)]) (by rw [ei 23 (by decide) (by decide) (by decide) (by decide), io 23 (by decide)]) (by rw [ei 24 (by decide) (by decide) (by decide) (by decide), io 24 (by decide)]) (fun j q1 q2 => by rw [ea j (by clear h w hT hT'; omega) (by clear h w hT hT'; omega), bo j (by clear h w hT hT'; omega) (by clear h w hT hT'; omega) (by clear h w hT hT'; omega) (by clear h w hT hT'; omega)])
  · show I' 0 = I 0
    rw [ei 0 (by decide) (by decide) (by decide) (by decide), io 0 (by decide)]
-- 62.mop
theorem MRel.fr {e : ES} {t : Nat} {cf : Nat → Nat} {I I' : MI} {A A' : MA} (h : MRel e t cf I A) (hi : ∀ j, j ≠ 0 → j ≠ 15 → j ≠ 34 → j ≠ 35 → j ≠ 36 → I' j = I j) (ha : ∀ j, j ≠ 32 → j ≠ 33 → j ≠ 37 → A' j = A j) : MRel e t cf I' A' := by
  refine ⟨?_, ?_, ?_, ?_, ?_, ?_, ?_, ?_, ?_, ?_, ?_, ?_, h.cl, ?_, ?_, ?_, ?_⟩
  · rw [hi 1 (by decide) (by decide) (by decide) (by decide) (by decide)]; exact h.s1
  · rw [ha 2 (by decide) (by decide) (by decide)]; exact h.s2
  · rw [hi 3 (by decide) (by decide) (by decide) (by decide) (by decide)]; exact h.hn
  · rw [hi 4 (by decide) (by decide) (by decide) (by decide) (by decide)]; exact h.hp
  · rw [ha 6 (by decide) (by decide) (by decide)]; exact h.tl
  · rw [ha 5 (by decide) (by decide) (by decide)]; exact h.tc
  · rw [hi 11 (by decide) (by decide) (by decide) (by decide) (by decide)]; exact h.hc
  · rw [hi 12 (by decide) (by decide) (by decide) (by decide) (by decide)]; exact h.hm
  · rw [ha 7 (by decide) (by decide) (by decide)]; exact h.hpl
  · rw [ha 8 (by decide) (by decide) (by decide)]; exact h.hpa
  · rw [hi 10 (by decide) (by decide) (by decide) (by decide) (by decide)]; exact h.ck
  · rw [ha 9 (by decide) (by decide) (by decide)]; exact h.cm
  · rw [hi 13 (by decide) (by decide) (by decide) (by decide) (by decide)]; exact h.hh
  · rw [hi 14 (by decide) (by decide) (by decide) (by decide) (by decide)]; exact h.hf
  · rw [ha 16 (by decide) (by decide) (by decide)]; exact h.pv
  · intro hhas tn tx hT
    exact (h.pm hhas tn tx hT).frame (hi 17 (by decide) (by decide) (by decide) (by decide) (by decide)) (hi 23 (by decide) (by decide) (by decide) (by decide) (by decide)) (hi 24 (by decide) (by decide) (by decide) (by decide) (by decide)) (fun j h1 h2 => ha j (by omega) (by omega) (by omega))
theorem MRel.i0 {e : ES} {t : Nat} {cf : Nat → Nat} {I : MI} {A : MA} (h : MRel e t cf I A) (x : Int32) : MRel e t cf (upd I 0 x) A := h.fr (fun j h0 _ _ _ _ => upd_ne _ _ h0) (fun _ _ _ _ => rfl)
/-- the slip has another length -/
def e_sn (e : ES) (k : Nat) : ES := (ES.mk (k) e.sc e.n e.p e.c e.mr e.tn e.tx e.pl e.pa e.lc e.has e.pat e.fl)
theorem MRel.sn0 {e : ES} {t : Nat} {cf : Nat → Nat} {I : MI} {A : MA} (h : MRel e t cf I A) : MRel (e_sn e 0) t cf (upd I 1 0) A := by
  refine ⟨upd_self _ _ _, fun k hk => absurd hk (Nat.not_lt_zero _), ?_, ?_, h.tl, h.tc, ?_, ?_, h.hpl, h.hpa, ?_, h.cm, h.cl, ?_, ?_, h.pv, ?_⟩
  · rw [upd_ne _ _ (by decide)]; exact h.hn
  · rw [upd_ne _ _ (by decide)]; exact h.hp
  · rw [upd_ne _ _ (by decide)]; exact h.hc
  · rw [upd_ne _ _ (by decide)]; exact h.hm
  · rw [upd_ne _ _ (by decide)]; exact h.ck
  · rw [upd_ne _ _ (by decide)]; exact h.hh
  · rw [upd_ne _ _ (by decide)]; exact h.hf
  · intro hhas tn tx hT
    exact (h.pm hhas tn tx hT).frame (upd_ne _ _ (by decide)) (upd_ne _ _ (by decide)) (upd_ne _ _ (by decide)) (fun _ _ _ => rfl)
theorem EWf.sn0 {e : ES} (w : EWf e) : EWf (e_sn e 0) := ⟨Nat.zero_le _, fun k hk => absurd hk (Nat.not_lt_zero _), w.n1, w.n2, w.pb, w.tt, w.cb, w.mb, w.lb, w.p0, w.ps, w.l1, w.l0⟩
theorem B_wipe {e : ES} {t : Nat} {cf : Nat → Nat} {I : MI} {A : MA} (h : MRel e t cf I A) : Res (f_M_wipe I A) (fun z => z.1 = Int32.ofNat e.sn ∧ MRel (e_sn e 0) t cf z.2.1 z.2.2) := by
  unfold f_M_wipe
  simp only [wk_let]
  exact Res.mk ⟨by show upd I 0 0 1 = _; rw [upd_ne _ _ (by decide)]; exact h.s1, (h.i0 0).sn0⟩
/-- a character may be typed -/
def okCh (c : Int32) : Bool := decide (c = 10) || (!decide (c < 32) && !decide (126 < c))
def e_typ (e : ES) (c : Int32) : ES := if okCh c = true ∧ e.sn ≠ 24 then (ES.mk (e.sn + 1) (sU e.sc e.sn c.toNatClampNeg) e.n e.p e.c e.mr e.tn e.tx e.pl e.pa e.lc e.has e.pat e.fl) else e
theorem okCh_lt {c : Int32} (h : okCh c = true) : Int32.ofNat c.toNatClampNeg = c ∧ c.toNatClampNeg < 128 := by
  unfold okCh at h
  rw [Bool.or_eq_true, Bool.and_eq_true] at h
  rcases h with h | ⟨h1, h2⟩
  · rw [of_decide_eq_true h]; exact ⟨rfl, by decide⟩
  · have a : ¬ c < 32 := by simpa using h1
    have b : ¬ 126 < c := by simpa using h2
    rw [Int32.lt_iff_toInt_lt] at a b
    have a32 : (32 : Int32).toInt = 32 := by decide
    have b126 : (126 : Int32).toInt = 126 := by decide
    rw [a32] at a
    rw [b126] at b
    have hnn : ¬ c < 0 := by rw [Int32.lt_iff_toInt_lt, Int32.toInt_zero]; omega
    refine ⟨pn_ofclamp hnn, ?_⟩
    have : c.toNatClampNeg = c.toInt.toNat := rfl
    omega
theorem B_isCh (c : Int32) : f_M_isCharacter c = some (g_flag (okCh c)) := by
  have y : ∀ X : Nat → Int32, f_M_isCharacter_18 X = some 1 := fun X => by simp only [f_M_isCharacter_18, f_M_isCharacter_23, nar_bool1, if_true]
  have n : ∀ X : Nat → Int32, f_M_isCharacter_22 X = some 0 := fun X => by simp only [f_M_isCharacter_22, f_M_isCharacter_23, nar_bool0, if_true]
  unfold okCh f_M_isCharacter
  by_cases q : c = 10
  · rw [if_pos q, y, decide_eq_true q, Bool.true_or]; rfl
  · rw [if_neg q, decide_eq_false q, Bool.false_or]
    by_cases q1 : c < 32
    · rw [if_pos q1, n, decide_eq_true q1]; rfl
    · rw [if_neg q1, decide_eq_false q1]
      by_cases q2 : 126 < c
      · rw [if_pos q2, n, decide_eq_true q2]; rfl
      · rw [if_neg q2, y, decide_eq_false q2]; rfl
theorem MRel.sn1 {e : ES} {t : Nat} {cf : Nat → Nat} {I : MI} {A : MA} (h : MRel e t cf I A) (v : Nat) : MRel (ES.mk (e.sn + 1) (sU e.sc e.sn v) e.n e.p e.c e.mr e.tn e.tx e.pl e.pa e.lc e.has e.pat e.fl) t cf (upd I 1 (Int32.ofNat (e.sn + 1))) (va_up A 2 (upd (A 2) e.sn (Int32.ofNat v))) := by
  refine ⟨upd_self _ _ _, fun k hk => ?_, ?_, ?_, ?_, ?_, ?_, ?_, ?_, ?_, ?_, ?_, h.cl, ?_, ?_, ?_, ?_⟩
  · rw [va_up_self]
    refine ofsU rfl (fun q => h.s2 k ?_)
    have : k < e.sn + 1 := hk
    clear h; omega
  · rw [upd_ne _ _ (by decide)]; exact h.hn
  · rw [upd_ne _ _ (by decide)]; exact h.hp
  · rw [va_up_ne _ _ (by decide)]; exact h.tl
  · rw [va_up_ne _ _ (by decide)]; exact h.tc
  · rw [upd_ne _ _ (by decide)]; exact h.hc
  · rw [upd_ne _ _ (by decide)]; exact h.hm
  · rw [va_up_ne _ _ (by decide)]; exact h.hpl
  · rw [va_up_ne _ _ (by decide)]; exact h.hpa
  · rw [upd_ne _ _ (by decide)]; exact h.ck
  · rw [va_up_ne _ _ (by decide)]; exact h.cm
  · rw [upd_ne _ _ (by decide)]; exact h.hh
  · rw [upd_ne _ _ (by decide)]; exact h.hf
  · rw [va_up_ne _ _ (by decide)]; exact h.pv
  · intro hhas tn tx hT
    exact (h.pm hhas tn tx hT).frame (upd_ne _ _ (by decide)) (upd_ne _ _ (by decide)) (upd_ne _ _ (by decide)) (fun j h1 h2 => va_up_ne _ _ (by omega))
theorem EWf.typ {e : ES} (w : EWf e) (c : Int32) : EWf (e_typ e c) := by
  unfold e_typ
  by_cases q : okCh c = true ∧ e.sn ≠ 24
  · rw [if_pos q]
    have hsb := w.sb
    refine ⟨by show e.sn + 1 ≤ 24; clear w; omega, fun k hk => ?_, w.n1, w.n2, w.pb, w.tt, w.cb, w.mb, w.lb, w.p0, w.ps, w.l1, w.l0⟩
    show sU e.sc e.sn c.toNatClampNeg k < 128
    by_cases z : k = e.sn
    · rw [z, sU_self]; exact (okCh_lt q.1).2
    · rw [sU_ne _ _ z]; exact w.sv k (by have : k < e.sn + 1 := hk; clear w; omega)
  · rw [if_neg q]; exact w
theorem B_type {e : ES} {t : Nat} {cf : Nat → Nat} {I : MI} {A : MA} (h : MRel e t cf I A) (w : EWf e) (c : Int32) : Res (f_M_type I A c) (fun z => z.1 = g_flag (decide (okCh c = true ∧ e.sn ≠ 24)) ∧ MRel (e_typ e c) t cf z.2.1 z.2.2) := by
  have hsb := w.sb
  have i1 : upd I 0 0 1 = Int32.ofNat e.sn := by rw [upd_ne _ _ (by decide)]; exact h.s1
  have h10 : ¬ (1 : Int32) = 0 := by decide
  unfold f_M_type e_typ
  simp only [wk_let, B_isCh, Option.bind_some, i1, f_M_type_21]
  by_cases q : okCh c = true
  · rw [if_neg ((g_flag_ne _).mpr q)]
    by_cases q2 : e.sn = 24
    · rw [if_pos ((pn_eqc (x := 24) 24 rfl (by clear h w; omega) (by omega)).mpr q2), if_neg (fun z => z.2 q2), decide_eq_false (fun z => z.2 q2)]
      exact Res.mk ⟨rfl, h.i0 0⟩
    · obtain ⟨ec, hc⟩ := okCh_lt q
      have en : vp_nar .char c = Int32.ofNat c.toNatClampNeg := by
        have := nar_ch hc
        rw [ec] at this ⊢; exact this
      rw [if_neg (fun z => q2 ((pn_eqc (x := 24) 24 rfl (by clear h w; omega) (by omega)).mp z)), if_pos (pn_i24 (show e.sn < 24 by clear h w; omega)), if_pos ⟨q, q2⟩, decide_eq_true ⟨q, q2⟩, pn_nat (show e.sn < 2147483648 by clear h w; omega), en, pn_succ]
      exact Res.mk ⟨rfl, (h.i0 0).sn1 c.toNatClampNeg⟩
  · rw [if_pos (by rw [Bool.not_eq_true] at q; rw [q]; rfl), if_neg (fun z => q z.1), decide_eq_false (fun z => q z.1)]
    exact Res.mk ⟨rfl, h.i0 0⟩
/-- undo, redo, jump -/
theorem B_undo {e : ES} {t : Nat} {cf : Nat → Nat} {I : MI} {A : MA} (h : MRel e t cf I A) (w : EWf e) : Res (f_M_undo I A) (fun z => match e.pa e.p with
    | none => z.2.1 0 = 1 ∧ MRel e t cf z.2.1 z.2.2
    | some q => z.2.1 0 = 0 ∧ z.1 = Int32.ofNat q ∧ MRel (e_come e q) (t + 1) (sU cf q (t + 1)) z.2.1 z.2.2) := by
  have hpb := w.pb
  have hn2 := w.n2
  have h10 : ¬ (1 : Int32) = 0 := by decide
  unfold f_M_undo
  rw [h.hp]
  by_cases q0 : e.p = 0
  · have hp : e.pa e.p = none := by rw [q0]; exact w.p0
    rw [if_pos ((pn_eqc (x := 0) 0 rfl (by clear h w; omega) (by omega)).mpr q0), hp]
    unfold f_M_undo_13 f_M_undo_36 f_M_undo_51
    simp only [wk_let, upd_self, if_neg h10]
    exact Res.mk ⟨upd_self I 0 1, h.i0 1⟩
  · obtain ⟨q, hq, hlt⟩ := w.ps e.p (by clear h w; omega) hpb
    rw [if_neg (fun z => q0 ((pn_eqc (x := 0) 0 rfl (by clear h w; omega) (by omega)).mp z)), hq]
    have i40 : wk_inb (Int32.ofNat e.p) 40 = true := (pn_inb (by clear h w; omega)).mpr (by clear h w; omega)
    have i4 : upd I 0 0 4 = Int32.ofNat e.p := by rw [upd_ne _ _ (by decide)]; exact h.hp
    have e8 : A 8 e.p = Int32.ofNat q := by rw [h.hpa _ hpb, hq]; rfl
    unfold f_M_undo_13
    simp only [wk_let, upd_self, if_true, i4, i40, pn_nat (show e.p < 2147483648 by clear h w; omega), e8]
    obtain ⟨I', A', e0, hr, h0⟩ := (h.i0 0).come w (show q < e.n by clear h w; omega)
    rw [e0]
    have h0' : I' 0 = 0 := by rw [h0]; exact upd_self _ _ _
    simp only [Option.bind_some, f_M_undo_36, f_M_undo_51, h0', if_true]
    exact Res.mk ⟨h0', hr.hp, hr⟩
theorem B_jump {e : ES} {t : Nat} {cf : Nat → Nat} {I : MI} {A : MA} (h : MRel e t cf I A) (w : EWf e) (k : Int32) : Res (f_M_jump I A k) (fun z => (k < 0 ∨ ¬ k < Int32.ofNat e.n → z.2.1 0 = 1 ∧ MRel e t cf z.2.1 z.2.2) ∧ (∀ s, s < e.n → k = Int32.ofNat s → z.2.1 0 = 0 ∧ MRel (e_come e s) (t + 1) (sU cf s (t + 1)) z.2.1 z.2.2)) := by
  have hn2 := w.n2
  have h10 : ¬ (1 : Int32) = 0 := by decide
  have bad : (k < 0 ∨ ¬ k < Int32.ofNat e.n) → Res (f_M_jump_13 I A (upd (fun _ => 0) 1 k)) (fun z => (k < 0 ∨ ¬ k < Int32.ofNat e.n → z.2.1 0 = 1 ∧ MRel e t cf z.2.1 z.2.2) ∧ (∀ s, s < e.n → k = Int32.ofNat s → z.2.1 0 = 0 ∧ MRel (e_come e s) (t + 1) (sU cf s (t + 1)) z.2.1 z.2.2)) := by
    intro hb
    unfold f_M_jump_13 f_M_jump_18 f_M_jump_33
    simp only [wk_let, upd_self, if_neg h10]
    refine Res.mk ⟨fun _ => ⟨upd_self I 0 1, h.i0 1⟩, fun s hs ek => ?_⟩
    exfalso
    rcases hb with z | z
    · rw [ek] at z; exact pn_nneg (by clear h w; omega) z
    · exact z (by rw [ek]; exact (pn_lt (by clear h w; omega) (by clear h w; omega)).mpr hs)
  unfold f_M_jump
  by_cases q1 : k < 0
  · rw [if_pos q1]; exact bad (Or.inl q1)
  rw [if_neg q1, h.hn]
  by_cases q2 : k < Int32.ofNat e.n
  · rw [if_pos q2]
    have ek := pn_ofclamp q1
    have hk := pn_clamp_lt k
    have hs : k.toNatClampNeg < e.n := by
      rw [← ek] at q2
      exact (pn_lt hk (by clear h w; omega)).mp q2
    obtain ⟨I', A', e0, hr, h0⟩ := (h.i0 0).come w hs
    rw [ek] at e0
    have h0' : I' 0 = 0 := by rw [h0]; exact upd_self _ _ _
    have x1 : upd (fun _ => (0 : Int32)) 1 k 1 = k := upd_self _ _ _
    unfold f_M_jump_18 f_M_jump_33
    simp only [wk_let, upd_self, if_true, e0, Option.bind_some]
    refine Res.mk ⟨fun z => ?_, fun s hs' es => ?_⟩
    · exfalso
      rcases z with z | z
      · exact q1 z
      · exact z q2
    · have : s = k.toNatClampNeg := by rw [es, pn_nat (show s < 2147483648 by clear h w; omega)]
      subst this
      exact ⟨h0', hr⟩
  · rw [if_neg q2]; exact bad (Or.inr q2)
theorem rd_go (g : Nat) (I : MI) (A : MA) (X : Nat → Int32) : f_M_redo_go (g + 1) 4 I A X = f_M_redo_4 (f_M_redo_go g) I A X := rfl
/-- of the children up to k the one to which one came last -/
def BestCh (e : ES) (cf : Nat → Nat) (k : Nat) (b : Option Nat) : Prop := match b with
  | none => ∀ j, j < k → e.pa j ≠ some e.p
  | some j => j < k ∧ e.pa j = some e.p ∧ ∀ j', j' < k → e.pa j' = some e.p → cf j' ≤ cf j
theorem mkI_eq {o : Option Nat} {v : Nat} (ho : ∀ q, o = some q → q < 1000) (hv : v < 1000) : mkI o = Int32.ofNat v ↔ o = some v := by
  cases o with
  | none =>
    constructor
    · intro z
      have z' : (-1 : Int32) = Int32.ofNat v := z
      exact (pn_ne1 (show v < 2147483648 by omega) z'.symm).elim
    · intro z; cases z
  | some q =>
    have hq := ho q rfl
    constructor
    · intro z
      have z' : Int32.ofNat q = Int32.ofNat v := z
      rw [(pn_eq (by omega) (by omega)).mp z']
    · intro z; cases z; rfl
theorem B_redo {e : ES} {t : Nat} {cf : Nat → Nat} {I : MI} {A : MA} (h : MRel e t cf I A) (w : EWf e) (ht : t < 100000) : Res (f_M_redo I A) (fun z => match e.lc e.p with
    | none => z.2.1 0 = 1 ∧ MRel e t cf z.2.1 z.2.2
    | some q => z.2.1 0 = 0 ∧ z.1 = Int32.ofNat q ∧ MRel (e_come e q) (t + 1) (sU cf q (t + 1)) z.2.1 z.2.2) := by
  have hpb := w.pb
  have hn2 := w.n2
  have fu := wk_FUEL_big
  have h10 : ¬ (1 : Int32) = 0 := by decide
  have hm1 : (-1 : Int32) < 0 := by decide
  have hm0 : ¬ (0 : Int32) ≤ -1 := by decide
  have hpq : ∀ s, s < e.n → ∀ q, e.pa s = some q → q < 1000 := fun s hs q hq => by
    by_cases s0 : s = 0
    · rw [s0, w.p0] at hq; cases hq
    · obtain ⟨q', hq', hlt⟩ := w.ps s (by clear h w; omega) hs
      rw [hq'] at hq; cases hq; clear h w; omega
  have go : ∀ (d k fuel : Nat) (b : Option Nat) (X : Nat → Int32), e.n - k = d → k ≤ e.n → d < fuel → X 1 = mkI b → X 2 = Int32.ofNat k → BestCh e cf k b → Res (f_M_redo_go fuel 4 I A X) (fun z => match e.lc e.p with
    | none => z.2.1 0 = 1 ∧ MRel e t cf z.2.1 z.2.2
    | some q => z.2.1 0 = 0 ∧ z.1 = Int32.ofNat q ∧ MRel (e_come e q) (t + 1) (sU cf q (t + 1)) z.2.1 z.2.2) := by
    intro d
    induction d with
    | zero =>
      intro k fuel b X hd hk hf x1 x2 hb
      have ek : k = e.n := by clear h w; omega
      subst ek
      obtain ⟨g, rfl⟩ : ∃ g, fuel = g + 1 := ⟨fuel - 1, by clear h w; omega⟩
      rw [rd_go]
      unfold f_M_redo_4
      rw [h.hn, x2, if_pos ((pn_le (by clear h w; omega) (by clear h w; omega)).mpr (Nat.le_refl _)), x1]
      cases b with
      | none =>
        have hl : e.lc e.p = none := by
          cases hl : e.lc e.p with
          | none => rfl
          | some j => obtain ⟨a1, a2⟩ := w.l1 _ j hpb hl; exact (hb j a1 a2).elim
        rw [hl]
        have em : mkI none = -1 := rfl
        rw [em, if_neg hm0]
        unfold f_M_redo_66 f_M_redo_81 f_M_redo_96
        simp only [wk_let, upd_self, if_neg h10]
        exact Res.mk ⟨upd_self I 0 1, h.i0 1⟩
      | some j =>
        obtain ⟨b1, b2, b3⟩ := hb
        have hl : e.lc e.p = some j := by
          cases hl : e.lc e.p with
          | none => exact (w.l0 _ hpb hl j b1 b2).elim
          | some j2 =>
            obtain ⟨a1, a2⟩ := w.l1 _ j2 hpb hl
            by_cases q : j = j2
            · rw [q]
            · have c1 := h.cl e.p j2 j hpb hl b1 b2 q
              have c2 := b3 j2 a1 a2
              clear h w; omega
        rw [hl]
        have em : mkI (some j) = Int32.ofNat j := rfl
        rw [em, if_pos (pn_0le (by clear h w; omega))]
        obtain ⟨I', A', e0, hr, h0⟩ := (h.i0 0).come w b1
        have h0' : I' 0 = 0 := by rw [h0]; exact upd_self _ _ _
        unfold f_M_redo_66 f_M_redo_81 f_M_redo_96
        simp only [wk_let, upd_self, if_true, x1, em, e0, Option.bind_some, h0']
        exact Res.mk ⟨h0', hr.hp, hr⟩
    | succ d ih =>
      intro k fuel b X hd hk hf x1 x2 hb
      obtain ⟨g, rfl⟩ : ∃ g, fuel = g + 1 := ⟨fuel - 1, by clear h w; omega⟩
      have hkn : k < e.n := by clear h w; omega
      have i40 : wk_inb (Int32.ofNat k) 40 = true := (pn_inb (by clear h w; omega)).mpr (by clear h w; omega)
      have nk : (Int32.ofNat k).toNatClampNeg = k := pn_nat (by clear h w; omega)
      have nxt : ∀ b' : Option Nat, BestCh e cf (k + 1) b' → Res (f_M_redo_49 (f_M_redo_go g) I A X (mkI b')) (fun z => match e.lc e.p with
          | none => z.2.1 0 = 1 ∧ MRel e t cf z.2.1 z.2.2
          | some q => z.2.1 0 = 0 ∧ z.1 = Int32.ofNat q ∧ MRel (e_come e q) (t + 1) (sU cf q (t + 1)) z.2.1 z.2.2) := by
        intro b' hb'
        unfold f_M_redo_49
        exact ih (k + 1) g b' _ (by clear h w; omega) (by clear h w; omega) (by clear h w; omega) (by rw [upd_ne _ _ (by decide), upd_self]) (by rw [upd_self, x2]; exact pn_succ _) hb'
      have stay : (e.pa k ≠ some e.p ∨ ∃ j, b = some j ∧ cf k ≤ cf j) → BestCh e cf (k + 1) b := by
        intro hs
        cases b with
        | none =>
          intro j hj
          by_cases q : j = k
          · rw [q]
            rcases hs with z | ⟨j, z, _⟩
            · exact z
            · cases z
          · exact hb j (by clear h w; omega)
        | some j =>
          obtain ⟨b1, b2, b3⟩ := hb
          refine ⟨by clear h w; omega, b2, fun j' hj' hp' => ?_⟩
          by_cases q : j' = k
          · rcases hs with z | ⟨j2, z, z2⟩
            · rw [q] at hp'; exact (z hp').elim
            · cases z; rw [q]; exact z2
          · exact b3 j' (by clear h w; omega) hp'
      rw [rd_go]
      unfold f_M_redo_4 f_M_redo_48 f_M_redo_44
      rw [h.hn, x2, if_neg (fun z => by have := (pn_le (a := e.n) (b := k) (by clear h w; omega) (by clear h w; omega)).mp z; clear h w; omega), if_pos i40, nk, h.hpa k hkn, h.hp, x1]
      by_cases qp : e.pa k = some e.p
      · rw [if_pos ((mkI_eq (hpq k hkn) (by clear h w; omega)).mpr qp)]
        cases b with
        | none =>
          have em : mkI none = -1 := rfl
          rw [em, if_pos hm1]
          exact nxt (some k) ⟨Nat.lt_succ_self _, qp, fun j' hj' hp' => by
            by_cases q : j' = k
            · rw [q]; exact Nat.le_refl _
            · exact (hb j' (by clear h w; omega) hp').elim⟩
        | some j =>
          obtain ⟨b1, b2, b3⟩ := hb
          have em : mkI (some j) = Int32.ofNat j := rfl
          have ij : wk_inb (Int32.ofNat j) 40 = true := (pn_inb (by clear h w; omega)).mpr (by clear h w; omega)
          obtain ⟨c1, c2⟩ := h.cm k hkn
          obtain ⟨c3, c4⟩ := h.cm j (by clear h w; omega)
          rw [em, if_neg (pn_nneg (by clear h w; omega)), if_pos i40, if_pos ij, pn_nat (show j < 2147483648 by clear h w; omega), c1, c3]
          by_cases qc : cf k ≤ cf j
          · rw [if_pos ((pn_le (by clear h w; omega) (by clear h w; omega)).mpr qc)]
            exact nxt (some j) (stay (Or.inr ⟨j, rfl, qc⟩))
          · rw [if_neg (fun z => qc ((pn_le (by clear h w; omega) (by clear h w; omega)).mp z))]
            exact nxt (some k) ⟨Nat.lt_succ_self _, qp, fun j' hj' hp' => by
              by_cases q : j' = k
              · rw [q]; exact Nat.le_refl _
              · have := b3 j' (by clear h w; omega) hp'; clear h w; omega⟩
      · rw [if_neg (fun z => qp ((mkI_eq (hpq k hkn) (by clear h w; omega)).mp z))]
        exact nxt b (stay (Or.inl qp))
  unfold f_M_redo f_M_redo_e
  generalize wk_FUEL = F at fu ⊢
  exact go e.n 0 F none _ (Nat.sub_zero _) (Nat.zero_le _) (by clear h w; omega) (by rw [upd_ne _ _ (by decide), upd_self]; rfl) (upd_self _ _ _) (fun j hj => absurd hj (Nat.not_lt_zero _))
-- 63.mop2
/-- what is selected, or the cursor's place twice -/
def e_lo (e : ES) : Nat := match e.mr with
  | none => e.c
  | some m => if m < e.c then m else e.c
def e_hi (e : ES) : Nat := match e.mr with
  | none => e.c
  | some m => if e.c < m then m else e.c
theorem e_lo_le {e : ES} (w : EWf e) : e_lo e ≤ e_hi e ∧ e_hi e ≤ e.tn e.p := by
  have hc := w.cb
  unfold e_lo e_hi
  cases hm : e.mr with
  | none => exact ⟨Nat.le_refl _, hc⟩
  | some m =>
    have hmb := w.mb m hm
    simp only
    constructor
    · split <;> split <;> omega
    · split <;> omega
theorem B_low {e : ES} {t : Nat} {cf : Nat → Nat} {I : MI} {A : MA} (h : MRel e t cf I A) (w : EWf e) : f_M_low I A = some (Int32.ofNat (e_lo e), I, A) := by
  have hc := w.cb
  have ht := (w.tt _ w.pb).nb
  unfold f_M_low f_M_low_25 f_M_low_29 e_lo
  rw [h.hm, h.hc]
  cases hm : e.mr with
  | none => rw [if_pos (show mkI none < 0 by decide)]
  | some m =>
    have hmb := w.mb m hm
    have em : mkI (some m) = Int32.ofNat m := rfl
    rw [em, if_neg (pn_nneg (by clear h w; omega))]
    simp only
    by_cases q : m < e.c
    · rw [if_neg (fun z => by have := (pn_le (a := e.c) (b := m) (by clear h w; omega) (by clear h w; omega)).mp z; clear h w; omega), if_pos q]
    · rw [if_pos ((pn_le (by clear h w; omega) (by clear h w; omega)).mpr (by clear h w; omega)), if_neg q]
theorem B_high {e : ES} {t : Nat} {cf : Nat → Nat} {I : MI} {A : MA} (h : MRel e t cf I A) (w : EWf e) : f_M_high I A = some (Int32.ofNat (e_hi e), I, A) := by
  have hc := w.cb
  have ht := (w.tt _ w.pb).nb
  unfold f_M_high f_M_high_22 e_hi
  rw [h.hm, h.hc]
  cases hm : e.mr with
  | none =>
    have : mkI none ≤ Int32.ofNat e.c := by
      have e1 : mkI none = -1 := rfl
      rw [e1, Int32.le_iff_toInt_le, pn_m1, pn_toInt (by clear h w; omega)]; omega
    rw [if_pos this]
  | some m =>
    have hmb := w.mb m hm
    have em : mkI (some m) = Int32.ofNat m := rfl
    rw [em]
    simp only
    by_cases q : e.c < m
    · rw [if_neg (fun z => by have := (pn_le (a := m) (b := e.c) (by clear h w; omega) (by clear h w; omega)).mp z; clear h w; omega), if_pos q]
    · rw [if_pos ((pn_le (by clear h w; omega) (by clear h w; omega)).mpr (by clear h w; omega)), if_neg q]
/-- a text with the slip's first u characters in the place of what lies between a and b -/
def e_ext (e : ES) (a b u : Nat) : Nat → Int32 := fun k => if k < a then e.tx e.p k else if k < a + u then Int32.ofNat (e.sc (k - a)) else e.tx e.p (k - (a + u) + b)
def e_exl (e : ES) (a b u : Nat) : Nat := e.tn e.p - (b - a) + u
theorem e_ext_txt {e : ES} (w : EWf e) {a b u : Nat} (hab : a ≤ b) (hb : b ≤ e.tn e.p) (hu : u ≤ e.sn) (hl : e_exl e a b u ≤ 160) : Txt (e_exl e a b u) (e_ext e a b u) := by
  refine ⟨hl, fun k hk => ?_⟩
  have hk' : k < e.tn e.p - (b - a) + u := hk
  have tt := w.tt _ w.pb
  unfold e_ext
  by_cases q1 : k < a
  · rw [if_pos q1]; exact tt.ch k (by clear w tt; omega)
  · rw [if_neg q1]
    by_cases q2 : k < a + u
    · rw [if_pos q2]; exact ⟨_, w.sv _ (by clear w tt; omega), rfl⟩
    · rw [if_neg q2]; exact tt.ch _ (by clear w tt; omega)
def e_edits (e : ES) : Bool := decide (e_lo e < e_hi e ∨ 0 < e.sn)
def e_full (e : ES) : Bool := decide (160 < e_exl e (e_lo e) (e_hi e) e.sn ∨ e.n = 40)
/-- insert: refused, or done, or nothing to do -/
def e_ins (e : ES) : ES := if e_edits e = true then (if e_full e = true then e else e_sn (e_edit e (e_exl e (e_lo e) (e_hi e) e.sn) (e_ext e (e_lo e) (e_hi e) e.sn) (e_lo e + e.sn)) 0) else e
theorem EWf.ins {e : ES} (w : EWf e) : EWf (e_ins e) := by
  unfold e_ins
  by_cases q : e_edits e = true
  · rw [if_pos q]
    by_cases q2 : e_full e = true
    · rw [if_pos q2]; exact w
    · rw [if_neg q2]
      have hf : ¬ (160 < e_exl e (e_lo e) (e_hi e) e.sn ∨ e.n = 40) := fun z => q2 (decide_eq_true z)
      obtain ⟨l1, l2⟩ := e_lo_le w
      have hn2 := w.n2
      have hp : e_lo e + e.sn ≤ e_exl e (e_lo e) (e_hi e) e.sn := by unfold e_exl; clear w; omega
      exact (w.edit (by clear w; omega) (e_ext_txt w l1 l2 (Nat.le_refl _) (by clear w; omega)) hp).sn0
  · rw [if_neg q]; exact w
theorem MRel.snz {e : ES} {t : Nat} {cf : Nat → Nat} {I : MI} {A : MA} (h : MRel e t cf I A) (h0 : e.sn = 0) : MRel e t cf (upd I 1 0) A := by
  have := h.sn0
  have ee : e_sn e 0 = e := by unfold e_sn; rw [← h0]; rfl
  rw [ee] at this; exact this
theorem B_insert {e : ES} {t : Nat} {cf : Nat → Nat} {I : MI} {A : MA} (h : MRel e t cf I A) (w : EWf e) : Res (f_M_insert I A) (fun z => ∃ t' cf', t' ≤ t + 1 ∧ MRel (e_ins e) t' cf' z.2.1 z.2.2 ∧ (z.2.1 0 = 0 ∨ z.2.1 0 = 1)) := by
  have hsb := w.sb
  have hn2 := w.n2
  have hpb := w.pb
  have tt := w.tt _ w.pb
  have htb := tt.nb
  obtain ⟨l1, l2⟩ := e_lo_le w
  have h10 : ¬ (1 : Int32) = 0 := by decide
  have h1le : ¬ (1 : Int32) ≤ 0 := by decide
  have h0le : (0 : Int32) ≤ 0 := by decide
  obtain ⟨X, hX⟩ : ∃ X, X = upd (upd (fun _ => (0 : Int32)) 1 (Int32.ofNat (e_lo e))) 2 (Int32.ofNat (e_hi e)) := ⟨_, rfl⟩
  have x1 : X 1 = Int32.ofNat (e_lo e) := by rw [hX, upd_ne _ _ (by decide), upd_self]
  have x2 : X 2 = Int32.ofNat (e_hi e) := by rw [hX, upd_self]
  unfold f_M_insert
  rw [B_low h w]
  simp only [Option.bind_some]
  rw [B_high h w]
  simp only [Option.bind_some]
  rw [← hX, h.s1]
  -- with something to do
  have yes : e_edits e = true → Res (f_M_insert_22 I A X) (fun z => ∃ t' cf', t' ≤ t + 1 ∧ MRel (e_ins e) t' cf' z.2.1 z.2.2 ∧ (z.2.1 0 = 0 ∨ z.2.1 0 = 1)) := by
    intro hed
    unfold f_M_insert_22 f_M_insert_27
    rw [if_neg h10, B_len (h.txt w)]
    simp only [Option.bind_some]
    rw [x1, x2, h.s1, h.hn, pn_sub l1, pn_sub (show e_hi e - e_lo e ≤ e.tn e.p by clear h w tt; omega), pn_add, show e.tn e.p - (e_hi e - e_lo e) + e.sn = e_exl e (e_lo e) (e_hi e) e.sn from rfl]
    have hxb : e_exl e (e_lo e) (e_hi e) e.sn ≤ 200 := by unfold e_exl; clear h w tt; omega
    have bad : e_full e = true → Res (f_M_insert_61 I A (upd X 3 1)) (fun z => ∃ t' cf', t' ≤ t + 1 ∧ MRel (e_ins e) t' cf' z.2.1 z.2.2 ∧ (z.2.1 0 = 0 ∨ z.2.1 0 = 1)) := by
      intro hfull
      unfold f_M_insert_61 f_M_insert_66
      simp only [wk_let, upd_self, if_neg h1le]
      have ee : e_ins e = e := by unfold e_ins; rw [if_pos hed, if_pos hfull]
      rw [ee]
      exact Res.mk ⟨t, cf, Nat.le_succ _, h.i0 1, Or.inr (upd_self I 0 1)⟩
    by_cases q160 : 160 < e_exl e (e_lo e) (e_hi e) e.sn
    · rw [if_pos ((pn_clt (x := 160) 160 rfl (by clear h w tt; omega) (by omega)).mpr q160)]
      exact bad (decide_eq_true (Or.inl q160))
    · rw [if_neg (fun z => q160 ((pn_clt (x := 160) 160 rfl (by clear h w tt; omega) (by omega)).mp z))]
      by_cases q40 : e.n = 40
      · rw [if_pos ((pn_eqc (x := 40) 40 rfl (by clear h w tt; omega) (by omega)).mpr q40)]
        exact bad (decide_eq_true (Or.inr q40))
      · rw [if_neg (fun z => q40 ((pn_eqc (x := 40) 40 rfl (by clear h w tt; omega) (by omega)).mp z))]
        have hnf : ¬ e_full e = true := fun z => (of_decide_eq_true z).elim q160 q40
        have ee : e_ins e = e_sn (e_edit e (e_exl e (e_lo e) (e_hi e) e.sn) (e_ext e (e_lo e) (e_hi e) e.sn) (e_lo e + e.sn)) 0 := by unfold e_ins; rw [if_pos hed, if_neg hnf]
        rw [ee]
        unfold f_M_insert_65 f_M_insert_66
        have y1 : upd X 3 1 1 = Int32.ofNat (e_lo e) := by rw [upd_ne _ _ (by decide)]; exact x1
        have y2 : upd X 3 1 2 = Int32.ofNat (e_hi e) := by rw [upd_ne _ _ (by decide)]; exact x2
        have y3 : upd X 3 1 3 = 1 := upd_self _ _ _
        simp only [wk_let, upd_self, if_pos h0le, if_neg h10, y1, y2]
        have h0 := h.i0 0
        have r0 : MRel e t cf (upd (upd I 0 0) 36 0) A := h0.fr (fun j _ _ _ _ q => upd_ne _ _ q) (fun _ _ _ _ => rfl)
        obtain ⟨I0, hI0⟩ : ∃ I0, I0 = upd (upd I 0 0) 36 0 := ⟨_, rfl⟩
        rw [← hI0] at r0 ⊢
        have i36 : I0 36 = Int32.ofNat 0 := by rw [hI0]; exact upd_self _ _ _
        have z00 : I0 0 = 0 := by rw [hI0, upd_ne _ _ (by decide), upd_self]
        refine (B_addText (lo := 0) (r0.txt w) (Nat.zero_le _) (show e_lo e ≤ e.tn e.p by clear h w tt r0 h0; omega) (by clear h w tt r0 h0; omega) i36).bind ?_
        rintro ⟨a0, I1, A1⟩ ⟨a36, ai, aa, ad⟩
        simp only at a36 ai aa ad
        have r1 : MRel e t cf I1 A1 := r0.fr (fun j _ _ _ _ q => ai j q) (fun j _ _ q => aa j q)
        simp only
        refine (B_addSlip (sc := e.sc) hsb (by clear h w tt r0 h0 r1; omega) r1.s1 a36 (fun j hj => ⟨r1.s2 j hj, w.sv j hj⟩)).bind ?_
        rintro ⟨b0, I2, A2⟩ ⟨b36, bi, ba, bd⟩
        simp only at b36 bi ba bd
        have r2 : MRel e t cf I2 A2 := r1.fr (fun j _ _ _ _ q => bi j q) (fun j _ _ q => ba j q)
        simp only
        rw [B_len (r2.txt w)]
        simp only [Option.bind_some]
        refine (B_addText (r2.txt w) l2 (Nat.le_refl _) (by clear h w tt r0 h0 r1 r2; omega) b36).bind ?_
        rintro ⟨c0, I3, A3⟩ ⟨c36, ci, ca, cd⟩
        simp only at c36 ci ca cd
        have r3 : MRel e t cf I3 A3 := r2.fr (fun j _ _ _ _ q => ci j q) (fun j _ _ q => ca j q)
        simp only
        have elen : 0 + (e_lo e - 0) + e.sn + (e.tn e.p - e_hi e) = e_exl e (e_lo e) (e_hi e) e.sn := by unfold e_exl; clear h w tt r0 h0 r1 r2 r3; omega
        have epl : 0 + (e_lo e - 0) + e.sn = e_lo e + e.sn := by clear h w tt r0 h0 r1 r2 r3; omega
        rw [b36, epl]
        rw [elen] at c36
        have hT := e_ext_txt w l1 l2 (Nat.le_refl e.sn) (show e_exl e (e_lo e) (e_hi e) e.sn ≤ 160 by clear h w tt r0 h0 r1 r2 r3; omega)
        refine (r3.edit w (tf := e_ext e (e_lo e) (e_hi e) e.sn) (by clear h w tt r0 h0 r1 r2 r3; omega) c36 (fun k hk => ?_) hT).bind ?_
        · have hk' : k < e.tn e.p - (e_hi e - e_lo e) + e.sn := hk
          unfold e_ext
          rw [cd k]
          by_cases q3 : e_lo e + e.sn ≤ k
          · rw [if_pos (by clear h w tt r0 h0 r1 r2 r3; omega), if_neg (by clear h w tt r0 h0 r1 r2 r3; omega), if_neg (by clear h w tt r0 h0 r1 r2 r3; omega)]
            show e.tx e.p (e_hi e + (k - (0 + (e_lo e - 0) + e.sn))) = _
            rw [show e_hi e + (k - (0 + (e_lo e - 0) + e.sn)) = k - (e_lo e + e.sn) + e_hi e by clear h w tt r0 h0 r1 r2 r3; omega]
          · rw [if_neg (by clear h w tt r0 h0 r1 r2 r3; omega), bd k]
            by_cases q2 : e_lo e ≤ k
            · rw [if_pos (by clear h w tt r0 h0 r1 r2 r3; omega), if_neg (by clear h w tt r0 h0 r1 r2 r3; omega), if_pos (by clear h w tt r0 h0 r1 r2 r3; omega)]
              show Int32.ofNat (e.sc (k - (0 + (e_lo e - 0)))) = _
              rw [show k - (0 + (e_lo e - 0)) = k - e_lo e by clear h w tt r0 h0 r1 r2 r3; omega]
            · rw [if_neg (by clear h w tt r0 h0 r1 r2 r3; omega), ad k, if_pos (by clear h w tt r0 h0 r1 r2 r3; omega), if_pos (by clear h w tt r0 h0 r1 r2 r3; omega)]
              show e.tx e.p (0 + (k - 0)) = _
              rw [Nat.zero_add, Nat.sub_zero]
        · rintro ⟨d0, I4, A4⟩ ⟨d1, d2⟩
          simp only at d1 d2
          simp only [f_M_insert_118, wk_let]
          refine Res.mk ⟨t + 1, _, Nat.le_refl _, d1.sn0, Or.inl ?_⟩
          show upd I4 1 0 0 = 0
          rw [upd_ne _ _ (by decide), d2, ci 0 (by decide), bi 0 (by decide), ai 0 (by decide)]; exact z00
  by_cases q1 : e_lo e < e_hi e
  · rw [if_pos ((pn_lt (by clear h w tt; omega) (by clear h w tt; omega)).mpr q1)]
    exact yes (decide_eq_true (Or.inl q1))
  · rw [if_neg (fun z => q1 ((pn_lt (by clear h w tt; omega) (by clear h w tt; omega)).mp z))]
    by_cases q2 : e.sn = 0
    · rw [if_pos ((pn_lec (x := 0) 0 rfl (by clear h w tt; omega) (by omega)).mpr (by clear h w tt; omega))]
      have hned : ¬ e_edits e = true := fun z => by have := of_decide_eq_true z; clear h w tt; omega
      have ee : e_ins e = e := by unfold e_ins; rw [if_neg hned]
      rw [ee]
      unfold f_M_insert_27 f_M_insert_65 f_M_insert_66 f_M_insert_118
      have y3 : upd X 3 0 3 = 0 := upd_self _ _ _
      simp only [if_true, wk_let, upd_self, if_pos h0le]
      refine Res.mk ⟨t, cf, Nat.le_succ _, (h.i0 0).snz q2, Or.inl ?_⟩
      show upd (upd I 0 0) 1 0 0 = 0
      rw [upd_ne _ _ (by decide), upd_self]
    · rw [if_neg (fun z => by have := (pn_lec (x := 0) 0 rfl (by clear h w tt; omega) (by omega)).mp z; clear h w tt; omega)]
      exact yes (decide_eq_true (Or.inr (by clear h w tt; omega)))
-- 64.mop3
theorem pn_addI {a b : Int32} (h1 : -2147483648 ≤ a.toInt + b.toInt) (h2 : a.toInt + b.toInt < 2147483648) : (a + b).toInt = a.toInt + b.toInt := by
  rw [Int32.toInt_add]; exact Int.bmod_eq_of_le (by omega) (by omega)
theorem pn_negI {a : Nat} (h : a < 2147483648) : (-(Int32.ofNat a)).toInt = -(a : Int) := by
  rw [Int32.toInt_neg, pn_toInt h]; exact Int.bmod_eq_of_le (by omega) (by omega)
theorem pn_addneg {c : Nat} {k : Int32} (hk : k < 0) (hc : c < 2147483648) (h : -(c : Int) ≤ k.toInt) : Int32.ofNat c + k = Int32.ofNat ((c : Int) + k.toInt).toNat := by
  rw [Int32.lt_iff_toInt_lt, Int32.toInt_zero] at hk
  rw [← Int32.toInt_inj, pn_addI (by rw [pn_toInt hc]; omega) (by rw [pn_toInt hc]; omega), pn_toInt hc, pn_toInt (by omega)]
  omega
/-- what erase takes away -/
def e_ea (e : ES) (k : Int32) : Nat := if e_lo e < e_hi e then e_lo e else if k < 0 then ((e.c : Int) + k.toInt).toNat else e.c
def e_eb (e : ES) (k : Int32) : Nat := if e_lo e < e_hi e then e_hi e else if k < 0 then e.c else if e.c + k.toNatClampNeg ≤ e.tn e.p then e.c + k.toNatClampNeg else e.tn e.p
theorem e_eq_c {e : ES} (h : ¬ e_lo e < e_hi e) : e_lo e = e.c ∧ e_hi e = e.c := by
  unfold e_lo e_hi at h ⊢
  cases hm : e.mr with
  | none => exact ⟨rfl, rfl⟩
  | some m =>
    rw [hm] at h
    simp only at h ⊢
    by_cases q1 : m < e.c
    · rw [if_pos q1, if_neg (show ¬ e.c < m by omega)] at h; omega
    · by_cases q2 : e.c < m
      · rw [if_neg q1, if_pos q2] at h; omega
      · rw [if_neg q1, if_neg q2]; exact ⟨rfl, rfl⟩
theorem e_ea_le {e : ES} (w : EWf e) (k : Int32) : e_ea e k ≤ e_eb e k ∧ e_eb e k ≤ e.tn e.p := by
  obtain ⟨l1, l2⟩ := e_lo_le w
  have hc := w.cb
  unfold e_ea e_eb
  by_cases q : e_lo e < e_hi e
  · rw [if_pos q, if_pos q]; exact ⟨l1, l2⟩
  · rw [if_neg q, if_neg q]
    by_cases q2 : k < 0
    · rw [if_pos q2, if_pos q2]
      rw [Int32.lt_iff_toInt_lt, Int32.toInt_zero] at q2
      exact ⟨by clear w; omega, hc⟩
    · rw [if_neg q2, if_neg q2]
      split
      · exact ⟨by clear w; omega, by clear w; omega⟩
      · exact ⟨hc, Nat.le_refl _⟩
def e_era (e : ES) (k : Int32) : ES := if e_ea e k < e_eb e k ∧ e.n ≠ 40 then e_edit e (e_exl e (e_ea e k) (e_eb e k) 0) (e_ext e (e_ea e k) (e_eb e k) 0) (e_ea e k) else e
theorem EWf.era {e : ES} (w : EWf e) (k : Int32) : EWf (e_era e k) := by
  obtain ⟨l1, l2⟩ := e_ea_le w k
  have hn2 := w.n2
  have ht := (w.tt _ w.pb).nb
  unfold e_era
  by_cases q : e_ea e k < e_eb e k ∧ e.n ≠ 40
  · rw [if_pos q]
    have hl : e_exl e (e_ea e k) (e_eb e k) 0 ≤ 160 := by unfold e_exl; clear w; omega
    exact w.edit (by clear w; omega) (e_ext_txt w l1 l2 (Nat.zero_le _) hl) (by unfold e_exl; clear w; omega)
  · rw [if_neg q]; exact w
theorem B_erase88 {e : ES} {t : Nat} {cf : Nat → Nat} {I : MI} {A : MA} (h : MRel e t cf I A) (w : EWf e) (k : Int32) {X : Nat → Int32} (x2 : X 2 = Int32.ofNat (e_ea e k)) (x3 : X 3 = Int32.ofNat (e_eb e k)) :
    Res (f_M_erase_88 I A X) (fun z => ∃ t' cf', t' ≤ t + 1 ∧ MRel (e_era e k) t' cf' z.2.1 z.2.2 ∧ (e_ea e k < e_eb e k ∧ e.n = 40 → z.2.1 0 = 1) ∧ (¬ (e_ea e k < e_eb e k ∧ e.n = 40) → z.2.1 0 = 0 ∧ z.1 = Int32.ofNat (e_eb e k - e_ea e k))) := by
  obtain ⟨l1, l2⟩ := e_ea_le w k
  have hn2 := w.n2
  have tt := w.tt _ w.pb
  have htb := tt.nb
  have h10 : ¬ (1 : Int32) = 0 := by decide
  have h01 : (0 : Int32) < 1 := by decide
  have h00 : ¬ (0 : Int32) < 0 := by decide
  -- with no refusal
  have f107 : ¬ (e_ea e k < e_eb e k ∧ e.n = 40) → Res (f_M_erase_107 I A X) (fun z => ∃ t' cf', t' ≤ t + 1 ∧ MRel (e_era e k) t' cf' z.2.1 z.2.2 ∧ (e_ea e k < e_eb e k ∧ e.n = 40 → z.2.1 0 = 1) ∧ (¬ (e_ea e k < e_eb e k ∧ e.n = 40) → z.2.1 0 = 0 ∧ z.1 = Int32.ofNat (e_eb e k - e_ea e k))) := by
    intro hno
    unfold f_M_erase_107 f_M_erase_108
    simp only [wk_let, upd_self, if_neg h00]
    rw [x2, x3]
    by_cases q : e_ea e k = e_eb e k
    · rw [if_pos ((pn_eq (by clear h w tt; omega) (by clear h w tt; omega)).mpr q)]
      have ee : e_era e k = e := by unfold e_era; rw [if_neg (by clear h w tt; omega)]
      rw [ee]
      unfold f_M_erase_123
      refine Res.mk ⟨t, cf, Nat.le_succ _, h.i0 0, fun z => (hno z).elim, fun _ => ⟨upd_self I 0 0, ?_⟩⟩
      show (0 : Int32) = Int32.ofNat (e_eb e k - e_ea e k)
      rw [q, Nat.sub_self]; rfl
    · rw [if_neg (fun z => q ((pn_eq (by clear h w tt; omega) (by clear h w tt; omega)).mp z))]
      have hlt : e_ea e k < e_eb e k := by clear h w tt; omega
      have hn40 : e.n ≠ 40 := fun z => hno ⟨hlt, z⟩
      have ee : e_era e k = e_edit e (e_exl e (e_ea e k) (e_eb e k) 0) (e_ext e (e_ea e k) (e_eb e k) 0) (e_ea e k) := by unfold e_era; rw [if_pos ⟨hlt, hn40⟩]
      rw [ee]
      have r0 : MRel e t cf (upd (upd I 0 0) 36 0) A := (h.i0 0).fr (fun j _ _ _ _ q => upd_ne _ _ q) (fun _ _ _ _ => rfl)
      obtain ⟨I0, hI0⟩ : ∃ I0, I0 = upd (upd I 0 0) 36 0 := ⟨_, rfl⟩
      rw [← hI0] at r0 ⊢
      have i36 : I0 36 = Int32.ofNat 0 := by rw [hI0]; exact upd_self _ _ _
      have z00 : I0 0 = 0 := by rw [hI0, upd_ne _ _ (by decide), upd_self]
      refine (B_addText (lo := 0) (r0.txt w) (Nat.zero_le _) (show e_ea e k ≤ e.tn e.p by clear h w tt r0; omega) (by clear h w tt r0; omega) i36).bind ?_
      rintro ⟨a0, I1, A1⟩ ⟨a36, ai, aa, ad⟩
      simp only at a36 ai aa ad
      have r1 : MRel e t cf I1 A1 := r0.fr (fun j _ _ _ _ q => ai j q) (fun j _ _ q => aa j q)
      simp only
      rw [B_len (r1.txt w)]
      simp only [Option.bind_some]
      refine (B_addText (r1.txt w) l2 (Nat.le_refl _) (by clear h w tt r0 r1; omega) a36).bind ?_
      rintro ⟨c0, I3, A3⟩ ⟨c36, ci, ca, cd⟩
      simp only at c36 ci ca cd
      have r3 : MRel e t cf I3 A3 := r1.fr (fun j _ _ _ _ q => ci j q) (fun j _ _ q => ca j q)
      simp only
      have elen : 0 + (e_ea e k - 0) + (e.tn e.p - e_eb e k) = e_exl e (e_ea e k) (e_eb e k) 0 := by unfold e_exl; clear h w tt r0 r1 r3; omega
      rw [elen] at c36
      have hl : e_exl e (e_ea e k) (e_eb e k) 0 ≤ 160 := by unfold e_exl; clear h w tt r0 r1 r3; omega
      have hT := e_ext_txt w l1 l2 (Nat.zero_le e.sn) hl
      refine (r3.edit w (tf := e_ext e (e_ea e k) (e_eb e k) 0) (place := e_ea e k) (by clear h w tt r0 r1 r3; omega) c36 (fun j hj => ?_) hT).bind ?_
      · have hj' : j < e.tn e.p - (e_eb e k - e_ea e k) + 0 := hj
        unfold e_ext
        rw [cd j]
        by_cases q3 : e_ea e k ≤ j
        · rw [if_pos (by clear h w tt r0 r1 r3; omega), if_neg (by clear h w tt r0 r1 r3; omega), if_neg (by clear h w tt r0 r1 r3; omega)]
          show e.tx e.p (e_eb e k + (j - (0 + (e_ea e k - 0)))) = _
          rw [show e_eb e k + (j - (0 + (e_ea e k - 0))) = j - (e_ea e k + 0) + e_eb e k by clear h w tt r0 r1 r3; omega]
        · rw [if_neg (by clear h w tt r0 r1 r3; omega), ad j, if_pos (by clear h w tt r0 r1 r3; omega), if_pos (by clear h w tt r0 r1 r3; omega)]
          show e.tx e.p (0 + (j - 0)) = _
          rw [Nat.zero_add, Nat.sub_zero]
      · rintro ⟨d0, I4, A4⟩ ⟨d1, d2⟩
        simp only at d1 d2
        simp only
        refine Res.mk ⟨t + 1, _, Nat.le_refl _, d1, fun z => (hno z).elim, fun _ => ⟨?_, ?_⟩⟩
        · show I4 0 = 0
          rw [d2, ci 0 (by decide), ai 0 (by decide)]; exact z00
        · show Int32.ofNat (e_eb e k) - Int32.ofNat (e_ea e k) = _
          exact pn_sub l1
  unfold f_M_erase_88
  rw [x2, x3, h.hn]
  by_cases q1 : e_eb e k ≤ e_ea e k
  · rw [if_pos ((pn_le (by clear h w tt; omega) (by clear h w tt; omega)).mpr q1)]
    exact f107 (by clear h w tt; omega)
  · rw [if_neg (fun z => q1 ((pn_le (by clear h w tt; omega) (by clear h w tt; omega)).mp z))]
    by_cases q40 : e.n = 40
    · rw [if_pos ((pn_eqc (x := 40) 40 rfl (by clear h w tt; omega) (by omega)).mpr q40)]
      have ee : e_era e k = e := by unfold e_era; rw [if_neg (by clear h w tt; omega)]
      rw [ee]
      unfold f_M_erase_108 f_M_erase_123
      simp only [wk_let, upd_self, if_pos h01]
      exact Res.mk ⟨t, cf, Nat.le_succ _, h.i0 1, fun _ => upd_self I 0 1, fun z => (z ⟨by clear h w tt; omega, q40⟩).elim⟩
    · rw [if_neg (fun z => q40 ((pn_eqc (x := 40) 40 rfl (by clear h w tt; omega) (by omega)).mp z))]
      exact f107 (fun z => q40 z.2)
theorem B_erase {e : ES} {t : Nat} {cf : Nat → Nat} {I : MI} {A : MA} (h : MRel e t cf I A) (w : EWf e) (k : Int32) :
    Res (f_M_erase I A k) (fun z => ∃ t' cf', t' ≤ t + 1 ∧ MRel (e_era e k) t' cf' z.2.1 z.2.2 ∧ (e_ea e k < e_eb e k ∧ e.n = 40 → z.2.1 0 = 1) ∧ (¬ (e_ea e k < e_eb e k ∧ e.n = 40) → z.2.1 0 = 0 ∧ z.1 = Int32.ofNat (e_eb e k - e_ea e k))) := by
  obtain ⟨l1, l2⟩ := e_lo_le w
  have hc := w.cb
  have tt := w.tt _ w.pb
  have htb := tt.nb
  unfold f_M_erase
  rw [B_low h w]
  simp only [Option.bind_some]
  rw [B_high h w]
  simp only [Option.bind_some]
  by_cases q : e_lo e = e_hi e
  · have hnl : ¬ e_lo e < e_hi e := by clear h w tt; omega
    obtain ⟨c1, c2⟩ := e_eq_c hnl
    rw [if_pos ((pn_eq (by clear h w tt; omega) (by clear h w tt; omega)).mpr q), B_len (h.txt w)]
    simp only [Option.bind_some]
    rw [h.hc, pn_sub hc, c1, c2]
    unfold f_M_erase_56 f_M_erase_87
    obtain ⟨X, hX⟩ : ∃ X, X = upd (upd (upd (upd (fun _ => (0 : Int32)) 1 k) 2 (Int32.ofNat e.c)) 3 (Int32.ofNat e.c)) 4 (Int32.ofNat (e.tn e.p - e.c)) := ⟨_, rfl⟩
    have x1 : X 1 = k := by rw [hX]; rfl
    have x4 : X 4 = Int32.ofNat (e.tn e.p - e.c) := by rw [hX]; exact upd_self _ _ _
    rw [← hX]
    by_cases qk : k < 0
    · have hk' := qk
      rw [Int32.lt_iff_toInt_lt, Int32.toInt_zero] at hk'
      have n0 : ¬ (0 : Int32) ≤ k := by rw [Int32.not_le]; exact qk
      have eb : e_eb e k = e.c := by unfold e_eb; rw [if_neg hnl, if_pos qk]
      have ea : e_ea e k = ((e.c : Int) + k.toInt).toNat := by unfold e_ea; rw [if_neg hnl, if_pos qk]
      rw [if_pos qk, x1, if_neg n0]
      by_cases qm : -(Int32.ofNat e.c) ≤ k
      · have qm' := qm
        rw [Int32.le_iff_toInt_le, pn_negI (by clear h w tt; omega)] at qm'
        rw [if_pos qm, pn_addneg qk (by clear h w tt; omega) qm', h.hc]
        exact B_erase88 h w k (by rw [upd_ne _ _ (by decide), upd_self, ea]) (by rw [upd_self, eb])
      · have qm' := qm
        rw [Int32.le_iff_toInt_le, pn_negI (by clear h w tt; omega)] at qm'
        have e0 : ((e.c : Int) + k.toInt).toNat = 0 := by clear h w tt; omega
        rw [if_neg qm, if_neg n0, h.hc]
        exact B_erase88 (X := upd (upd X 2 0) 3 (Int32.ofNat e.c)) h w k (by rw [upd_ne _ _ (by decide), upd_self, ea, e0]; rfl) (by rw [upd_self, eb])
    · have ek := pn_ofclamp qk
      have hk2 := pn_clamp_lt k
      have n0 : (0 : Int32) ≤ k := Int32.not_lt.mp qk
      have ea : e_ea e k = e.c := by unfold e_ea; rw [if_neg hnl, if_neg qk]
      rw [if_neg qk, x1, if_pos n0, x4]
      by_cases ql : k.toNatClampNeg ≤ e.tn e.p - e.c
      · have eb : e_eb e k = e.c + k.toNatClampNeg := by unfold e_eb; rw [if_neg hnl, if_neg qk, if_pos (by clear h w tt; omega)]
        have hle : k ≤ Int32.ofNat (e.tn e.p - e.c) := by
          rw [← ek]; exact (pn_le hk2 (by clear h w tt; omega)).mpr ql
        have hadd : Int32.ofNat e.c + k = Int32.ofNat (e.c + k.toNatClampNeg) := by
          conv => lhs; rw [← ek]
          exact pn_add _ _
        rw [if_pos hle, h.hc, hadd]
        exact B_erase88 h w k (by rw [upd_ne _ _ (by decide), upd_self, ea]) (by rw [upd_self, eb])
      · have eb : e_eb e k = e.tn e.p := by unfold e_eb; rw [if_neg hnl, if_neg qk, if_neg (by clear h w tt; omega)]
        have hle : ¬ k ≤ Int32.ofNat (e.tn e.p - e.c) := by
          rw [← ek]; exact fun z => ql ((pn_le hk2 (by clear h w tt; omega)).mp z)
        rw [if_neg hle, B_len (h.txt w)]
        simp only [Option.bind_some]
        exact B_erase88 h w k (by rw [upd_ne _ _ (by decide), upd_self, ea]) (by rw [upd_self, eb])
  · have hlt : e_lo e < e_hi e := by clear h w tt; omega
    rw [if_neg (fun z => q ((pn_eq (by clear h w tt; omega) (by clear h w tt; omega)).mp z))]
    have ea : e_ea e k = e_lo e := by unfold e_ea; rw [if_pos hlt]
    have eb : e_eb e k = e_hi e := by unfold e_eb; rw [if_pos hlt]
    exact B_erase88 h w k (by rw [upd_ne _ _ (by decide), upd_self, ea]) (by rw [upd_self, eb])
-- 65.mop4
/-- go -/
def e_mk2 (m0 : Option Nat) (k : Nat) : Option Nat := match m0 with
  | none => none
  | some m => if m = k then none else some m
def e_go (e : ES) (k : Nat) (keep : Bool) : ES := (ES.mk e.sn e.sc e.n e.p (k) ((if keep = true then e_mk2 (some (e.mr.getD e.c)) k else none)) e.tn e.tx e.pl e.pa e.lc e.has e.pat e.fl)
theorem EWf.go {e : ES} (w : EWf e) {k : Nat} (hk : k ≤ e.tn e.p) (keep : Bool) : EWf (e_go e k keep) := by
  refine ⟨w.sb, w.sv, w.n1, w.n2, w.pb, w.tt, hk, fun m hm => ?_, w.lb, w.p0, w.ps, w.l1, w.l0⟩
  have hm' : (if keep = true then e_mk2 (some (e.mr.getD e.c)) k else none) = some m := hm
  cases keep with
  | false => cases hm'
  | true =>
    rw [if_pos rfl] at hm'
    unfold e_mk2 at hm'
    simp only at hm'
    split at hm'
    · cases hm'
    · cases hm'
      cases hr : e.mr with
      | none => exact w.cb
      | some m0 => exact w.mb _ hr
theorem MRel.cm2 {e : ES} {t : Nat} {cf : Nat → Nat} {I I' : MI} {A : MA} (h : MRel e t cf I A) {c' : Nat} {m' : Option Nat} (i11 : I' 11 = Int32.ofNat c') (i12 : I' 12 = mkI m') (hi : ∀ j, j ≠ 0 → j ≠ 11 → j ≠ 12 → j ≠ 34 → j ≠ 35 → I' j = I j) : MRel (ES.mk e.sn e.sc e.n e.p (c') (m') e.tn e.tx e.pl e.pa e.lc e.has e.pat e.fl) t cf I' A := by
  refine ⟨?_, h.s2, ?_, ?_, h.tl, h.tc, i11, i12, h.hpl, h.hpa, ?_, h.cm, h.cl, ?_, ?_, h.pv, ?_⟩
  · rw [hi 1 (by decide) (by decide) (by decide) (by decide) (by decide)]; exact h.s1
  · rw [hi 3 (by decide) (by decide) (by decide) (by decide) (by decide)]; exact h.hn
  · rw [hi 4 (by decide) (by decide) (by decide) (by decide) (by decide)]; exact h.hp
  · rw [hi 10 (by decide) (by decide) (by decide) (by decide) (by decide)]; exact h.ck
  · rw [hi 13 (by decide) (by decide) (by decide) (by decide) (by decide)]; exact h.hh
  · rw [hi 14 (by decide) (by decide) (by decide) (by decide) (by decide)]; exact h.hf
  · intro hhas tn tx hT
    exact (h.pm hhas tn tx hT).frame (hi 17 (by decide) (by decide) (by decide) (by decide) (by decide)) (hi 23 (by decide) (by decide) (by decide) (by decide) (by decide)) (hi 24 (by decide) (by decide) (by decide) (by decide) (by decide)) (fun _ _ _ => rfl)
/-- the last words of go -/
theorem B_go56 {e : ES} {t : Nat} {cf : Nat → Nat} {I : MI} {A : MA} (h : MRel e t cf I A) (w : EWf e) {k : Nat} (hk : k ≤ e.tn e.p) {X : Nat → Int32} (x1 : X 1 = Int32.ofNat k) {m0 : Option Nat} (hm0 : ∀ m, m0 = some m → m ≤ e.tn e.p) :
    Res (f_M_go_56 I A X (mkI m0)) (fun z => z.2.1 0 = I 0 ∧ MRel (ES.mk e.sn e.sc e.n e.p (k) (e_mk2 m0 k) e.tn e.tx e.pl e.pa e.lc e.has e.pat e.fl) t cf z.2.1 z.2.2) := by
  have ht := (w.tt _ w.pb).nb
  unfold f_M_go_56
  simp only [wk_let]
  obtain ⟨I1, hI1⟩ : ∃ I1, I1 = upd I 12 (mkI m0) := ⟨_, rfl⟩
  obtain ⟨I2, hI2⟩ : ∃ I2, I2 = upd I1 11 (X 1) := ⟨_, rfl⟩
  rw [← hI1, ← hI2]
  have a11 : I2 11 = Int32.ofNat k := by rw [hI2, upd_self]; exact x1
  have a12 : I2 12 = mkI m0 := by rw [hI2, upd_ne _ _ (by decide), hI1, upd_self]
  have ao : ∀ j, j ≠ 11 → j ≠ 12 → I2 j = I j := fun j h1 h2 => by rw [hI2, upd_ne _ _ h1, hI1, upd_ne _ _ h2]
  have fin : ∀ m' : Option Nat, Res (f_M_go_84 I2 A X (mkI m')) (fun z => z.2.1 0 = I 0 ∧ MRel (ES.mk e.sn e.sc e.n e.p (k) (m') e.tn e.tx e.pl e.pa e.lc e.has e.pat e.fl) t cf z.2.1 z.2.2) := by
    intro m'
    unfold f_M_go_84
    simp only [wk_let]
    refine Res.mk ⟨?_, h.cm2 (I' := upd I2 12 (mkI m')) (by rw [upd_ne _ _ (by decide)]; exact a11) (upd_self _ _ _) (fun j _ h1 h2 _ _ => by rw [upd_ne _ _ h2]; exact ao j h1 h2)⟩
    show upd I2 12 (mkI m') 0 = I 0
    rw [upd_ne _ _ (by decide), ao 0 (by decide) (by decide)]
  rw [a11, a12]
  cases m0 with
  | none =>
    have : ¬ mkI none = Int32.ofNat k := fun z => pn_ne1 (show k < 2147483648 by clear h w; omega) z.symm
    rw [if_neg this]
    exact fin none
  | some m =>
    have hmb := hm0 m rfl
    have em : mkI (some m) = Int32.ofNat m := rfl
    rw [em]
    unfold e_mk2
    simp only
    by_cases q : m = k
    · rw [if_pos ((pn_eq (by clear h w; omega) (by clear h w; omega)).mpr q), if_pos q]
      exact fin none
    · rw [if_neg (fun z => q ((pn_eq (by clear h w; omega) (by clear h w; omega)).mp z)), if_neg q]
      exact fin (some m)
theorem B_go {e : ES} {t : Nat} {cf : Nat → Nat} {I : MI} {A : MA} (h : MRel e t cf I A) (w : EWf e) (k1 k2 : Int32) : Res (f_M_go I A k1 k2) (fun z => (k1 < 0 ∨ ¬ k1 ≤ Int32.ofNat (e.tn e.p) → z.2.1 0 = 1 ∧ MRel e t cf z.2.1 z.2.2) ∧ (∀ k, k ≤ e.tn e.p → k1 = Int32.ofNat k → z.2.1 0 = 0 ∧ MRel (e_go e k (decide (k2 ≠ 0))) t cf z.2.1 z.2.2)) := by
  have ht := (w.tt _ w.pb).nb
  have hcb := w.cb
  have h1le : ¬ (1 : Int32) ≤ 0 := by decide
  have h0le : (0 : Int32) ≤ 0 := by decide
  obtain ⟨X, hX⟩ : ∃ X, X = upd (upd (fun _ => (0 : Int32)) 1 k1) 2 k2 := ⟨_, rfl⟩
  have x1 : X 1 = k1 := by rw [hX, upd_ne _ _ (by decide), upd_self]
  have x2 : X 2 = k2 := by rw [hX, upd_self]
  have bad : (k1 < 0 ∨ ¬ k1 ≤ Int32.ofNat (e.tn e.p)) → Res (f_M_go_13 I A X) (fun z => (k1 < 0 ∨ ¬ k1 ≤ Int32.ofNat (e.tn e.p) → z.2.1 0 = 1 ∧ MRel e t cf z.2.1 z.2.2) ∧ (∀ k, k ≤ e.tn e.p → k1 = Int32.ofNat k → z.2.1 0 = 0 ∧ MRel (e_go e k (decide (k2 ≠ 0))) t cf z.2.1 z.2.2)) := by
    intro hb
    unfold f_M_go_13 f_M_go_18
    simp only [wk_let, upd_self, if_neg h1le]
    refine Res.mk ⟨fun _ => ⟨upd_self I 0 1, h.i0 1⟩, fun k hk ek => ?_⟩
    exfalso
    rcases hb with z | z
    · rw [ek] at z; exact pn_nneg (by clear h w; omega) z
    · exact z (by rw [ek]; exact (pn_le (by clear h w; omega) (by clear h w; omega)).mpr hk)
  unfold f_M_go
  rw [← hX]
  by_cases q1 : k1 < 0
  · rw [if_pos q1]; exact bad (Or.inl q1)
  rw [if_neg q1, B_len (h.txt w)]
  simp only [Option.bind_some]
  by_cases q2 : k1 ≤ Int32.ofNat (e.tn e.p)
  · rw [if_pos q2]
    have ek := pn_ofclamp q1
    have hk2 := pn_clamp_lt k1
    have hk : k1.toNatClampNeg ≤ e.tn e.p := by
      rw [← ek] at q2
      exact (pn_le hk2 (by clear h w; omega)).mp q2
    have x1' : X 1 = Int32.ofNat k1.toNatClampNeg := by rw [x1, ek]
    have h0 := h.i0 0
    unfold f_M_go_18
    simp only [wk_let, upd_self, if_pos h0le]
    rw [x2]
    have a12 : upd I 0 0 12 = mkI e.mr := by rw [upd_ne _ _ (by decide)]; exact h.hm
    have a11 : upd I 0 0 11 = Int32.ofNat e.c := by rw [upd_ne _ _ (by decide)]; exact h.hc
    have done_ : ∀ (m0 : Option Nat), (∀ m, m0 = some m → m ≤ e.tn e.p) → ((ES.mk e.sn e.sc e.n e.p (k1.toNatClampNeg) (e_mk2 m0 k1.toNatClampNeg) e.tn e.tx e.pl e.pa e.lc e.has e.pat e.fl) : ES) = e_go e k1.toNatClampNeg (decide (k2 ≠ 0)) → Res (f_M_go_56 (upd I 0 0) A X (mkI m0)) (fun z => (k1 < 0 ∨ ¬ k1 ≤ Int32.ofNat (e.tn e.p) → z.2.1 0 = 1 ∧ MRel e t cf z.2.1 z.2.2) ∧ (∀ k, k ≤ e.tn e.p → k1 = Int32.ofNat k → z.2.1 0 = 0 ∧ MRel (e_go e k (decide (k2 ≠ 0))) t cf z.2.1 z.2.2)) := by
      intro m0 hm0 he
      refine (B_go56 h0 w hk x1' hm0).imp (fun z hz => ⟨fun hb => ?_, fun k hk' es => ?_⟩)
      · exfalso
        rcases hb with z | z
        · exact q1 z
        · exact z q2
      · have : k = k1.toNatClampNeg := by rw [es, pn_nat (show k < 2147483648 by clear h w h0; omega)]
        subst this
        rw [he] at hz
        exact ⟨by rw [hz.1]; exact upd_self _ _ _, hz.2⟩
    by_cases qk : k2 = 0
    · rw [if_pos qk]
      refine done_ none (fun m z => by cases z) ?_
      unfold e_go
      rw [decide_eq_false (fun z => z qk)]; rfl
    · rw [if_neg qk]
      have dk : decide (k2 ≠ 0) = true := decide_eq_true qk
      rw [a12, a11]
      cases hm : e.mr with
      | none =>
        have hm0 : ¬ (0 : Int32) ≤ mkI none := by decide
        rw [if_neg hm0]
        refine done_ (some e.c) (fun m z => by cases z; exact hcb) ?_
        unfold e_go
        rw [dk, hm]; rfl
      | some m =>
        have hmb := w.mb m hm
        have hm0 : (0 : Int32) ≤ mkI (some m) := pn_0le (show m < 2147483648 by clear h w h0; omega)
        rw [if_pos hm0]
        refine done_ (some m) (fun m' z => by cases z; exact hmb) ?_
        unfold e_go
        rw [dk, hm]; rfl
  · rw [if_neg q2]; exact bad (Or.inr q2)
/-- the questions that change nothing -/
theorem B_length {e : ES} {t : Nat} {cf : Nat → Nat} {I : MI} {A : MA} (h : MRel e t cf I A) (w : EWf e) : f_M_length I A = some (Int32.ofNat (e.tn e.p), upd I 0 0, A) := by
  unfold f_M_length
  simp only [wk_let]
  rw [B_len ((h.i0 0).txt w)]
  rfl
theorem B_fault {e : ES} {t : Nat} {cf : Nat → Nat} {I : MI} {A : MA} (h : MRel e t cf I A) : f_M_fault I A = some (mkI e.fl, upd I 0 0, A) := by
  unfold f_M_fault
  simp only [wk_let]
  rw [upd_ne _ _ (by decide), h.hf]
theorem B_at {e : ES} {t : Nat} {cf : Nat → Nat} {I : MI} {A : MA} (h : MRel e t cf I A) (w : EWf e) (k : Int32) : Res (f_M_at I A k) (fun z => (k < 0 ∨ ¬ k < Int32.ofNat (e.tn e.p) → z.2.1 0 = 1) ∧ (∀ p, p < e.tn e.p → k = Int32.ofNat p → z.2.1 0 = 0 ∧ z.1 = e.tx e.p p) ∧ MRel e t cf z.2.1 z.2.2) := by
  have tt := w.tt _ w.pb
  have ht := tt.nb
  have h10 : ¬ (1 : Int32) = 0 := by decide
  have nc0 : vp_nar .char 0 = 0 := by decide
  have bad : (k < 0 ∨ ¬ k < Int32.ofNat (e.tn e.p)) → Res (f_M_at_13 I A (upd (fun _ => 0) 1 k)) (fun z => (k < 0 ∨ ¬ k < Int32.ofNat (e.tn e.p) → z.2.1 0 = 1) ∧ (∀ p, p < e.tn e.p → k = Int32.ofNat p → z.2.1 0 = 0 ∧ z.1 = e.tx e.p p) ∧ MRel e t cf z.2.1 z.2.2) := by
    intro hb
    unfold f_M_at_13 f_M_at_18 f_M_at_37
    simp only [wk_let, upd_self, if_neg h10, nc0, if_true]
    refine Res.mk ⟨fun _ => upd_self I 0 1, fun p hp ep => ?_, h.i0 1⟩
    exfalso
    rcases hb with z | z
    · rw [ep] at z; exact pn_nneg (by clear h w tt; omega) z
    · exact z (by rw [ep]; exact (pn_lt (by clear h w tt; omega) (by clear h w tt; omega)).mpr hp)
  unfold f_M_at
  by_cases q1 : k < 0
  · rw [if_pos q1]; exact bad (Or.inl q1)
  rw [if_neg q1, B_len (h.txt w)]
  simp only [Option.bind_some]
  by_cases q2 : k < Int32.ofNat (e.tn e.p)
  · rw [if_pos q2]
    have ek := pn_ofclamp q1
    have hk2 := pn_clamp_lt k
    have hk : k.toNatClampNeg < e.tn e.p := by
      rw [← ek] at q2
      exact (pn_lt hk2 (by clear h w tt; omega)).mp q2
    have hch := B_char ((h.i0 0).txt w) hk
    rw [ek] at hch
    obtain ⟨c, hc, ec⟩ := tt.ch _ hk
    unfold f_M_at_18 f_M_at_37
    simp only [wk_let, upd_self, if_true, hch, Option.bind_some, ec, nar_ch hc]
    refine Res.mk ⟨fun hb => ?_, fun p hp ep => ?_, h.i0 0⟩
    · exfalso
      rcases hb with z | z
      · exact q1 z
      · exact z q2
    · have : p = k.toNatClampNeg := by rw [ep, pn_nat (show p < 2147483648 by clear h w tt; omega)]
      subst this
      exact ⟨upd_self I 0 0, ec.symm⟩
  · rw [if_neg q2]; exact bad (Or.inr q2)
/-- figure's answers -/
def e_fig (e : ES) (k : Int32) : Int32 := if k = 0 then Int32.ofNat e.p else if k = 1 then Int32.ofNat e.n else if k = 2 then Int32.ofNat e.c else if k = 3 then mkI e.mr else Int32.ofNat e.sn
theorem B_figure {e : ES} {t : Nat} {cf : Nat → Nat} {I : MI} {A : MA} (h : MRel e t cf I A) (k : Int32) : Res (f_M_figure I A k) (fun z => (k < 0 ∨ ¬ k ≤ 4 → z.2.1 0 = 1) ∧ (¬ (k < 0 ∨ ¬ k ≤ 4) → z.2.1 0 = 0 ∧ z.1 = e_fig e k) ∧ MRel e t cf z.2.1 z.2.2) := by
  have h1le : ¬ (1 : Int32) ≤ 0 := by decide
  have h0le : (0 : Int32) ≤ 0 := by decide
  have bad : (k < 0 ∨ ¬ k ≤ 4) → Res (f_M_figure_10 I A (upd (fun _ => 0) 1 k)) (fun z => (k < 0 ∨ ¬ k ≤ 4 → z.2.1 0 = 1) ∧ (¬ (k < 0 ∨ ¬ k ≤ 4) → z.2.1 0 = 0 ∧ z.1 = e_fig e k) ∧ MRel e t cf z.2.1 z.2.2) := by
    intro hb
    unfold f_M_figure_10 f_M_figure_15 f_M_figure_80
    simp only [wk_let, upd_self, if_neg h1le]
    exact Res.mk ⟨fun _ => upd_self I 0 1, fun z => (z hb).elim, h.i0 1⟩
  unfold f_M_figure
  by_cases q1 : k < 0
  · rw [if_pos q1]; exact bad (Or.inl q1)
  rw [if_neg q1]
  by_cases q2 : k ≤ 4
  · rw [if_pos q2]
    have hno : ¬ (k < 0 ∨ ¬ k ≤ 4) := fun z => z.elim q1 (fun y => y q2)
    have j4 : upd I 0 0 4 = Int32.ofNat e.p := by rw [upd_ne _ _ (by decide)]; exact h.hp
    have j3 : upd I 0 0 3 = Int32.ofNat e.n := by rw [upd_ne _ _ (by decide)]; exact h.hn
    have j11 : upd I 0 0 11 = Int32.ofNat e.c := by rw [upd_ne _ _ (by decide)]; exact h.hc
    have j12 : upd I 0 0 12 = mkI e.mr := by rw [upd_ne _ _ (by decide)]; exact h.hm
    have j1 : upd I 0 0 1 = Int32.ofNat e.sn := by rw [upd_ne _ _ (by decide)]; exact h.s1
    unfold f_M_figure_15 f_M_figure_80
    simp only [wk_let, upd_self, if_pos h0le, j4, j3, j11, j12, j1]
    unfold e_fig
    by_cases k0 : k = 0
    · rw [if_pos k0, if_pos k0]; exact Res.mk ⟨fun z => (hno z).elim, fun _ => ⟨upd_self I 0 0, rfl⟩, h.i0 0⟩
    rw [if_neg k0, if_neg k0]
    by_cases k1 : k = 1
    · rw [if_pos k1, if_pos k1]; exact Res.mk ⟨fun z => (hno z).elim, fun _ => ⟨upd_self I 0 0, rfl⟩, h.i0 0⟩
    rw [if_neg k1, if_neg k1]
    by_cases k2 : k = 2
    · rw [if_pos k2, if_pos k2]; exact Res.mk ⟨fun z => (hno z).elim, fun _ => ⟨upd_self I 0 0, rfl⟩, h.i0 0⟩
    rw [if_neg k2, if_neg k2]
    by_cases k3 : k = 3
    · rw [if_pos k3, if_pos k3]; exact Res.mk ⟨fun z => (hno z).elim, fun _ => ⟨upd_self I 0 0, rfl⟩, h.i0 0⟩
    rw [if_neg k3, if_neg k3]
    exact Res.mk ⟨fun z => (hno z).elim, fun _ => ⟨upd_self I 0 0, rfl⟩, h.i0 0⟩
  · rw [if_neg q2]; exact bad (Or.inr q2)
theorem B_parent {e : ES} {t : Nat} {cf : Nat → Nat} {I : MI} {A : MA} (h : MRel e t cf I A) (w : EWf e) (k : Int32) : Res (f_M_parent I A k) (fun z => (k < 0 ∨ ¬ k < Int32.ofNat e.n → z.2.1 0 = 1) ∧ (∀ s, s < e.n → k = Int32.ofNat s → z.2.1 0 = 0 ∧ z.1 = mkI (e.pa s)) ∧ MRel e t cf z.2.1 z.2.2) := by
  have hn2 := w.n2
  have h10 : ¬ (1 : Int32) = 0 := by decide
  have bad : (k < 0 ∨ ¬ k < Int32.ofNat e.n) → Res (f_M_parent_13 I A (upd (fun _ => 0) 1 k)) (fun z => (k < 0 ∨ ¬ k < Int32.ofNat e.n → z.2.1 0 = 1) ∧ (∀ s, s < e.n → k = Int32.ofNat s → z.2.1 0 = 0 ∧ z.1 = mkI (e.pa s)) ∧ MRel e t cf z.2.1 z.2.2) := by
    intro hb
    unfold f_M_parent_13 f_M_parent_18 f_M_parent_38
    simp only [wk_let, upd_self, if_neg h10]
    refine Res.mk ⟨fun _ => upd_self I 0 1, fun s hs es => ?_, h.i0 1⟩
    exfalso
    rcases hb with z | z
    · rw [es] at z; exact pn_nneg (by clear h w; omega) z
    · exact z (by rw [es]; exact (pn_lt (by clear h w; omega) (by clear h w; omega)).mpr hs)
  unfold f_M_parent
  by_cases q1 : k < 0
  · rw [if_pos q1]; exact bad (Or.inl q1)
  rw [if_neg q1, h.hn]
  by_cases q2 : k < Int32.ofNat e.n
  · rw [if_pos q2]
    have ek := pn_ofclamp q1
    have hk2 := pn_clamp_lt k
    have hs : k.toNatClampNeg < e.n := by
      rw [← ek] at q2
      exact (pn_lt hk2 (by clear h w; omega)).mp q2
    have i40 : wk_inb k 40 = true := by
      rw [← ek]; exact (pn_inb hk2).mpr (by clear h w; omega)
    unfold f_M_parent_18 f_M_parent_38
    simp only [wk_let, upd_self, if_true, i40, h.hpa _ hs]
    refine Res.mk ⟨fun hb => ?_, fun s hs' es => ?_, h.i0 0⟩
    · exfalso
      rcases hb with z | z
      · exact q1 z
      · exact z q2
    · have : s = k.toNatClampNeg := by rw [es, pn_nat (show s < 2147483648 by clear h w; omega)]
      subst this
      exact ⟨upd_self I 0 0, rfl⟩
  · rw [if_neg q2]; exact bad (Or.inr q2)
-- 66.mop5
/-- what the pattern means on the present text -/
def e_R (e : ES) : Rl := e.pat (e.tn e.p) (e.tx e.p)
def e_fnd (e : ES) (a b : Nat) : ES := (ES.mk e.sn e.sc e.n e.p (b) (some a) e.tn e.tx e.pl e.pa e.lc e.has e.pat e.fl)
theorem EWf.fnd {e : ES} (w : EWf e) {p a b : Nat} (h : Found (e_R e) (e.tn e.p) p a b) : EWf (e_fnd e a b) := by
  obtain ⟨h1, h2, h3, h4, h5⟩ := h
  exact ⟨w.sb, w.sv, w.n1, w.n2, w.pb, w.tt, h3, (fun m hm => by cases hm; exact Nat.le_of_lt h2), w.lb, w.p0, w.ps, w.l1, w.l0⟩
theorem MRel.lk {e : ES} {t : Nat} {cf : Nat → Nat} {I I' : MI} {A A' : MA} (h : MRel e t cf I A) (hF : LkFr I I' A A') : MRel e t cf I' A' := h.fr (fun j _ _ h1 h2 _ => hF.1 j h1 h2) (fun j h1 h2 _ => hF.2 j h1 h2)
theorem B_find {e : ES} {t : Nat} {cf : Nat → Nat} {I : MI} {A : MA} (h : MRel e t cf I A) (w : EWf e) (k : Int32) : Res (f_M_find I A k) (fun z => (e.has = false → z.2.1 0 = 1 ∧ MRel e t cf z.2.1 z.2.2) ∧ (e.has = true → (k < 0 ∨ ¬ k ≤ Int32.ofNat (e.tn e.p)) → z.2.1 0 = 2 ∧ MRel e t cf z.2.1 z.2.2) ∧
    (e.has = true → ∀ p, p ≤ e.tn e.p → k = Int32.ofNat p → (NotFound (e_R e) (e.tn e.p) p ∧ z.2.1 0 = 3 ∧ MRel e t cf z.2.1 z.2.2) ∨ (∃ a b, Found (e_R e) (e.tn e.p) p a b ∧ z.2.1 0 = 0 ∧ z.1 = Int32.ofNat a ∧ MRel (e_fnd e a b) t cf z.2.1 z.2.2))) := by
  have tt := w.tt _ w.pb
  have ht := tt.nb
  have h10 : ¬ (1 : Int32) = 0 := by decide
  have h20 : ¬ (2 : Int32) = 0 := by decide
  have h1le : ¬ (1 : Int32) ≤ 0 := by decide
  have h2le : ¬ (2 : Int32) ≤ 0 := by decide
  have h3le : ¬ (3 : Int32) ≤ 0 := by decide
  have h0le : (0 : Int32) ≤ 0 := by decide
  obtain ⟨X, hX⟩ : ∃ X, X = upd (fun _ => (0 : Int32)) 1 k := ⟨_, rfl⟩
  have x1 : X 1 = k := by rw [hX, upd_self]
  unfold f_M_find
  rw [← hX, h.hh]
  cases hh : e.has with
  | false =>
    rw [if_pos (show g_flag false = 0 from rfl)]
    unfold f_M_find_29 f_M_find_52
    simp only [wk_let, upd_self, if_neg h10, if_neg h1le]
    exact Res.mk ⟨fun _ => ⟨upd_self I 0 1, h.i0 1⟩, (fun z => by cases z), (fun z => by cases z)⟩
  | true =>
    rw [if_neg (show ¬ g_flag true = 0 from h10)]
    have bad : (k < 0 ∨ ¬ k ≤ Int32.ofNat (e.tn e.p)) → Res (f_M_find_24 I A X) (fun z => (true = false → z.2.1 0 = 1 ∧ MRel e t cf z.2.1 z.2.2) ∧ (true = true → (k < 0 ∨ ¬ k ≤ Int32.ofNat (e.tn e.p)) → z.2.1 0 = 2 ∧ MRel e t cf z.2.1 z.2.2) ∧
        (true = true → ∀ p, p ≤ e.tn e.p → k = Int32.ofNat p → (NotFound (e_R e) (e.tn e.p) p ∧ z.2.1 0 = 3 ∧ MRel e t cf z.2.1 z.2.2) ∨ (∃ a b, Found (e_R e) (e.tn e.p) p a b ∧ z.2.1 0 = 0 ∧ z.1 = Int32.ofNat a ∧ MRel (e_fnd e a b) t cf z.2.1 z.2.2))) := by
      intro hb
      unfold f_M_find_24 f_M_find_29 f_M_find_52
      simp only [wk_let, upd_self, if_neg h20, if_neg h2le]
      refine Res.mk ⟨(fun z => by cases z), fun _ _ => ⟨upd_self I 0 2, h.i0 2⟩, fun _ p hp ep => ?_⟩
      exfalso
      rcases hb with z | z
      · rw [ep] at z; exact pn_nneg (by clear h w tt; omega) z
      · exact z (by rw [ep]; exact (pn_le (by clear h w tt; omega) (by clear h w tt; omega)).mpr hp)
    by_cases q1 : k < 0
    · rw [if_pos q1]; exact bad (Or.inl q1)
    rw [if_neg q1, B_len (h.txt w)]
    simp only [Option.bind_some]
    by_cases q2 : k ≤ Int32.ofNat (e.tn e.p)
    · rw [if_pos q2]
      have ek := pn_ofclamp q1
      have hk2 := pn_clamp_lt k
      have hk : k.toNatClampNeg ≤ e.tn e.p := by
        rw [← ek] at q2
        exact (pn_le hk2 (by clear h w tt; omega)).mp q2
      have h0 := h.i0 0
      have hR : RMean (e.tn e.p) (e.tx e.p) (upd I 0 0) A (e_R e) := h0.pm hh _ _ tt
      have hlk := B_look hR (h0.txt w) hk
      rw [ek] at hlk
      unfold f_M_find_29
      simp only [wk_let, upd_self, if_true]
      rw [x1]
      have same : ∀ p, p ≤ e.tn e.p → k = Int32.ofNat p → p = k.toNatClampNeg := fun p hp ep => by rw [ep, pn_nat (show p < 2147483648 by clear h w tt h0; omega)]
      rcases hlk with ⟨I1, A1, e1, hF, hnf⟩ | ⟨I1, A1, a, b, e1, hF, i34, i35, hfd⟩
      · rw [e1]
        simp only [Option.bind_some, if_true]
        unfold f_M_find_52
        simp only [wk_let, upd_self, if_neg h3le]
        refine Res.mk ⟨(fun z => by cases z), fun _ hb => ?_, fun _ p hp ep => Or.inl ⟨?_, upd_self I1 0 3, ((h0.lk hF).i0 3)⟩⟩
        · exfalso
          rcases hb with z | z
          · exact q1 z
          · exact z q2
        · rw [same p hp ep]; exact hnf
      · rw [e1]
        simp only [Option.bind_some]
        rw [if_neg h10]
        have i0 : I1 0 = 0 := by rw [hF.1 0 (by decide) (by decide)]; exact upd_self _ _ _
        unfold f_M_find_52
        simp only [wk_let]
        rw [i0, if_pos h0le]
        obtain ⟨I2, hI2⟩ : ∃ I2, I2 = upd I1 12 (I1 34) := ⟨_, rfl⟩
        obtain ⟨I3, hI3⟩ : ∃ I3, I3 = upd I2 11 (I2 35) := ⟨_, rfl⟩
        rw [← hI2, ← hI3]
        have a12 : I3 12 = Int32.ofNat a := by rw [hI3, upd_ne _ _ (by decide), hI2, upd_self]; exact i34
        have a11 : I3 11 = Int32.ofNat b := by rw [hI3, upd_self, hI2, upd_ne _ _ (by decide)]; exact i35
        have ao : ∀ j, j ≠ 11 → j ≠ 12 → I3 j = I1 j := fun j z1 z2 => by rw [hI3, upd_ne _ _ z1, hI2, upd_ne _ _ z2]
        refine Res.mk ⟨(fun z => by cases z), fun _ hb => ?_, fun _ p hp ep => Or.inr ⟨a, b, ?_, ?_, a12, (h0.lk hF).cm2 (I' := I3) a11 a12 (fun j _ z1 z2 _ _ => ao j z1 z2)⟩⟩
        · exfalso
          rcases hb with z | z
          · exact q1 z
          · exact z q2
        · rw [same p hp ep]; exact hfd
        · show I3 0 = 0
          rw [ao 0 (by decide) (by decide)]; exact i0
    · rw [if_neg q2]; exact (bad (Or.inr q2)).imp (fun z hz => ⟨hz.1, fun _ => hz.2.1 rfl, fun _ => hz.2.2 rfl⟩)
/-- what a slip means as a pattern -/
def c_pat (s : Nat → Nat) (n : Nat) : Nat → (Nat → Int32) → Rl := fun tn tx => match rd tn tx s n (n + 1) 0 (st_open []) with
  | Sum.inr (x :: _) => rl_all x
  | _ => rl_no
def c_rd (s : Nat → Nat) (n : Nat) : Rd := rd 0 (fun _ => 0) s n (n + 1) 0 (st_open [])
def e_cf (e : ES) (p : Nat) : ES := (ES.mk e.sn e.sc e.n e.p e.c e.mr e.tn e.tx e.pl e.pa e.lc e.has e.pat (some p))
def e_cd (e : ES) (s : Nat → Nat) : ES := (ES.mk (0) e.sc e.n e.p e.c e.mr e.tn e.tx e.pl e.pa e.lc (true) (c_pat s e.sn) (none))
theorem EWf.cf {e : ES} (w : EWf e) (p : Nat) : EWf (e_cf e p) := ⟨w.sb, w.sv, w.n1, w.n2, w.pb, w.tt, w.cb, w.mb, w.lb, w.p0, w.ps, w.l1, w.l0⟩
theorem EWf.cd {e : ES} (w : EWf e) (s : Nat → Nat) : EWf (e_cd e s) := ⟨Nat.zero_le _, fun k hk => absurd hk (Nat.not_lt_zero _), w.n1, w.n2, w.pb, w.tt, w.cb, w.mb, w.lb, w.p0, w.ps, w.l1, w.l0⟩
theorem Txt0 : Txt 0 (fun _ => 0) := ⟨Nat.zero_le _, fun k hk => absurd hk (Nat.not_lt_zero _)⟩
theorem B_compileE {e : ES} {t : Nat} {cf : Nat → Nat} {I : MI} {A : MA} (h : MRel e t cf I A) (w : EWf e) : ∃ s : Nat → Nat, (∀ k, k < e.sn → s k = e.sc k) ∧ Res (f_M_compile I A) (fun z => match c_rd s e.sn with
    | Sum.inl p => z.2.1 0 = 1 ∧ MRel (e_cf e p) t cf z.2.1 z.2.2
    | Sum.inr _ => z.2.1 0 = 0 ∧ MRel (e_cd e s) t cf z.2.1 z.2.2) := by
  have hsb := w.sb
  have hpv : ∀ k, ∃ c, c < 128 ∧ (k < 24 → A 16 k = Int32.ofNat c) := fun k => by
    by_cases q : k < 24
    · obtain ⟨c, hc, ec⟩ := h.pv k q; exact ⟨c, hc, fun _ => ec⟩
    · exact ⟨0, by decide, fun z => (q z).elim⟩
  obtain ⟨old, hold⟩ := Classical.axiomOfChoice hpv
  refine ⟨fun k => if k < e.sn then e.sc k else old k, fun k hk => if_pos hk, ?_⟩
  obtain ⟨s, hs⟩ : ∃ s : Nat → Nat, s = fun k => if k < e.sn then e.sc k else old k := ⟨_, rfl⟩
  rw [← hs]
  have s1 : ∀ k, k < 24 → s k < 128 := fun k _ => by
    rw [hs]
    show (if k < e.sn then e.sc k else old k) < 128
    split
    · rename_i q; exact w.sv k q
    · exact (hold k).1
  have s2 : ∀ j, j < e.sn → A 2 j = Int32.ofNat (s j) := fun j hj => by
    rw [h.s2 j hj, hs]
    show Int32.ofNat (e.sc j) = Int32.ofNat (if j < e.sn then e.sc j else old j)
    rw [if_pos hj]
  have s3 : ∀ j, j < 24 → e.sn ≤ j → A 16 j = Int32.ofNat (s j) := fun j hj hn => by
    rw [(hold j).2 hj, hs]
    show Int32.ofNat (old j) = Int32.ofNat (if j < e.sn then e.sc j else old j)
    rw [if_neg (by clear h w; omega)]
  have all : ∀ tn tx, Txt tn tx → Res (f_M_compile I A) (MCOut tn tx e.sn I A (rd tn tx s e.sn (e.sn + 1) 0 (st_open []))) := fun tn tx hT => B_compile hT hsb s1 s2 s3 h.s1
  obtain ⟨z, ez, hz⟩ := all 0 (fun _ => 0) Txt0
  refine ⟨z, ez, ?_⟩
  have all' : ∀ tn tx, Txt tn tx → MCOut tn tx e.sn I A (rd tn tx s e.sn (e.sn + 1) 0 (st_open [])) z := fun tn tx hT => by
    obtain ⟨z', ez', hz'⟩ := all tn tx hT
    rw [ez] at ez'
    cases ez'
    exact hz'
  rcases ho : c_rd s e.sn with p | st
  · have ho' : rd 0 (fun _ => 0) s e.sn (e.sn + 1) 0 (st_open []) = Sum.inl p := ho
    rw [ho'] at hz
    obtain ⟨e1, e2⟩ := hz
    refine ⟨by rw [e1, upd_ne _ _ (by decide), upd_self], ?_⟩
    rw [e1, e2]
    have h1 := h.i0 1
    refine ⟨?_, h.s2, ?_, ?_, h.tl, h.tc, ?_, ?_, h.hpl, h.hpa, ?_, h.cm, h.cl, ?_, upd_self _ _ _, h.pv, ?_⟩
    · rw [upd_ne _ _ (by decide)]; exact h1.s1
    · rw [upd_ne _ _ (by decide)]; exact h1.hn
    · rw [upd_ne _ _ (by decide)]; exact h1.hp
    · rw [upd_ne _ _ (by decide)]; exact h1.hc
    · rw [upd_ne _ _ (by decide)]; exact h1.hm
    · rw [upd_ne _ _ (by decide)]; exact h1.ck
    · rw [upd_ne _ _ (by decide)]; exact h1.hh
    · intro hhas tn tx hT
      exact (h1.pm hhas tn tx hT).frame (upd_ne _ _ (by decide)) (upd_ne _ _ (by decide)) (upd_ne _ _ (by decide)) (fun _ _ _ => rfl)
  · have ho' : rd 0 (fun _ => 0) s e.sn (e.sn + 1) 0 (st_open []) = Sum.inr st := ho
    rw [ho'] at hz
    obtain ⟨a0, a1, a13, a14, ai, aa, x, ex, hx⟩ := hz
    refine ⟨a0, a1, fun k hk => absurd hk (Nat.not_lt_zero _), ?_, ?_, ?_, ?_, ?_, ?_, ?_, ?_, ?_, ?_, h.cl, a13, a14, ?_, fun _ tn tx hT => ?_⟩
    · rw [ai 3 (by omega)]; exact h.hn
    · rw [ai 4 (by omega)]; exact h.hp
    · rw [aa 6 (by omega)]; exact h.tl
    · rw [aa 5 (by omega)]; exact h.tc
    · rw [ai 11 (by omega)]; exact h.hc
    · rw [ai 12 (by omega)]; exact h.hm
    · rw [aa 7 (by omega)]; exact h.hpl
    · rw [aa 8 (by omega)]; exact h.hpa
    · rw [ai 10 (by omega)]; exact h.ck
    · rw [aa 9 (by omega)]; exact h.cm
    · obtain ⟨s', n', on', tw', lab', fs', ls', hD⟩ := hx
      exact fun k hk => ⟨s' k, (hD.hpat k hk).2, (hD.hpat k hk).1⟩
    · have hT' := all' tn tx hT
      show RMean tn tx z.2.1 z.2.2 (c_pat s e.sn tn tx)
      unfold c_pat
      rcases hr : rd tn tx s e.sn (e.sn + 1) 0 (st_open []) with p | st2
      · rw [hr] at hT'
        obtain ⟨e1, _⟩ := hT'
        rw [e1, upd_ne _ _ (by decide), upd_self] at a0
        exact absurd a0 (by decide)
      · rw [hr] at hT'
        obtain ⟨_, _, _, _, _, _, x2, ex2, hx2⟩ := hT'
        rw [ex2]; exact hx2
-- 67.mop6
/-- all matches from a place on -/
def Ms (R : Rl) (tn : Nat) : Nat → List (Nat × Nat) → Prop
  | p, [] => NotFound R tn p
  | p, (a, b) :: l => Found R tn p a b ∧ Ms R tn b l
def rp_len (sn tn : Nat) : Nat → List (Nat × Nat) → Nat
  | p, [] => tn - p
  | p, (a, b) :: l => (a - p) + sn + rp_len sn tn b l
def rp_tx (sn : Nat) (sc : Nat → Nat) (tx : Nat → Int32) : Nat → List (Nat × Nat) → Nat → Int32
  | p, [], k => tx (p + k)
  | p, (a, b) :: l, k => if k < a - p then tx (p + k) else if k < a - p + sn then Int32.ofNat (sc (k - (a - p))) else rp_tx sn sc tx b l (k - (a - p + sn))
def rp_pl (sn : Nat) : Nat → List (Nat × Nat) → Nat
  | _, [] => 0
  | p, (a, b) :: l => (a - p) + sn + rp_pl sn b l
theorem Found.uniq {R : Rl} {tn p a b a' b' : Nat} (h : Found R tn p a b) (h' : Found R tn p a' b') : a = a' ∧ b = b' := by
  obtain ⟨h1, h2, h3, h4, h5⟩ := h
  obtain ⟨g1, g2, g3, g4, g5⟩ := h'
  have ea : a = a' := by
    rcases Nat.lt_trichotomy a a' with z | z | z
    · exact (g5 a h1 z b h4.1 h4.2.1).elim
    · exact z
    · exact (h5 a' g1 z b' g4.1 g4.2.1).elim
  subst ea
  have q1 := h4.2.2 b' g4.2.1
  have q2 := g4.2.2 b h4.2.1
  exact ⟨rfl, by omega⟩
theorem Found.not {R : Rl} {tn p a b : Nat} (h : Found R tn p a b) (h' : NotFound R tn p) : False := h' a h.1 h.2.1 b h.2.2.2.1.1 h.2.2.2.1.2.1
theorem Ms.uniq {R : Rl} {tn : Nat} : ∀ (l l' : List (Nat × Nat)) (p : Nat), Ms R tn p l → Ms R tn p l' → l = l'
  | [], [], _, _, _ => rfl
  | [], (_, _) :: _, _, h, h' => (h'.1.not h).elim
  | (_, _) :: _, [], _, h, h' => (h.1.not h').elim
  | (a, b) :: l, (a', b') :: l', p, h, h' => by
    obtain ⟨e1, e2⟩ := h.1.uniq h'.1
    subst e1; subst e2
    rw [Ms.uniq l l' b h.2 h'.2]
theorem rp_pl_le {R : Rl} {tn sn : Nat} : ∀ (l : List (Nat × Nat)) (p : Nat), Ms R tn p l → rp_pl sn p l ≤ rp_len sn tn p l
  | [], _, _ => Nat.zero_le _
  | (a, b) :: l, p, h => by
    have := rp_pl_le (sn := sn) l b h.2
    simp only [rp_pl, rp_len]; omega
theorem rp_txt {R : Rl} {tn sn : Nat} {sc : Nat → Nat} {tx : Nat → Int32} (hT : Txt tn tx) (hs : ∀ k, k < sn → sc k < 128) : ∀ (l : List (Nat × Nat)) (p : Nat), Ms R tn p l → ∀ k, k < rp_len sn tn p l → ∃ c, c < 128 ∧ rp_tx sn sc tx p l k = Int32.ofNat c
  | [], p, _, k, hk => by
    have hk' : k < tn - p := hk
    exact hT.ch (p + k) (by clear hT; omega)
  | (a, b) :: l, p, h, k, hk => by
    have hk' : k < (a - p) + sn + rp_len sn tn b l := hk
    have h2 := h.1.2.1
    have h1 := h.1.1
    show ∃ c, c < 128 ∧ (if k < a - p then tx (p + k) else if k < a - p + sn then Int32.ofNat (sc (k - (a - p))) else rp_tx sn sc tx b l (k - (a - p + sn))) = Int32.ofNat c
    by_cases q1 : k < a - p
    · rw [if_pos q1]; exact hT.ch (p + k) (by clear hT h; omega)
    · rw [if_neg q1]
      by_cases q2 : k < a - p + sn
      · rw [if_pos q2]; exact ⟨_, hs _ (by clear hT h; omega), rfl⟩
      · rw [if_neg q2]; exact rp_txt hT hs l b h.2 _ (by clear hT h; omega)
theorem rp_go (g : Nat) (I : MI) (A : MA) (X : Nat → Int32) : f_M_replace_go (g + 1) 36 I A X = f_M_replace_36 (f_M_replace_go g) I A X := rfl
/-- the end of replace -/
def rp_tail (rc : Nat → MI → MA → (Nat → Int32) → Option (Int32 × MI × MA)) (I3 : MI) (A3 : MA) (X : Nat → Int32) : Option (Int32 × MI × MA) :=
  if (X 1) ≤ 0 then f_M_replace_110 rc I3 A3 X else if 160 < (I3 36) then f_M_replace_106 rc I3 A3 X else if (I3 3) = 40 then f_M_replace_106 rc I3 A3 X else f_M_replace_110 rc I3 A3 X
theorem B_rep_go {e : ES} {t : Nat} {cf : Nat → Nat} (w : EWf e) (hh : e.has = true) {Q : Int32 × MI × MA → Prop} : ∀ (d p m cnt fuel : Nat) (I : MI) (A : MA) (X : Nat → Int32), MRel e t cf I A → e.tn e.p - p ≤ d → p ≤ e.tn e.p → m ≤ 25 * p → cnt ≤ p → d < fuel → I 36 = Int32.ofNat m → X 1 = Int32.ofNat cnt → X 2 = Int32.ofNat p →
    (∀ (rc : Nat → MI → MA → (Nat → Int32) → Option (Int32 × MI × MA)) (ms : List (Nat × Nat)) (I3 : MI) (A3 : MA) (X3 : Nat → Int32), Ms (e_R e) (e.tn e.p) p ms → MRel e t cf I3 A3 → I3 36 = Int32.ofNat (m + rp_len e.sn (e.tn e.p) p ms) → (∀ k, m ≤ k → k < m + rp_len e.sn (e.tn e.p) p ms → A3 37 k = rp_tx e.sn e.sc (e.tx e.p) p ms (k - m)) → (∀ k, k < m → A3 37 k = A 37 k) → X3 1 = Int32.ofNat (cnt + ms.length) → cnt + ms.length ≤ e.tn e.p → m + rp_len e.sn (e.tn e.p) p ms ≤ 4000 → (ms = [] → X3 3 = X 3) → (ms ≠ [] → X3 3 = Int32.ofNat (m + rp_pl e.sn p ms)) → I3 0 = I 0 → Res (rp_tail rc I3 A3 X3) Q) →
    Res (f_M_replace_go fuel 36 I A X) Q := by
  have tt := w.tt _ w.pb
  have ht := tt.nb
  have hsb := w.sb
  have h10 : ¬ (1 : Int32) = 0 := by decide
  intro d
  induction d with
  | zero =>
    intro p m cnt fuel I A X h hd hp hm hc hf i36 x1 x2 hQ
    obtain ⟨g, rfl⟩ : ∃ g, fuel = g + 1 := ⟨fuel - 1, by clear h w tt; omega⟩
    have hR : RMean (e.tn e.p) (e.tx e.p) I A (e_R e) := h.pm hh _ _ tt
    rw [rp_go]
    unfold f_M_replace_36
    rw [x2]
    rcases B_look hR (h.txt w) hp with ⟨I1, A1, e1, hF, hnf⟩ | ⟨I1, A1, a, b, e1, hF, i34, i35, hfd⟩
    · rw [e1]
      simp only [Option.bind_some, if_true]
      have r1 := h.lk hF
      rw [B_len (r1.txt w)]
      simp only [Option.bind_some]
      refine (B_addText (r1.txt w) hp (Nat.le_refl _) (show m + (e.tn e.p - p) ≤ 4000 by clear h w tt r1; omega) (by rw [hF.1 36 (by decide) (by decide)]; exact i36)).bind ?_
      rintro ⟨c0, I3, A3⟩ ⟨c36, ci, ca, cd⟩
      simp only at c36 ci ca cd
      have r3 : MRel e t cf I3 A3 := r1.fr (fun j _ _ _ _ q => ci j q) (fun j _ _ q => ca j q)
      refine hQ _ [] I3 A3 X hnf r3 c36 (fun k k1 k2 => ?_) (fun k hk => ?_) x1 (by show cnt + 0 ≤ _; clear h w tt r1 r3; omega) (by show m + (e.tn e.p - p) ≤ 4000; clear h w tt r1 r3; omega) (fun _ => rfl) (fun z => (z rfl).elim) (by rw [ci 0 (by decide), hF.1 0 (by decide) (by decide)])
      · have k2' : k < m + (e.tn e.p - p) := k2
        rw [cd k, if_pos ⟨k1, k2'⟩]; rfl
      · rw [cd k, if_neg (by clear h w tt r1 r3; omega), hF.2 37 (by decide) (by decide)]
    · have z1 := hfd.1
      have z2 := hfd.2.1
      clear h w tt; omega
  | succ d ih =>
    intro p m cnt fuel I A X h hd hp hm hc hf i36 x1 x2 hQ
    obtain ⟨g, rfl⟩ : ∃ g, fuel = g + 1 := ⟨fuel - 1, by clear h w tt; omega⟩
    have hR : RMean (e.tn e.p) (e.tx e.p) I A (e_R e) := h.pm hh _ _ tt
    rw [rp_go]
    unfold f_M_replace_36
    rw [x2]
    rcases B_look hR (h.txt w) hp with ⟨I1, A1, e1, hF, hnf⟩ | ⟨I1, A1, a, b, e1, hF, i34, i35, hfd⟩
    · rw [e1]
      simp only [Option.bind_some, if_true]
      have r1 := h.lk hF
      rw [B_len (r1.txt w)]
      simp only [Option.bind_some]
      refine (B_addText (r1.txt w) hp (Nat.le_refl _) (show m + (e.tn e.p - p) ≤ 4000 by clear h w tt r1; omega) (by rw [hF.1 36 (by decide) (by decide)]; exact i36)).bind ?_
      rintro ⟨c0, I3, A3⟩ ⟨c36, ci, ca, cd⟩
      simp only at c36 ci ca cd
      have r3 : MRel e t cf I3 A3 := r1.fr (fun j _ _ _ _ q => ci j q) (fun j _ _ q => ca j q)
      refine hQ _ [] I3 A3 X hnf r3 c36 (fun k k1 k2 => ?_) (fun k hk => ?_) x1 (by show cnt + 0 ≤ _; clear h w tt r1 r3; omega) (by show m + (e.tn e.p - p) ≤ 4000; clear h w tt r1 r3; omega) (fun _ => rfl) (fun z => (z rfl).elim) (by rw [ci 0 (by decide), hF.1 0 (by decide) (by decide)])
      · have k2' : k < m + (e.tn e.p - p) := k2
        rw [cd k, if_pos ⟨k1, k2'⟩]; rfl
      · rw [cd k, if_neg (by clear h w tt r1 r3; omega), hF.2 37 (by decide) (by decide)]
    · have z1 := hfd.1
      have z2 := hfd.2.1
      have z3 := hfd.2.2.1
      have z4 := hfd.2.2.2.1.1
      rw [e1]
      simp only [Option.bind_some]
      rw [if_neg h10, i34]
      have r1 := h.lk hF
      refine (B_addText (r1.txt w) z1 (Nat.le_of_lt z2) (show m + (a - p) ≤ 4000 by clear h w tt r1 hfd; omega) (by rw [hF.1 36 (by decide) (by decide)]; exact i36)).bind ?_
      rintro ⟨c0, I2, A2⟩ ⟨c36, ci, ca, cd⟩
      simp only at c36 ci ca cd
      have r2 : MRel e t cf I2 A2 := r1.fr (fun j _ _ _ _ q => ci j q) (fun j _ _ q => ca j q)
      simp only
      refine (B_addSlip (sc := e.sc) hsb (show m + (a - p) + e.sn ≤ 4000 by clear h w tt r1 r2 hfd; omega) r2.s1 c36 (fun j hj => ⟨r2.s2 j hj, w.sv j hj⟩)).bind ?_
      rintro ⟨b0, I3, A3⟩ ⟨b36, bi, ba, bd⟩
      simp only at b36 bi ba bd
      have r3 : MRel e t cf I3 A3 := r2.fr (fun j _ _ _ _ q => bi j q) (fun j _ _ q => ba j q)
      simp only
      have j35 : I3 35 = Int32.ofNat b := by rw [bi 35 (by decide), ci 35 (by decide)]; exact i35
      rw [j35, b36, x1, pn_succ]
      refine ih b (m + (a - p) + e.sn) (cnt + 1) g I3 A3 _ r3 (by clear h w tt r1 r2 r3 hfd; omega) z3 (by clear h w tt r1 r2 r3 hfd; omega) (by clear h w tt r1 r2 r3 hfd; omega) (by clear h w tt r1 r2 r3 hfd; omega) b36 (by rw [upd_ne _ _ (by decide), upd_ne _ _ (by decide), upd_self]) (by rw [upd_ne _ _ (by decide), upd_self]) (fun rc ms I4 A4 X4 k1 k2 k3 k4 k5 k6 k7 k8 k9 k10 k11 => ?_)
      have el : m + (a - p) + e.sn + rp_len e.sn (e.tn e.p) b ms = m + rp_len e.sn (e.tn e.p) p ((a, b) :: ms) := by simp only [rp_len]; clear h w tt r1 r2 r3 hfd k2; omega
      refine hQ rc ((a, b) :: ms) I4 A4 X4 ⟨hfd, k1⟩ k2 (by rw [k3, el]) (fun k q1 q2 => ?_) (fun k hk => ?_) (by rw [k6]; show Int32.ofNat (cnt + 1 + ms.length) = Int32.ofNat (cnt + (ms.length + 1)); rw [show cnt + 1 + ms.length = cnt + (ms.length + 1) by clear h w tt r1 r2 r3 hfd k2; omega]) (by show cnt + (ms.length + 1) ≤ _; clear h w tt r1 r2 r3 hfd k2; omega) (by rw [← el]; exact k8) (fun z => by cases z) (fun _ => ?_) (by rw [k11, bi 0 (by decide), ci 0 (by decide), hF.1 0 (by decide) (by decide)])
      · rw [← el] at q2
        show A4 37 k = if k - m < a - p then e.tx e.p (p + (k - m)) else if k - m < a - p + e.sn then Int32.ofNat (e.sc (k - m - (a - p))) else rp_tx e.sn e.sc (e.tx e.p) b ms (k - m - (a - p + e.sn))
        by_cases s3 : m + (a - p) + e.sn ≤ k
        · rw [k4 k s3 q2, if_neg (by clear h w tt r1 r2 r3 hfd k2; omega), if_neg (by clear h w tt r1 r2 r3 hfd k2; omega), show k - m - (a - p + e.sn) = k - (m + (a - p) + e.sn) by clear h w tt r1 r2 r3 hfd k2; omega]
        · rw [k5 k (by clear h w tt r1 r2 r3 hfd k2; omega), bd k]
          by_cases s2 : m + (a - p) ≤ k
          · rw [if_pos (by clear h w tt r1 r2 r3 hfd k2; omega), if_neg (by clear h w tt r1 r2 r3 hfd k2; omega), if_pos (by clear h w tt r1 r2 r3 hfd k2; omega)]
            show Int32.ofNat (e.sc (k - (m + (a - p)))) = _
            rw [show k - (m + (a - p)) = k - m - (a - p) by clear h w tt r1 r2 r3 hfd k2; omega]
          · rw [if_neg (by clear h w tt r1 r2 r3 hfd k2; omega), cd k, if_pos (by clear h w tt r1 r2 r3 hfd k2; omega), if_pos (by clear h w tt r1 r2 r3 hfd k2; omega)]
      · rw [k5 k (by clear h w tt r1 r2 r3 hfd k2; omega), bd k, if_neg (by clear h w tt r1 r2 r3 hfd k2; omega), cd k, if_neg (by clear h w tt r1 r2 r3 hfd k2; omega), hF.2 37 (by decide) (by decide)]
      · cases ms with
        | nil =>
          rw [k9 rfl, upd_self]
          show Int32.ofNat (m + (a - p) + e.sn) = Int32.ofNat (m + ((a - p) + e.sn + 0))
          rw [show m + (a - p) + e.sn = m + ((a - p) + e.sn + 0) by clear h w tt r1 r2 r3 hfd k2; omega]
        | cons y ms =>
          rw [k10 (List.cons_ne_nil _ _)]
          show Int32.ofNat (m + (a - p) + e.sn + rp_pl e.sn b (y :: ms)) = Int32.ofNat (m + ((a - p) + e.sn + rp_pl e.sn b (y :: ms)))
          rw [show m + (a - p) + e.sn + rp_pl e.sn b (y :: ms) = m + ((a - p) + e.sn + rp_pl e.sn b (y :: ms)) by clear h w tt r1 r2 r3 hfd k2; omega]
/-- replace, when all matches are known -/
def e_rep (e : ES) (ms : List (Nat × Nat)) : ES := if ms = [] then e_sn e 0 else if 160 < rp_len e.sn (e.tn e.p) 0 ms ∨ e.n = 40 then e else e_sn (e_edit e (rp_len e.sn (e.tn e.p) 0 ms) (rp_tx e.sn e.sc (e.tx e.p) 0 ms) (rp_pl e.sn 0 ms)) 0
def e_rok (e : ES) (ms : List (Nat × Nat)) : Bool := decide (ms = [] ∨ ¬ (160 < rp_len e.sn (e.tn e.p) 0 ms ∨ e.n = 40))
theorem EWf.rep {e : ES} (w : EWf e) {ms : List (Nat × Nat)} (h : Ms (e_R e) (e.tn e.p) 0 ms) : EWf (e_rep e ms) := by
  unfold e_rep
  by_cases q : ms = []
  · rw [if_pos q]; exact w.sn0
  · rw [if_neg q]
    by_cases q2 : 160 < rp_len e.sn (e.tn e.p) 0 ms ∨ e.n = 40
    · rw [if_pos q2]; exact w
    · rw [if_neg q2]
      have hn2 := w.n2
      exact (w.edit (by clear w; omega) ⟨by clear w; omega, rp_txt (w.tt _ w.pb) w.sv ms 0 h⟩ (rp_pl_le ms 0 h)).sn0
theorem B_replace {e : ES} {t : Nat} {cf : Nat → Nat} {I : MI} {A : MA} (h : MRel e t cf I A) (w : EWf e) : Res (f_M_replace I A) (fun z => (e.has = false → z.2.1 0 = 1 ∧ MRel e t cf z.2.1 z.2.2) ∧ (e.has = true → ∃ ms t' cf', t' ≤ t + 1 ∧ Ms (e_R e) (e.tn e.p) 0 ms ∧ MRel (e_rep e ms) t' cf' z.2.1 z.2.2 ∧ (e_rok e ms = true → z.2.1 0 = 0 ∧ z.1 = Int32.ofNat ms.length) ∧ (e_rok e ms = false → z.2.1 0 = 1))) := by
  have fu := wk_FUEL_big
  have tt := w.tt _ w.pb
  have ht := tt.nb
  have hn2 := w.n2
  have h10 : ¬ (1 : Int32) = 0 := by decide
  have h1le : ¬ (1 : Int32) ≤ 0 := by decide
  have h0le : (0 : Int32) ≤ 0 := by decide
  unfold f_M_replace f_M_replace_e
  generalize wk_FUEL = F at fu ⊢
  rw [h.hh]
  cases hh : e.has with
  | false =>
    rw [if_pos (show g_flag false = 0 from rfl)]
    unfold f_M_replace_13
    simp only [wk_let, upd_self, if_neg h1le]
    exact Res.mk ⟨fun _ => ⟨upd_self I 0 1, h.i0 1⟩, (fun z => by cases z)⟩
  | true =>
    rw [if_neg (show ¬ g_flag true = 0 from h10)]
    unfold f_M_replace_13
    simp only [wk_let, upd_self, if_pos h0le]
    have r0 : MRel e t cf (upd (upd I 0 0) 36 0) A := (h.i0 0).fr (fun j _ _ _ _ q => upd_ne _ _ q) (fun _ _ _ _ => rfl)
    obtain ⟨I0, hI0⟩ : ∃ I0, I0 = upd (upd I 0 0) 36 0 := ⟨_, rfl⟩
    rw [← hI0] at r0 ⊢
    have i36 : I0 36 = Int32.ofNat 0 := by rw [hI0]; exact upd_self _ _ _
    have z00 : I0 0 = 0 := by rw [hI0, upd_ne _ _ (by decide), upd_self]
    refine B_rep_go w hh (e.tn e.p) 0 0 0 F I0 A _ r0 (by clear h w tt r0; omega) (Nat.zero_le _) (Nat.le_refl _) (Nat.le_refl _) (by clear h w tt r0; omega) i36 rfl rfl (fun rc ms I3 A3 X3 k1 k2 k3 k4 k5 k6 k7 k8 k9 k10 k11 => ?_)
    rw [Nat.zero_add] at k3 k6 k7 k8
    have i30 : I3 0 = 0 := by rw [k11]; exact z00
    refine Res.imp (P := fun z => ∃ t' cf', t' ≤ t + 1 ∧ MRel (e_rep e ms) t' cf' z.2.1 z.2.2 ∧ (e_rok e ms = true → z.2.1 0 = 0 ∧ z.1 = Int32.ofNat ms.length) ∧ (e_rok e ms = false → z.2.1 0 = 1)) ?_ (fun z hz => ⟨(fun z => by cases z), fun _ => by obtain ⟨t', cf', q1, q2, q3⟩ := hz; exact ⟨ms, t', cf', q1, k1, q2, q3⟩⟩)
    unfold rp_tail
    rw [k6]
    have bad : ms ≠ [] → (160 < rp_len e.sn (e.tn e.p) 0 ms ∨ e.n = 40) → Res (f_M_replace_106 rc I3 A3 X3) (fun z => ∃ t' cf', t' ≤ t + 1 ∧ MRel (e_rep e ms) t' cf' z.2.1 z.2.2 ∧ (e_rok e ms = true → z.2.1 0 = 0 ∧ z.1 = Int32.ofNat ms.length) ∧ (e_rok e ms = false → z.2.1 0 = 1)) := by
      intro q0 q1
      unfold f_M_replace_106 f_M_replace_111
      simp only [wk_let, upd_self, if_neg h1le]
      have ee : e_rep e ms = e := by unfold e_rep; rw [if_neg q0, if_pos q1]
      rw [ee]
      refine Res.mk ⟨t, cf, Nat.le_succ _, k2.i0 1, fun z => ?_, fun _ => upd_self I3 0 1⟩
      exact ((of_decide_eq_true z).elim q0 (fun y => y q1)).elim
    by_cases q0 : ms = []
    · have e0 : ms.length = 0 := by rw [q0]; rfl
      rw [e0, if_pos (show Int32.ofNat 0 ≤ 0 from h0le)]
      unfold f_M_replace_110 f_M_replace_111 f_M_replace_132
      simp only [wk_let, upd_self, if_pos h0le]
      rw [k6, e0, if_pos (show Int32.ofNat 0 ≤ 0 from h0le)]
      have ee : e_rep e ms = e_sn e 0 := by unfold e_rep; rw [if_pos q0]
      rw [ee]
      refine Res.mk ⟨t, cf, Nat.le_succ _, (k2.i0 0).sn0, fun _ => ⟨?_, rfl⟩, fun z => ?_⟩
      · show upd (upd I3 0 0) 1 0 0 = 0
        rw [upd_ne _ _ (by decide), upd_self]
      · exact (of_decide_eq_false z (Or.inl q0)).elim
    · have hl0 : 0 < ms.length := List.length_pos_iff.mpr q0
      have nl : ¬ Int32.ofNat ms.length ≤ 0 := fun z => by have := (pn_lec (x := 0) 0 rfl (by clear h w tt r0 k2; omega) (by omega)).mp z; clear h w tt r0 k2; omega
      rw [if_neg nl, k3, k2.hn]
      by_cases q1 : 160 < rp_len e.sn (e.tn e.p) 0 ms
      · rw [if_pos ((pn_clt (x := 160) 160 rfl (by clear h w tt r0 k2; omega) (by omega)).mpr q1)]
        exact bad q0 (Or.inl q1)
      · rw [if_neg (fun z => q1 ((pn_clt (x := 160) 160 rfl (by clear h w tt r0 k2; omega) (by omega)).mp z))]
        by_cases q2 : e.n = 40
        · rw [if_pos ((pn_eqc (x := 40) 40 rfl (by clear h w tt r0 k2; omega) (by omega)).mpr q2)]
          exact bad q0 (Or.inr q2)
        · rw [if_neg (fun z => q2 ((pn_eqc (x := 40) 40 rfl (by clear h w tt r0 k2; omega) (by omega)).mp z))]
          have hnf : ¬ (160 < rp_len e.sn (e.tn e.p) 0 ms ∨ e.n = 40) := fun z => z.elim q1 q2
          have ee : e_rep e ms = e_sn (e_edit e (rp_len e.sn (e.tn e.p) 0 ms) (rp_tx e.sn e.sc (e.tx e.p) 0 ms) (rp_pl e.sn 0 ms)) 0 := by unfold e_rep; rw [if_neg q0, if_neg hnf]
          rw [ee]
          have x3 : X3 3 = Int32.ofNat (rp_pl e.sn 0 ms) := by rw [k10 q0, Nat.zero_add]
          unfold f_M_replace_110 f_M_replace_111
          simp only [wk_let, upd_self, if_pos h0le]
          rw [k6, if_neg nl, x3]
          have k20 := k2.i0 0
          refine (k20.edit w (m := rp_len e.sn (e.tn e.p) 0 ms) (tf := rp_tx e.sn e.sc (e.tx e.p) 0 ms) (place := rp_pl e.sn 0 ms) (by clear h w tt r0 k2 k20; omega) (by rw [upd_ne _ _ (by decide)]; exact k3) (fun k hk => ?_) ⟨by clear h w tt r0 k2 k20; omega, rp_txt tt w.sv ms 0 k1⟩).bind ?_
          · have := k4 k (Nat.zero_le _) (by rw [Nat.zero_add]; exact hk)
            rw [Nat.sub_zero] at this; exact this
          · rintro ⟨d0, I4, A4⟩ ⟨d1, d2⟩
            simp only at d1 d2
            simp only [f_M_replace_132, wk_let]
            rw [k6]
            refine Res.mk ⟨t + 1, _, Nat.le_refl _, d1.sn0, fun _ => ⟨?_, rfl⟩, fun z => ?_⟩
            · show upd I4 1 0 0 = 0
              rw [upd_ne _ _ (by decide), d2]; exact upd_self _ _ _
            · exact (of_decide_eq_false z (Or.inr hnf)).elim
-- 68.line
/-- breaks before a place; where a line begins; where it ends -/
def brk (tx : Nat → Int32) : Nat → Nat
  | 0 => 0
  | n + 1 => brk tx n + (if tx n = 10 then 1 else 0)
def lst (tx : Nat → Int32) (n : Nat) : Nat → Nat → Nat
  | 0, j => j
  | d + 1, j => if n ≤ brk tx j then j else lst tx n d (j + 1)
def eol (tx : Nat → Int32) : Nat → Nat → Nat
  | 0, j => j
  | d + 1, j => if tx j = 10 then j else eol tx d (j + 1)
theorem brk_le (tx : Nat → Int32) : ∀ n, brk tx n ≤ n
  | 0 => Nat.le_refl _
  | n + 1 => by
    have := brk_le tx n
    simp only [brk]; split <;> omega
theorem brk_mono (tx : Nat → Int32) (a : Nat) : ∀ d, brk tx a ≤ brk tx (a + d)
  | 0 => Nat.le_refl _
  | d + 1 => by
    have := brk_mono tx a d
    show brk tx a ≤ brk tx (a + d) + (if tx (a + d) = 10 then 1 else 0)
    omega
theorem lst_le (tx : Nat → Int32) (n : Nat) : ∀ d j, lst tx n d j ≤ j + d ∧ j ≤ lst tx n d j
  | 0, j => ⟨Nat.le_refl _, Nat.le_refl _⟩
  | d + 1, j => by
    have := lst_le tx n d (j + 1)
    simp only [lst]; split <;> omega
theorem eol_le (tx : Nat → Int32) : ∀ d j, eol tx d j ≤ j + d ∧ j ≤ eol tx d j
  | 0, j => ⟨Nat.le_refl _, Nat.le_refl _⟩
  | d + 1, j => by
    have := eol_le tx d (j + 1)
    simp only [eol]; split <;> omega
/-- line's answer: 0 a value, 2 no such place or line, 3 no such question -/
def okLn (k2 : Int32) (b : Nat) : Bool := !decide (k2 < 0) && decide (k2 < Int32.ofNat (b + 1))
def okP2 (k2 : Int32) (tn : Nat) : Bool := !decide (k2 < 0) && decide (k2 ≤ Int32.ofNat tn)
def l_tag (tn : Nat) (tx : Nat → Int32) (k1 k2 : Int32) : Nat := if k1 = 0 then 0 else if k1 = 1 then (if okP2 k2 tn = true then 0 else 2) else if k1 = 2 then (if okLn k2 (brk tx tn) = true then 0 else 2) else if k1 = 3 then (if okLn k2 (brk tx tn) = true then 0 else 2) else 3
def l_beg (tn : Nat) (tx : Nat → Int32) (k2 : Int32) : Nat := lst tx k2.toNatClampNeg tn 0
def l_val (tn : Nat) (tx : Nat → Int32) (k1 k2 : Int32) : Int32 := if k1 = 0 then Int32.ofNat (brk tx tn + 1) else if k1 = 1 then Int32.ofNat (brk tx k2.toNatClampNeg) else if k1 = 2 then Int32.ofNat (l_beg tn tx k2) else Int32.ofNat (eol tx (tn - l_beg tn tx k2) (l_beg tn tx k2) - l_beg tn tx k2)
theorem MTxt.i4 {I I' : MI} {A : MA} {tn : Nat} {tx : Nat → Int32} {ps : Nat} (h : MTxt I A tn tx ps) (e : I' 4 = I 4) : MTxt I' A tn tx ps := by
  obtain ⟨h1, h2, h3, h4, h5⟩ := h
  exact ⟨by rw [e]; exact h1, h2, h3, h4, h5⟩
theorem B_brk_go {tn p : Nat} {tx : Nat → Int32} {ps : Nat} {I : MI} {A : MA} (hM : MTxt I A tn tx ps) (hp : p ≤ tn) : ∀ (d i fuel : Nat) (X : Nat → Int32), p - i = d → i ≤ p → d < fuel → X 1 = Int32.ofNat p → X 2 = Int32.ofNat (brk tx i) → X 3 = Int32.ofNat i → f_M_breaks_go fuel 4 I A X = some (Int32.ofNat (brk tx p), I, A) := by
  have ht := hM.t.nb
  intro d
  induction d with
  | zero =>
    intro i fuel X hd hi hf x1 x2 x3
    obtain ⟨f, rfl⟩ : ∃ f, fuel = f + 1 := ⟨fuel - 1, by omega⟩
    have ei : i = p := by omega
    show f_M_breaks_4 (f_M_breaks_go f) I A X = _
    unfold f_M_breaks_4
    rw [x1, x3, if_pos ((pn_le (by clear hM; omega) (by clear hM; omega)).mpr (by clear hM; omega)), x2, ei]
  | succ d ih =>
    intro i fuel X hd hi hf x1 x2 x3
    obtain ⟨f, rfl⟩ : ∃ f, fuel = f + 1 := ⟨fuel - 1, by omega⟩
    have hb := brk_le tx i
    show f_M_breaks_4 (f_M_breaks_go f) I A X = _
    unfold f_M_breaks_4
    rw [x1, x3, if_neg (fun z => by have := (pn_le (a := p) (b := i) (by clear hM; omega) (by clear hM; omega)).mp z; clear hM; omega), B_char hM (by clear hM; omega)]
    simp only [Option.bind_some]
    have key : ∀ c : Nat, brk tx i + c = brk tx (i + 1) → f_M_breaks_25 (f_M_breaks_go f) I A X (Int32.ofNat c) (X 2) = some (Int32.ofNat (brk tx p), I, A) := by
      intro c hc
      unfold f_M_breaks_25
      refine ih (i + 1) f _ (by omega) (by omega) (by omega) ?_ ?_ ?_
      · rw [upd_ne _ _ (by decide), upd_ne _ _ (by decide)]; exact x1
      · rw [upd_ne _ _ (by decide), upd_self, x2, pn_add, hc]
      · rw [upd_self, x3, pn_succ]
    by_cases q : tx i = 10
    · rw [if_pos q]; exact key 1 (by simp only [brk]; rw [if_pos q])
    · rw [if_neg q]; exact key 0 (by simp only [brk]; rw [if_neg q])
theorem B_brk {tn p : Nat} {tx : Nat → Int32} {ps : Nat} {I : MI} {A : MA} (hM : MTxt I A tn tx ps) (hp : p ≤ tn) : f_M_breaks I A (Int32.ofNat p) = some (Int32.ofNat (brk tx p), I, A) := by
  have ht := hM.t.nb
  have fu := wk_FUEL_big
  unfold f_M_breaks f_M_breaks_e
  refine B_brk_go hM hp p 0 wk_FUEL _ (by omega) (Nat.zero_le _) (by clear hM; omega) ?_ ?_ (upd_self _ _ _)
  · rw [upd_ne _ _ (by decide), upd_ne _ _ (by decide), upd_self]
  · rw [upd_ne _ _ (by decide), upd_self]; rfl
theorem B_lst_go {tn n : Nat} {tx : Nat → Int32} {ps : Nat} {I : MI} {A : MA} (hM : MTxt I A tn tx ps) (hn : n ≤ brk tx tn) : ∀ (d j fuel : Nat) (X : Nat → Int32), tn - j = d → j ≤ tn → d < fuel → X 1 = Int32.ofNat n → X 2 = Int32.ofNat j → f_M_lineStart_go fuel 2 I A X = some (Int32.ofNat (lst tx n d j), I, A) := by
  have ht := hM.t.nb
  have hb := brk_le tx tn
  intro d
  induction d with
  | zero =>
    intro j fuel X hd hj hf x1 x2
    obtain ⟨f, rfl⟩ : ∃ f, fuel = f + 1 := ⟨fuel - 1, by omega⟩
    have ej : j = tn := by omega
    show f_M_lineStart_2 (f_M_lineStart_go f) I A X = _
    unfold f_M_lineStart_2
    rw [x2, B_brk hM hj]
    simp only [Option.bind_some]
    rw [x1, ej, if_pos ((pn_le (by clear hM; omega) (by clear hM; omega)).mpr hn)]
    rfl
  | succ d ih =>
    intro j fuel X hd hj hf x1 x2
    obtain ⟨f, rfl⟩ : ∃ f, fuel = f + 1 := ⟨fuel - 1, by omega⟩
    have hbj := brk_le tx j
    show f_M_lineStart_2 (f_M_lineStart_go f) I A X = _
    unfold f_M_lineStart_2
    rw [x2, B_brk hM hj]
    simp only [Option.bind_some, lst]
    rw [x1]
    by_cases q : n ≤ brk tx j
    · rw [if_pos ((pn_le (by clear hM; omega) (by clear hM; omega)).mpr q), if_pos q]
    · rw [if_neg (fun z => q ((pn_le (by clear hM; omega) (by clear hM; omega)).mp z)), if_neg q]
      refine ih (j + 1) f _ (by omega) (by omega) (by omega) ?_ ?_
      · rw [upd_ne _ _ (by decide)]; exact x1
      · rw [upd_self, pn_succ]
theorem B_lst {tn n : Nat} {tx : Nat → Int32} {ps : Nat} {I : MI} {A : MA} (hM : MTxt I A tn tx ps) (hn : n ≤ brk tx tn) : f_M_lineStart I A (Int32.ofNat n) = some (Int32.ofNat (lst tx n tn 0), I, A) := by
  have ht := hM.t.nb
  have fu := wk_FUEL_big
  unfold f_M_lineStart f_M_lineStart_e
  refine B_lst_go hM hn tn 0 wk_FUEL _ (by omega) (Nat.zero_le _) (by clear hM; omega) ?_ (upd_self _ _ _)
  rw [upd_ne _ _ (by decide), upd_self]
theorem B_eol_go {tn s : Nat} {tx : Nat → Int32} {ps : Nat} {I : MI} {A : MA} {k1 : Int32} (hM : MTxt I A tn tx ps) (hs : s ≤ tn) : ∀ (d j fuel : Nat) (X : Nat → Int32), tn - j = d → j ≤ tn → s ≤ j → d < fuel → X 1 = k1 → X 5 = Int32.ofNat s → X 6 = Int32.ofNat j → f_M_line_go fuel 117 I A X = some (if k1 = 2 then Int32.ofNat s else Int32.ofNat (eol tx d j - s), I, A) := by
  have ht := hM.t.nb
  intro d
  induction d with
  | zero =>
    intro j fuel X hd hj hsj hf x1 x5 x6
    obtain ⟨f, rfl⟩ : ∃ f, fuel = f + 1 := ⟨fuel - 1, by omega⟩
    show f_M_line_117 (f_M_line_go f) I A X = _
    unfold f_M_line_117 f_M_line_143 f_M_line_158
    rw [B_len hM]
    simp only [Option.bind_some]
    rw [x6, if_pos ((pn_le (by clear hM; omega) (by clear hM; omega)).mpr (by clear hM; omega)), x1, x5, pn_sub hsj]
    by_cases q : k1 = 2
    · rw [if_pos q, if_pos q]
    · rw [if_neg q, if_neg q]; rfl
  | succ d ih =>
    intro j fuel X hd hj hsj hf x1 x5 x6
    obtain ⟨f, rfl⟩ : ∃ f, fuel = f + 1 := ⟨fuel - 1, by omega⟩
    show f_M_line_117 (f_M_line_go f) I A X = _
    unfold f_M_line_117
    rw [B_len hM]
    simp only [Option.bind_some]
    rw [x6, if_neg (fun z => by have := (pn_le (a := tn) (b := j) (by clear hM; omega) (by clear hM; omega)).mp z; clear hM; omega), B_char hM (by clear hM; omega)]
    simp only [Option.bind_some, eol]
    by_cases q : tx j = 10
    · rw [if_pos q, if_pos q]
      unfold f_M_line_143 f_M_line_158
      rw [x1, x5, x6, pn_sub hsj]
      by_cases q : k1 = 2
      · rw [if_pos q, if_pos q]
      · rw [if_neg q, if_neg q]
    · rw [if_neg q, if_neg q]
      refine ih (j + 1) f _ (by omega) (by omega) (by omega) (by omega) ?_ ?_ ?_
      · rw [upd_ne _ _ (by decide)]; exact x1
      · rw [upd_ne _ _ (by decide)]; exact x5
      · rw [upd_self, pn_succ]
theorem okLn_nat {k2 : Int32} {b : Nat} (hb : b ≤ 160) (h : okLn k2 b = true) : ∃ n, n ≤ b ∧ k2 = Int32.ofNat n := by
  unfold okLn at h
  rw [Bool.and_eq_true] at h
  have a : ¬ k2 < 0 := by simpa using h.1
  have c : k2 < Int32.ofNat (b + 1) := of_decide_eq_true h.2
  have ek := pn_ofclamp a
  refine ⟨k2.toNatClampNeg, ?_, ek.symm⟩
  rw [← ek] at c
  have := (pn_lt (pn_clamp_lt k2) (by omega)).mp c
  omega
theorem okP2_nat {k2 : Int32} {tn : Nat} (hb : tn ≤ 160) (h : okP2 k2 tn = true) : ∃ n, n ≤ tn ∧ k2 = Int32.ofNat n := by
  unfold okP2 at h
  rw [Bool.and_eq_true] at h
  have a : ¬ k2 < 0 := by simpa using h.1
  have c : k2 ≤ Int32.ofNat tn := of_decide_eq_true h.2
  have ek := pn_ofclamp a
  refine ⟨k2.toNatClampNeg, ?_, ek.symm⟩
  rw [← ek] at c
  exact (pn_le (pn_clamp_lt k2) (by omega)).mp c
/-- code of an answer -/
def l_code (t : Nat) : Int32 := if t = 0 then 0 else if t = 2 then 2 else 1
theorem B_line {e : ES} {t : Nat} {cf : Nat → Nat} {I : MI} {A : MA} (h : MRel e t cf I A) (w : EWf e) (k1 k2 : Int32) : Res (f_M_line I A k1 k2) (fun z => z.2.1 0 = l_code (l_tag (e.tn e.p) (e.tx e.p) k1 k2) ∧ (l_tag (e.tn e.p) (e.tx e.p) k1 k2 = 0 → z.1 = l_val (e.tn e.p) (e.tx e.p) k1 k2) ∧ MRel e t cf z.2.1 z.2.2) := by
  have hM := h.txt w
  have ht := hM.t.nb
  have fu := wk_FUEL_big
  obtain ⟨tn, htn⟩ : ∃ z, z = e.tn e.p := ⟨_, rfl⟩
  obtain ⟨tx, htx⟩ : ∃ z, z = e.tx e.p := ⟨_, rfl⟩
  rw [← htn] at ht
  rw [← htn, ← htx] at hM ⊢
  have hb := brk_le tx tn
  obtain ⟨rc, hrc⟩ : ∃ rc, rc = f_M_line_go wk_FUEL := ⟨_, rfl⟩
  obtain ⟨X, hX⟩ : ∃ X, X = upd (upd (upd (fun _ => (0 : Int32)) 1 k1) 2 k2) 3 (Int32.ofNat (brk tx tn + 1)) := ⟨_, rfl⟩
  have x1 : X 1 = k1 := by rw [hX, upd_ne _ _ (by decide), upd_ne _ _ (by decide), upd_self]
  have x2 : X 2 = k2 := by rw [hX, upd_ne _ _ (by decide), upd_self]
  have x3 : X 3 = Int32.ofNat (brk tx tn + 1) := by rw [hX, upd_self]
  have h1le : ¬ (1 : Int32) ≤ 0 := by decide
  have h2le : ¬ (2 : Int32) ≤ 0 := by decide
  have h0le : (0 : Int32) ≤ 0 := by decide
  have h10 : ¬ (1 : Int32) = 0 := by decide
  have bad : ∀ (c : Int32) (Y : Nat → Int32), ¬ c ≤ 0 → f_M_line_75 rc I A Y c = some (0, upd I 0 c, A) := fun c Y hc => by
    unfold f_M_line_75
    simp only [wk_let, upd_self, if_neg hc]
  -- the questions that there are not
  have out : ∀ s0 : Int32, (k1 < 0 ∨ ¬ k1 ≤ 3) → f_M_line_49 rc I A X s0 = some (0, upd I 0 1, A) := fun s0 hk => by
    unfold f_M_line_49 f_M_line_61
    rw [x1]
    by_cases q : k1 < 0
    · rw [if_pos q, bad 1 _ h1le]
    · rw [if_neg q, if_neg (hk.resolve_left q), bad 1 _ h1le]
  have in0 : ¬ (k1 < 0 ∨ ¬ k1 ≤ 3) → f_M_line_49 rc I A X 0 = some (0, upd I 0 2, A) := fun hk => by
    have a : ¬ k1 < 0 := fun z => hk (Or.inl z)
    have b : k1 ≤ 3 := Classical.byContradiction (fun z => hk (Or.inr z))
    unfold f_M_line_49
    rw [x1, if_neg a, if_pos b, if_pos rfl, bad 2 _ h2le]
  have in1 : ¬ (k1 < 0 ∨ ¬ k1 ≤ 3) → f_M_line_49 rc I A X 1 = f_M_line_75 rc I A (upd X 4 1) 0 := fun hk => by
    have a : ¬ k1 < 0 := fun z => hk (Or.inl z)
    have b : k1 ≤ 3 := Classical.byContradiction (fun z => hk (Or.inr z))
    unfold f_M_line_49
    rw [x1, if_neg a, if_pos b, if_neg h10]
  have start : f_M_line I A k1 k2 = if k1 = 0 then f_M_line_44 rc I A X else if k1 = 1 then if k2 < 0 then f_M_line_48 rc I A X else (if Int32.ofNat tn < k2 then f_M_line_48 rc I A X else f_M_line_44 rc I A X) else if k2 < 0 then f_M_line_48 rc I A X else if Int32.ofNat (brk tx tn + 1) ≤ k2 then f_M_line_48 rc I A X else f_M_line_44 rc I A X := by
    unfold f_M_line f_M_line_e
    rw [← hrc, B_len hM]
    simp only [Option.bind_some]
    rw [B_brk hM (Nat.le_refl _)]
    simp only [Option.bind_some, pn_succ]
    rw [← hX, B_len hM]
    simp only [Option.bind_some]
  rw [start]
  unfold f_M_line_44 f_M_line_48
  have M4 : ∀ c, MTxt (upd I 0 c) A tn tx e.p := fun c => hM.i4 (show upd I 0 c 4 = I 4 from upd_ne _ _ (by decide))
  have res : ∀ (c r : Int32), c = l_code (l_tag tn tx k1 k2) → (l_tag tn tx k1 k2 = 0 → r = l_val tn tx k1 k2) → Res (some (r, upd I 0 c, A)) (fun z => z.2.1 0 = l_code (l_tag tn tx k1 k2) ∧ (l_tag tn tx k1 k2 = 0 → z.1 = l_val tn tx k1 k2) ∧ MRel e t cf z.2.1 z.2.2) := fun c r hc hr => Res.mk ⟨(upd_self I 0 c).trans hc, hr, h.i0 c⟩
  by_cases q0 : k1 = 0
  · rw [if_pos q0, in1 (by rw [q0]; decide)]
    unfold f_M_line_75 f_M_line_105
    simp only [wk_let, upd_self, if_pos h0le]
    have y1 : upd X 4 1 1 = 0 := by rw [upd_ne _ _ (by decide), x1, q0]
    have y3 : upd X 4 1 3 = Int32.ofNat (brk tx tn + 1) := by rw [upd_ne _ _ (by decide), x3]
    rw [y1, if_neg (show ¬ (2 : Int32) ≤ 0 by decide), if_pos rfl, y3]
    refine res 0 _ ?_ (fun _ => ?_)
    · unfold l_tag l_code; rw [if_pos q0, if_pos rfl]
    · unfold l_val; rw [if_pos q0]
  rw [if_neg q0]
  by_cases q1 : k1 = 1
  · rw [if_pos q1]
    have ki : ¬ (k1 < 0 ∨ ¬ k1 ≤ 3) := by rw [q1]; decide
    have ltag : ∀ b : Bool, okP2 k2 tn = b → l_tag tn tx k1 k2 = if b = true then 0 else 2 := fun b hb => by unfold l_tag; rw [if_neg q0, if_pos q1, hb]
    by_cases a : k2 < 0
    · rw [if_pos a, in0 ki]
      have := ltag false (by unfold okP2; rw [decide_eq_true a]; rfl)
      refine res 2 _ (by rw [this]; rfl) (fun z => by rw [this] at z; cases z)
    · rw [if_neg a]
      by_cases b : Int32.ofNat tn < k2
      · rw [if_pos b, in0 ki]
        have := ltag false (by unfold okP2; rw [decide_eq_false (fun z => (Int32.not_lt.mpr z) b), Bool.and_false])
        refine res 2 _ (by rw [this]; rfl) (fun z => by rw [this] at z; cases z)
      · rw [if_neg b, in1 ki]
        have okp : okP2 k2 tn = true := by unfold okP2; rw [decide_eq_false a, decide_eq_true (Int32.not_lt.mp b)]; rfl
        have := ltag true okp
        obtain ⟨n, hn, en⟩ := okP2_nat ht okp
        unfold f_M_line_75 f_M_line_105
        simp only [wk_let, upd_self, if_pos h0le]
        have y1 : upd X 4 1 1 = 1 := by rw [upd_ne _ _ (by decide), x1, q1]
        have y2 : upd X 4 1 2 = Int32.ofNat n := by rw [upd_ne _ _ (by decide), x2, en]
        rw [y1, if_neg (show ¬ (2 : Int32) ≤ 1 by decide), if_neg h10, y2, B_brk (M4 0) hn]
        simp only [Option.bind_some]
        refine res 0 _ (by rw [this]; rfl) (fun _ => ?_)
        unfold l_val
        rw [if_neg q0, if_pos q1, en, pn_nat (show n < 2147483648 by omega)]
  rw [if_neg q1]
  by_cases kk : k1 < 0 ∨ ¬ k1 ≤ 3
  · have n2 : ¬ k1 = 2 := fun z => by rw [z] at kk; revert kk; decide
    have n3 : ¬ k1 = 3 := fun z => by rw [z] at kk; revert kk; decide
    have tag : l_tag tn tx k1 k2 = 3 := by unfold l_tag; rw [if_neg q0, if_neg q1, if_neg n2, if_neg n3]
    have fin : ∀ r, Res (some (r, upd I 0 1, A)) (fun z => z.2.1 0 = l_code (l_tag tn tx k1 k2) ∧ (l_tag tn tx k1 k2 = 0 → z.1 = l_val tn tx k1 k2) ∧ MRel e t cf z.2.1 z.2.2) := fun r => res 1 r (by rw [tag]; rfl) (fun z => by rw [tag] at z; cases z)
    rw [out 0 kk, out 1 kk]
    split
    · exact fin 0
    · split <;> exact fin 0
  · have ki : ¬ k1 < 0 := fun z => kk (Or.inl z)
    have k3 : k1 ≤ 3 := Classical.byContradiction (fun z => kk (Or.inr z))
    have h23 : k1 = 2 ∨ k1 = 3 := by
      have ek := pn_ofclamp ki
      have hbk := pn_clamp_lt k1
      rw [← ek] at k3 q0 q1 ⊢
      have c3 := (pn_lec (x := 3) 3 rfl hbk (by omega)).mp k3
      have d0 : ¬ k1.toNatClampNeg = 0 := fun z => q0 ((pn_eqc (x := 0) 0 rfl hbk (by omega)).mpr z)
      have d1 : ¬ k1.toNatClampNeg = 1 := fun z => q1 ((pn_eqc (x := 1) 1 rfl hbk (by omega)).mpr z)
      rcases (show k1.toNatClampNeg = 2 ∨ k1.toNatClampNeg = 3 by omega) with z | z
      · left; rw [z]; rfl
      · right; rw [z]; rfl
    have ltag : ∀ b : Bool, okLn k2 (brk tx tn) = b → l_tag tn tx k1 k2 = if b = true then 0 else 2 := fun b hb => by
      unfold l_tag
      rw [if_neg q0, if_neg q1, hb]
      rcases h23 with z | z
      · rw [if_pos z]
      · rw [if_neg (by rw [z]; decide), if_pos z]
    by_cases a : k2 < 0
    · rw [if_pos a, in0 kk]
      have := ltag false (by unfold okLn; rw [decide_eq_true a]; rfl)
      refine res 2 _ (by rw [this]; rfl) (fun z => by rw [this] at z; cases z)
    · rw [if_neg a]
      by_cases b : Int32.ofNat (brk tx tn + 1) ≤ k2
      · rw [if_pos b, in0 kk]
        have := ltag false (by unfold okLn; rw [decide_eq_false (fun z => (Int32.not_lt.mpr b) z), Bool.and_false])
        refine res 2 _ (by rw [this]; rfl) (fun z => by rw [this] at z; cases z)
      · rw [if_neg b, in1 kk]
        have okl : okLn k2 (brk tx tn) = true := by unfold okLn; rw [decide_eq_false a, decide_eq_true (Int32.not_le.mp b)]; rfl
        have := ltag true okl
        obtain ⟨n, hn, en⟩ := okLn_nat (by omega) okl
        have hl := lst_le tx n tn 0
        unfold f_M_line_75
        simp only [wk_let, upd_self, if_pos h0le]
        have y1 : upd X 4 1 1 = k1 := by rw [upd_ne _ _ (by decide), x1]
        have y2 : upd X 4 1 2 = Int32.ofNat n := by rw [upd_ne _ _ (by decide), x2, en]
        have t2 : (2 : Int32) ≤ k1 := by rcases h23 with z | z <;> rw [z] <;> decide
        rw [y1, if_pos t2, y2, B_lst (M4 0) hn]
        simp only [Option.bind_some]
        rw [hrc, B_eol_go (k1 := k1) (s := lst tx n tn 0) (M4 0) (by omega) (tn - lst tx n tn 0) (lst tx n tn 0) wk_FUEL _ rfl (by omega) (Nat.le_refl _) (by clear h hM w; omega) (by rw [upd_ne _ _ (by decide), upd_ne _ _ (by decide)]; exact y1) (by rw [upd_ne _ _ (by decide), upd_self]) (upd_self _ _ _)]
        refine res 0 _ (by rw [this]; rfl) (fun _ => ?_)
        unfold l_val l_beg
        rw [if_neg q0, if_neg q1, en, pn_nat (show n < 2147483648 by omega)]

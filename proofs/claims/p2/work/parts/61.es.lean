/-- the editor as both sides hold it -/
abbrev ES : Type := (Nat) × (Nat → Nat) × (Nat) × (Nat) × (Nat) × (Option Nat) × (Nat → Nat) × (Nat → Nat → Int32) × (Nat → Nat) × (Nat → Option Nat) × (Nat → Option Nat) × (Bool) × (Nat → (Nat → Int32) → Rl) × (Option Nat)
def ES.sn (r_ : ES) : Nat := r_.1
def ES.sc (r_ : ES) : Nat → Nat := r_.2.1
def ES.n (r_ : ES) : Nat := r_.2.2.1
def ES.p (r_ : ES) : Nat := r_.2.2.2.1
def ES.c (r_ : ES) : Nat := r_.2.2.2.2.1
def ES.mr (r_ : ES) : Option Nat := r_.2.2.2.2.2.1
def ES.tn (r_ : ES) : Nat → Nat := r_.2.2.2.2.2.2.1
def ES.tx (r_ : ES) : Nat → Nat → Int32 := r_.2.2.2.2.2.2.2.1
def ES.pl (r_ : ES) : Nat → Nat := r_.2.2.2.2.2.2.2.2.1
def ES.pa (r_ : ES) : Nat → Option Nat := r_.2.2.2.2.2.2.2.2.2.1
def ES.lc (r_ : ES) : Nat → Option Nat := r_.2.2.2.2.2.2.2.2.2.2.1
def ES.has (r_ : ES) : Bool := r_.2.2.2.2.2.2.2.2.2.2.2.1
def ES.pat (r_ : ES) : Nat → (Nat → Int32) → Rl := r_.2.2.2.2.2.2.2.2.2.2.2.2.1
def ES.fl (r_ : ES) : Option Nat := r_.2.2.2.2.2.2.2.2.2.2.2.2.2
abbrev ES.mk (sn_ : Nat) (sc_ : Nat → Nat) (n_ : Nat) (p_ : Nat) (c_ : Nat) (mr_ : Option Nat) (tn_ : Nat → Nat) (tx_ : Nat → Nat → Int32) (pl_ : Nat → Nat) (pa_ : Nat → Option Nat) (lc_ : Nat → Option Nat) (has_ : Bool) (pat_ : Nat → (Nat → Int32) → Rl) (fl_ : Option Nat) : ES := (sn_, sc_, n_, p_, c_, mr_, tn_, tx_, pl_, pa_, lc_, has_, pat_, fl_)

/-- a number that may be missing -/
def mkI (o : Option Nat) : Int32 := match o with
  | none => -1
  | some v => Int32.ofNat v
abbrev EWf (e : ES) : Prop := (e.sn ≤ 24) ∧ (∀ k, k < e.sn → e.sc k < 128) ∧ (1 ≤ e.n) ∧ (e.n ≤ 40) ∧ (e.p < e.n) ∧ (∀ s, s < e.n → Txt (e.tn s) (e.tx s)) ∧ (e.c ≤ e.tn e.p) ∧ (∀ m, e.mr = some m → m ≤ e.tn e.p) ∧ (∀ s, s < e.n → e.pl s ≤ e.tn s) ∧ (e.pa 0 = none) ∧ (∀ s, 0 < s → s < e.n → ∃ q, e.pa s = some q ∧ q < s) ∧ (∀ s j, s < e.n → e.lc s = some j → j < e.n ∧ e.pa j = some s) ∧ (∀ s, s < e.n → e.lc s = none → ∀ j, j < e.n → e.pa j ≠ some s)
theorem EWf.sb {e : ES} (h_ : EWf e) : e.sn ≤ 24 := h_.1
theorem EWf.sv {e : ES} (h_ : EWf e) : ∀ k, k < e.sn → e.sc k < 128 := h_.2.1
theorem EWf.n1 {e : ES} (h_ : EWf e) : 1 ≤ e.n := h_.2.2.1
theorem EWf.n2 {e : ES} (h_ : EWf e) : e.n ≤ 40 := h_.2.2.2.1
theorem EWf.pb {e : ES} (h_ : EWf e) : e.p < e.n := h_.2.2.2.2.1
theorem EWf.tt {e : ES} (h_ : EWf e) : ∀ s, s < e.n → Txt (e.tn s) (e.tx s) := h_.2.2.2.2.2.1
theorem EWf.cb {e : ES} (h_ : EWf e) : e.c ≤ e.tn e.p := h_.2.2.2.2.2.2.1
theorem EWf.mb {e : ES} (h_ : EWf e) : ∀ m, e.mr = some m → m ≤ e.tn e.p := h_.2.2.2.2.2.2.2.1
theorem EWf.lb {e : ES} (h_ : EWf e) : ∀ s, s < e.n → e.pl s ≤ e.tn s := h_.2.2.2.2.2.2.2.2.1
theorem EWf.p0 {e : ES} (h_ : EWf e) : e.pa 0 = none := h_.2.2.2.2.2.2.2.2.2.1
theorem EWf.ps {e : ES} (h_ : EWf e) : ∀ s, 0 < s → s < e.n → ∃ q, e.pa s = some q ∧ q < s := h_.2.2.2.2.2.2.2.2.2.2.1
theorem EWf.l1 {e : ES} (h_ : EWf e) : ∀ s j, s < e.n → e.lc s = some j → j < e.n ∧ e.pa j = some s := h_.2.2.2.2.2.2.2.2.2.2.2.1
theorem EWf.l0 {e : ES} (h_ : EWf e) : ∀ s, s < e.n → e.lc s = none → ∀ j, j < e.n → e.pa j ≠ some s := h_.2.2.2.2.2.2.2.2.2.2.2.2
/-- the reference holds the editor; its clock, and when each state was come to -/
abbrev MRel (e : ES) (t : Nat) (cf : Nat → Nat) (I : MI) (A : MA) : Prop := (I 1 = Int32.ofNat e.sn) ∧ (∀ k, k < e.sn → A 2 k = Int32.ofNat (e.sc k)) ∧ (I 3 = Int32.ofNat e.n) ∧ (I 4 = Int32.ofNat e.p) ∧ (∀ s, s < e.n → A 6 s = Int32.ofNat (e.tn s)) ∧ (∀ s, s < e.n → ∀ i, i < e.tn s → A 5 (160 * s + i) = e.tx s i) ∧ (I 11 = Int32.ofNat e.c) ∧ (I 12 = mkI e.mr) ∧ (∀ s, s < e.n → A 7 s = Int32.ofNat (e.pl s)) ∧ (∀ s, s < e.n → A 8 s = mkI (e.pa s)) ∧ (I 10 = Int32.ofNat t) ∧ (∀ s, s < e.n → A 9 s = Int32.ofNat (cf s) ∧ cf s ≤ t) ∧ (∀ s j j', s < e.n → e.lc s = some j → j' < e.n → e.pa j' = some s → j' ≠ j → cf j' < cf j) ∧ (I 13 = g_flag e.has) ∧ (I 14 = mkI e.fl) ∧ (∀ k, k < 24 → ∃ c, c < 128 ∧ A 16 k = Int32.ofNat c) ∧ (e.has = true → ∀ tn tx, Txt tn tx → RMean tn tx I A (e.pat tn tx))
theorem MRel.s1 {e : ES} {t : Nat} {cf : Nat → Nat} {I : MI} {A : MA} (h_ : MRel e t cf I A) : I 1 = Int32.ofNat e.sn := h_.1
theorem MRel.s2 {e : ES} {t : Nat} {cf : Nat → Nat} {I : MI} {A : MA} (h_ : MRel e t cf I A) : ∀ k, k < e.sn → A 2 k = Int32.ofNat (e.sc k) := h_.2.1
theorem MRel.hn {e : ES} {t : Nat} {cf : Nat → Nat} {I : MI} {A : MA} (h_ : MRel e t cf I A) : I 3 = Int32.ofNat e.n := h_.2.2.1
theorem MRel.hp {e : ES} {t : Nat} {cf : Nat → Nat} {I : MI} {A : MA} (h_ : MRel e t cf I A) : I 4 = Int32.ofNat e.p := h_.2.2.2.1
theorem MRel.tl {e : ES} {t : Nat} {cf : Nat → Nat} {I : MI} {A : MA} (h_ : MRel e t cf I A) : ∀ s, s < e.n → A 6 s = Int32.ofNat (e.tn s) := h_.2.2.2.2.1
theorem MRel.tc {e : ES} {t : Nat} {cf : Nat → Nat} {I : MI} {A : MA} (h_ : MRel e t cf I A) : ∀ s, s < e.n → ∀ i, i < e.tn s → A 5 (160 * s + i) = e.tx s i := h_.2.2.2.2.2.1
theorem MRel.hc {e : ES} {t : Nat} {cf : Nat → Nat} {I : MI} {A : MA} (h_ : MRel e t cf I A) : I 11 = Int32.ofNat e.c := h_.2.2.2.2.2.2.1
theorem MRel.hm {e : ES} {t : Nat} {cf : Nat → Nat} {I : MI} {A : MA} (h_ : MRel e t cf I A) : I 12 = mkI e.mr := h_.2.2.2.2.2.2.2.1
theorem MRel.hpl {e : ES} {t : Nat} {cf : Nat → Nat} {I : MI} {A : MA} (h_ : MRel e t cf I A) : ∀ s, s < e.n → A 7 s = Int32.ofNat (e.pl s) := h_.2.2.2.2.2.2.2.2.1
theorem MRel.hpa {e : ES} {t : Nat} {cf : Nat → Nat} {I : MI} {A : MA} (h_ : MRel e t cf I A) : ∀ s, s < e.n → A 8 s = mkI (e.pa s) := h_.2.2.2.2.2.2.2.2.2.1
theorem MRel.ck {e : ES} {t : Nat} {cf : Nat → Nat} {I : MI} {A : MA} (h_ : MRel e t cf I A) : I 10 = Int32.ofNat t := h_.2.2.2.2.2.2.2.2.2.2.1
theorem MRel.cm {e : ES} {t : Nat} {cf : Nat → Nat} {I : MI} {A : MA} (h_ : MRel e t cf I A) : ∀ s, s < e.n → A 9 s = Int32.ofNat (cf s) ∧ cf s ≤ t := h_.2.2.2.2.2.2.2.2.2.2.2.1
theorem MRel.cl {e : ES} {t : Nat} {cf : Nat → Nat} {I : MI} {A : MA} (h_ : MRel e t cf I A) : ∀ s j j', s < e.n → e.lc s = some j → j' < e.n → e.pa j' = some s → j' ≠ j → cf j' < cf j := h_.2.2.2.2.2.2.2.2.2.2.2.2.1
theorem MRel.hh {e : ES} {t : Nat} {cf : Nat → Nat} {I : MI} {A : MA} (h_ : MRel e t cf I A) : I 13 = g_flag e.has := h_.2.2.2.2.2.2.2.2.2.2.2.2.2.1
theorem MRel.hf {e : ES} {t : Nat} {cf : Nat → Nat} {I : MI} {A : MA} (h_ : MRel e t cf I A) : I 14 = mkI e.fl := h_.2.2.2.2.2.2.2.2.2.2.2.2.2.2.1
theorem MRel.pv {e : ES} {t : Nat} {cf : Nat → Nat} {I : MI} {A : MA} (h_ : MRel e t cf I A) : ∀ k, k < 24 → ∃ c, c < 128 ∧ A 16 k = Int32.ofNat c := h_.2.2.2.2.2.2.2.2.2.2.2.2.2.2.2.1
theorem MRel.pm {e : ES} {t : Nat} {cf : Nat → Nat} {I : MI} {A : MA} (h_ : MRel e t cf I A) : e.has = true → ∀ tn tx, Txt tn tx → RMean tn tx I A (e.pat tn tx) := h_.2.2.2.2.2.2.2.2.2.2.2.2.2.2.2.2
theorem MRel.txt {e : ES} {t : Nat} {cf : Nat → Nat} {I : MI} {A : MA} (h : MRel e t cf I A) (w : EWf e) : MTxt I A (e.tn e.p) (e.tx e.p) e.p := ⟨h.hp, Nat.lt_of_lt_of_le w.pb w.n2, h.tl _ w.pb, h.tc _ w.pb, w.tt _ w.pb⟩
/-- going to a state -/
def e_come (e : ES) (s : Nat) : ES := (ES.mk e.sn e.sc e.n (s) (sU e.pl e.p e.c s) (none) e.tn e.tx (sU e.pl e.p e.c) e.pa ((match e.pa s with | none => e.lc | some q => sU e.lc q (some s))) e.has e.pat e.fl)
theorem e_come_pl (e : ES) (s : Nat) : (e_come e s).pl = sU e.pl e.p e.c := rfl
theorem e_come_lc0 {e : ES} {s : Nat} (h : e.pa s = none) : (e_come e s).lc = e.lc := by
  show (match e.pa s with | none => e.lc | some q => sU e.lc q (some s)) = e.lc
  rw [h]
theorem e_come_lc1 {e : ES} {s q : Nat} (h : e.pa s = some q) : (e_come e s).lc = sU e.lc q (some s) := by
  show (match e.pa s with | none => e.lc | some q => sU e.lc q (some s)) = sU e.lc q (some s)
  rw [h]
theorem e_pl_le {e : ES} (w : EWf e) {s : Nat} (hs : s < e.n) : sU e.pl e.p e.c s ≤ e.tn s := by
  by_cases q : s = e.p
  · rw [q, sU_self]; exact w.cb
  · rw [sU_ne _ _ q]; exact w.lb s hs
theorem EWf.come {e : ES} (w : EWf e) {s : Nat} (hs : s < e.n) : EWf (e_come e s) := by
  refine ⟨w.sb, w.sv, w.n1, w.n2, hs, w.tt, e_pl_le w hs, (fun m hm => by cases hm), fun i hi => e_pl_le w hi, w.p0, w.ps, fun i j hi hj => ?_, fun i hi h0 j hj => ?_⟩
  · cases hp : e.pa s with
    | none => rw [e_come_lc0 hp] at hj; exact w.l1 i j hi hj
    | some q =>
      rw [e_come_lc1 hp] at hj
      by_cases z : i = q
      · rw [z, sU_self] at hj; cases hj; rw [z]; exact ⟨hs, hp⟩
      · rw [sU_ne _ _ z] at hj; exact w.l1 i j hi hj
  · cases hp : e.pa s with
    | none => rw [e_come_lc0 hp] at h0; exact w.l0 i hi h0 j hj
    | some q =>
      rw [e_come_lc1 hp] at h0
      by_cases z : i = q
      · rw [z, sU_self] at h0; cases h0
      · rw [sU_ne _ _ z] at h0; exact w.l0 i hi h0 j hj
theorem ofsU {f : Nat → Int32} {g : Nat → Nat} {k u v : Nat} {x : Int32} (hx : x = Int32.ofNat v) (h : u ≠ k → f u = Int32.ofNat (g u)) : upd f k x u = Int32.ofNat (sU g k v u) := by
  by_cases q : u = k
  · rw [q, upd_self, sU_self]; exact hx
  · rw [upd_ne _ _ q, sU_ne _ _ q]; exact h q
theorem MRel.come {e : ES} {t : Nat} {cf : Nat → Nat} {I : MI} {A : MA} (h : MRel e t cf I A) (w : EWf e) {s : Nat} (hs : s < e.n) :
    ∃ I' A', f_M_come I A (Int32.ofNat s) = some (0, I', A') ∧ MRel (e_come e s) (t + 1) (sU cf s (t + 1)) I' A' ∧ I' 0 = I 0 := by
  have hn2 := w.n2
  have hpb := w.pb
  obtain ⟨I', A', e0, e4, e11, e12, e10, ei, e7, e9, ea⟩ := B_come h.hp (show e.p < 40 by clear h w; omega) (show s < 40 by clear h w; omega)
  have ck : I 10 + 1 = Int32.ofNat (t + 1) := by rw [h.ck]; exact pn_succ _
  refine ⟨I', A', e0, ⟨?_, ?_, ?_, e4, ?_, ?_, ?_, e12, ?_, ?_, ?_, ?_, ?_, ?_, ?_, ?_, ?_⟩, ei 0 (by decide) (by decide) (by decide) (by decide)⟩
  · rw [ei 1 (by decide) (by decide) (by decide) (by decide)]; exact h.s1
  · rw [ea 2 (by decide) (by decide)]; exact h.s2
  · rw [ei 3 (by decide) (by decide) (by decide) (by decide)]; exact h.hn
  · rw [ea 6 (by decide) (by decide)]; exact h.tl
  · rw [ea 5 (by decide) (by decide)]; exact h.tc
  · rw [e11]; exact ofsU h.hc (fun _ => h.hpl s hs)
  · intro i hi; rw [e7]; exact ofsU h.hc (fun _ => h.hpl i hi)
  · rw [ea 8 (by decide) (by decide)]; exact h.hpa
  · rw [e10]; exact ck
  · intro i hi
    rw [e9]
    refine ⟨ofsU ck (fun _ => (h.cm i hi).1), ?_⟩
    by_cases q : i = s
    · rw [q, sU_self]; exact Nat.le_refl _
    · rw [sU_ne _ _ q]; exact Nat.le_succ_of_le (h.cm i hi).2
  · intro i j j' hi hj hj' hp hne
    have old : e.lc i = some j → i < e.n → (∀ q, e.pa s = some q → i ≠ q) → sU cf s (t + 1) j' < sU cf s (t + 1) j := by
      intro hl hi' hq
      have hjn := w.l1 i j hi' hl
      have n1 : j' ≠ s := fun z => hq i (by rw [← z]; exact hp) rfl
      have n2 : j ≠ s := fun z => hq i (by rw [← z]; exact hjn.2) rfl
      rw [sU_ne _ _ n1, sU_ne _ _ n2]
      exact h.cl i j j' hi' hl hj' hp hne
    cases hps : e.pa s with
    | none =>
      rw [e_come_lc0 hps] at hj
      exact old hj hi (fun q hq => by rw [hps] at hq; cases hq)
    | some q =>
      rw [e_come_lc1 hps] at hj
      by_cases z : i = q
      · rw [z, sU_self] at hj
        cases hj
        rw [sU_ne _ _ hne, sU_self]
        have := (h.cm j' hj').2
        exact Nat.lt_succ_of_le this
      · rw [sU_ne _ _ z] at hj
        exact old hj hi (fun q' hq' => by rw [hps] at hq'; cases hq'; exact z)
  · rw [ei 13 (by decide) (by decide) (by decide) (by decide)]; exact h.hh
  · rw [ei 14 (by decide) (by decide) (by decide) (by decide)]; exact h.hf
  · rw [ea 16 (by decide) (by decide)]; exact h.pv
  · intro hhas tn tx hT
    exact (h.pm hhas tn tx hT).frame (ei 17 (by decide) (by decide) (by decide) (by decide)) (ei 23 (by decide) (by decide) (by decide) (by decide)) (ei 24 (by decide) (by decide) (by decide) (by decide)) (fun j h1 h2 => ea j (by clear h w; omega) (by clear h w; omega))
/-- a new state, made from the present one -/
def e_new (e : ES) (tl : Nat) (tf : Nat → Int32) (place : Nat) : ES := (ES.mk e.sn e.sc (e.n + 1) e.p e.c e.mr (sU e.tn e.n tl) (sU e.tx e.n tf) (sU e.pl e.n place) (sU e.pa e.n (some e.p)) (sU (sU e.lc e.n none) e.p (some e.n)) e.has e.pat e.fl)
def e_edit (e : ES) (tl : Nat) (tf : Nat → Int32) (place : Nat) : ES := e_come (e_new e tl tf place) e.n
theorem EWf.new {e : ES} (w : EWf e) {tl : Nat} {tf : Nat → Int32} {place : Nat} (hn : e.n < 40) (hT : Txt tl tf) (hp : place ≤ tl) : EWf (e_new e tl tf place) := by
  have hpb := w.pb
  have hn1 := w.n1
  have lt : ∀ s, s < (e_new e tl tf place).n → s ≠ e.n → s < e.n := fun s h1 h2 => by have : s < e.n + 1 := h1; clear w hT; omega
  have pne : e.p ≠ e.n := by clear w hT; omega
  have tnp : (e_new e tl tf place).tn e.p = e.tn e.p := sU_ne _ _ pne
  refine ⟨w.sb, w.sv, by show 1 ≤ e.n + 1; clear w hT; omega, hn, by show e.p < e.n + 1; clear w hT; omega, fun s hs => ?_, ?_, fun m hm => ?_, fun s hs => ?_, ?_, fun s h0 hs => ?_, fun s j hs hj => ?_, fun s hs h0 j hj => ?_⟩
  · show Txt (sU e.tn e.n tl s) (sU e.tx e.n tf s)
    by_cases q : s = e.n
    · rw [q, sU_self, sU_self]; exact hT
    · rw [sU_ne _ _ q, sU_ne _ _ q]; exact w.tt s (lt s hs q)
  · show e.c ≤ (e_new e tl tf place).tn e.p
    rw [tnp]; exact w.cb
  · show m ≤ (e_new e tl tf place).tn e.p
    rw [tnp]; exact w.mb m hm
  · show sU e.pl e.n place s ≤ sU e.tn e.n tl s
    by_cases q : s = e.n
    · rw [q, sU_self, sU_self]; exact hp
    · rw [sU_ne _ _ q, sU_ne _ _ q]; exact w.lb s (lt s hs q)
  · show sU e.pa e.n (some e.p) 0 = none
    rw [sU_ne _ _ (by clear w hT; omega)]; exact w.p0
  · show ∃ q, sU e.pa e.n (some e.p) s = some q ∧ q < s
    by_cases q : s = e.n
    · rw [q, sU_self]; exact ⟨e.p, rfl, hpb⟩
    · rw [sU_ne _ _ q]; exact w.ps s h0 (lt s hs q)
  · have hj' : sU (sU e.lc e.n none) e.p (some e.n) s = some j := hj
    by_cases qp : s = e.p
    · rw [qp, sU_self] at hj'
      cases hj'
      refine ⟨by show e.n < e.n + 1; clear w hT; omega, ?_⟩
      show sU e.pa e.n (some e.p) e.n = some s
      rw [sU_self, qp]
    · rw [sU_ne _ _ qp] at hj'
      by_cases q : s = e.n
      · rw [q, sU_self] at hj'; cases hj'
      · rw [sU_ne _ _ q] at hj'
        obtain ⟨a, b⟩ := w.l1 s j (lt s hs q) hj'
        refine ⟨by show j < e.n + 1; clear w hT; omega, ?_⟩
        show sU e.pa e.n (some e.p) j = some s
        rw [sU_ne _ _ (by clear w hT; omega)]; exact b
  · have h0' : sU (sU e.lc e.n none) e.p (some e.n) s = none := h0
    show sU e.pa e.n (some e.p) j ≠ some s
    by_cases qp : s = e.p
    · rw [qp, sU_self] at h0'; cases h0'
    · rw [sU_ne _ _ qp] at h0'
      by_cases qj : j = e.n
      · rw [qj, sU_self]; intro z; cases z; exact qp rfl
      · rw [sU_ne _ _ qj]
        by_cases q : s = e.n
        · intro z
          have hjn := lt j hj qj
          by_cases j0 : j = 0
          · rw [j0, w.p0] at z; cases z
          · obtain ⟨q', hq', hlt⟩ := w.ps j (by clear w hT; omega) hjn
            rw [hq'] at z; cases z; clear w hT; omega
        · rw [sU_ne _ _ q] at h0'
          exact w.l0 s (lt s hs q) h0' j (lt j hj qj)
theorem EWf.edit {e : ES} (w : EWf e) {tl : Nat} {tf : Nat → Int32} {place : Nat} (hn : e.n < 40) (hT : Txt tl tf) (hp : place ≤ tl) : EWf (e_edit e tl tf place) := (w.new hn hT hp).come (Nat.lt_succ_self _)
theorem MRel.edit {e : ES} {t : Nat} {cf : Nat → Nat} {I : MI} {A : MA} (h : MRel e t cf I A) (w : EWf e) {m : Nat} {tf : Nat → Int32} {place : Nat} (hn : e.n < 40) (i36 : I 36 = Int32.ofNat m) (hd : ∀ k, k < m → A 37 k = tf k) (hT : Txt m tf) :
    Res (f_M_edit I A (Int32.ofNat place)) (fun z => MRel (e_edit e m tf place) (t + 1) (sU cf e.n (t + 1)) z.2.1 z.2.2 ∧ z.2.1 0 = I 0) := by
  have fu := wk_FUEL_big
  have hm := hT.nb
  have hpb := w.pb
  have hn1 := w.n1
  have pne : e.p ≠ e.n := by clear h w hT; omega
  have lt : ∀ s, s < (e_edit e m tf place).n → s ≠ e.n → s < e.n := fun s h1 h2 => by have : s < e.n + 1 := h1; clear h w hT; omega
  unfold f_M_edit f_M_edit_e
  generalize wk_FUEL = F at fu ⊢
  simp only [wk_let, h.hn, pn_succ]
  obtain ⟨I1, hI1⟩ : ∃ I1, I1 = upd I 3 (Int32.ofNat (e.n + 1)) := ⟨_, rfl⟩
  have io : ∀ j, j ≠ 3 → I1 j = I j := fun j hj => by rw [hI1, upd_ne _ _ hj]
  rw [← hI1]
  refine B_edit_go hn hm (by rw [io 36 (by decide)]; exact i36) m 0 F A _ rfl (by clear h w hT; omega) (by clear h w hT; omega) (by rw [upd_ne _ _ (by decide), upd_self]) (upd_self _ _ _) (fun j hj => by obtain ⟨c, hc, ec⟩ := hT.ch j hj; exact ⟨c, hc, by rw [hd j hj]; exact ec⟩) (fun A2 h1 h2 => ?_)
  have x1 : upd (upd (upd (fun _ => (0 : Int32)) 1 (Int32.ofNat place)) 2 (Int32.ofNat e.n)) 3 0 1 = Int32.ofNat place := by rw [upd_ne _ _ (by decide), upd_ne _ _ (by decide), upd_self]
  rw [x1]
  obtain ⟨A3, hA3⟩ : ∃ A3, A3 = va_up (va_up (va_up A2 6 (upd (A2 6) e.n (Int32.ofNat m))) 7 (upd (A2 7) e.n (Int32.ofNat place))) 8 (upd (A2 8) e.n (I1 4)) := ⟨_, rfl⟩
  have b6 : A3 6 = upd (A 6) e.n (Int32.ofNat m) := by rw [hA3, va_up_ne _ _ (by decide), va_up_ne _ _ (by decide), va_up_self, h1 6 (by decide)]
  have b7 : A3 7 = upd (A 7) e.n (Int32.ofNat place) := by rw [hA3, va_up_ne _ _ (by decide), va_up_self, h1 7 (by decide)]
  have b8 : A3 8 = upd (A 8) e.n (Int32.ofNat e.p) := by rw [hA3, va_up_self, h1 8 (by decide), io 4 (by decide), h.hp]
  have b5 : A3 5 = A2 5 := by rw [hA3, va_up_ne _ _ (by decide), va_up_ne _ _ (by decide), va_up_ne _ _ (by decide)]
  have bo : ∀ j, j ≠ 5 → j ≠ 6 → j ≠ 7 → j ≠ 8 → A3 j = A j := fun j q5 q6 q7 q8 => by rw [hA3, va_up_ne _ _ q8, va_up_ne _ _ q7, va_up_ne _ _ q6, h1 j q5]
  rw [← hA3]
  obtain ⟨I', A', e0, e4, e11, e12, e10, ei, e7, e9, ea⟩ := B_come (I := I1) (A := A3) (s := e.n) (by rw [io 4 (by decide)]; exact h.hp) (show e.p < 40 by clear h w hT; omega) hn
  have ck : I1 10 + 1 = Int32.ofNat (t + 1) := by rw [io 10 (by decide), h.ck]; exact pn_succ _
  have c11 : I1 11 = Int32.ofNat e.c := by rw [io 11 (by decide)]; exact h.hc
  have epl : (e_edit e m tf place).pl = sU (sU e.pl e.n place) e.p e.c := rfl
  have elc : (e_edit e m tf place).lc = sU (sU (sU e.lc e.n none) e.p (some e.n)) e.p (some e.n) := e_come_lc1 (sU_self _ _ _)
  suffices key : MRel (e_edit e m tf place) (t + 1) (sU cf e.n (t + 1)) I' A' ∧ I' 0 = I 0 from ⟨_, e0, key⟩
  refine ⟨⟨?_, ?_, ?_, e4, ?_, ?_, ?_, e12, ?_, ?_, ?_, ?_, ?_, ?_, ?_, ?_, ?_⟩, ?_⟩
  · rw [ei 1 (by decide) (by decide) (by decide) (by decide), io 1 (by decide)]; exact h.s1
  · rw [ea 2 (by decide) (by decide), bo 2 (by decide) (by decide) (by decide) (by decide)]; exact h.s2
  · rw [ei 3 (by decide) (by decide) (by decide) (by decide), hI1, upd_self]; rfl
  · intro s hs
    rw [ea 6 (by decide) (by decide), b6]
    exact ofsU rfl (fun q => h.tl s (lt s hs q))
  · intro s hs i hi
    have hi' : i < sU e.tn e.n m s := hi
    show A' 5 (160 * s + i) = sU e.tx e.n tf s i
    rw [ea 5 (by decide) (by decide), b5, h2]
    by_cases q : s = e.n
    · rw [q, sU_self] at hi'
      rw [q, sU_self, if_pos (by clear h w hT; omega), show 160 * e.n + i - 160 * e.n = i by clear h w hT; omega, hd i hi']
    · rw [sU_ne _ _ q] at hi'
      have hsn := lt s hs q
      have h160 := (w.tt s hsn).nb
      rw [sU_ne _ _ q, if_neg (by clear h w hT; omega)]
      exact h.tc s hsn i hi'
  · rw [e11, b7]
    show _ = Int32.ofNat ((e_edit e m tf place).pl e.n)
    rw [epl]
    exact ofsU c11 (fun _ => ofsU rfl (fun q => (q rfl).elim))
  · intro s hs
    rw [e7, b7, epl]
    exact ofsU c11 (fun _ => ofsU rfl (fun q => h.hpl s (lt s hs q)))
  · intro s hs
    rw [ea 8 (by decide) (by decide), b8]
    show _ = mkI (sU e.pa e.n (some e.p) s)
    by_cases q : s = e.n
    · rw [q, upd_self, sU_self]; rfl
    · rw [upd_ne _ _ q, sU_ne _ _ q]; exact h.hpa s (lt s hs q)
  · rw [e10]; exact ck
  · intro s hs
    rw [e9]
    refine ⟨ofsU ck (fun q => by rw [bo 9 (by decide) (by decide) (by decide) (by decide)]; exact (h.cm s (lt s hs q)).1), ?_⟩
    by_cases q : s = e.n
    · rw [q, sU_self]; exact Nat.le_refl _
    · rw [sU_ne _ _ q]; exact Nat.le_succ_of_le (h.cm s (lt s hs q)).2
  · intro s j j' hs hj hj' hp hne
    rw [elc] at hj
    have hp' : sU e.pa e.n (some e.p) j' = some s := hp
    by_cases qp : s = e.p
    · rw [qp, sU_self] at hj
      cases hj
      rw [sU_ne _ _ hne, sU_self]
      exact Nat.lt_succ_of_le (h.cm j' (lt j' hj' hne)).2
    · rw [sU_ne _ _ qp, sU_ne _ _ qp] at hj
      by_cases q : s = e.n
      · rw [q, sU_self] at hj; cases hj
      · rw [sU_ne _ _ q] at hj
        have hjn := w.l1 s j (lt s hs q) hj
        have n1 : j ≠ e.n := by clear h w hT; omega
        have n2 : j' ≠ e.n := fun z => by rw [z, sU_self] at hp'; cases hp'; exact qp rfl
        rw [sU_ne _ _ n2] at hp'
        rw [sU_ne _ _ n1, sU_ne _ _ n2]
        exact h.cl s j j' (lt s hs q) hj (lt j' hj' n2) hp' hne
  · rw [ei 13 (by decide) (by decide) (by decide) (by decide), io 13 (by decide)]; exact h.hh
  · rw [ei 14 (by decide) (by decide) (by decide) (by decide), io 14 (by decide)]; exact h.hf
  · rw [ea 16 (by decide) (by decide), bo 16 (by decide) (by decide) (by decide) (by decide)]; exact h.pv
  · intro hhas tn tx hT'
    exact (h.pm hhas tn tx hT').frame (by rw [ei 17 (by decide) (by decide) (by decide) (by decide), io 17 (by decide)]) (by rw [ei 23 (by decide) (by decide) (by decide) (by decide), io 23 (by decide)]) (by rw [ei 24 (by decide) (by decide) (by decide) (by decide), io 24 (by decide)]) (fun j q1 q2 => by rw [ea j (by clear h w hT hT'; omega) (by clear h w hT hT'; omega), bo j (by clear h w hT hT'; omega) (by clear h w hT hT'; omega) (by clear h w hT hT'; omega) (by clear h w hT hT'; omega)])
  · show I' 0 = I 0
    rw [ei 0 (by decide) (by decide) (by decide) (by decide), io 0 (by decide)]

/-- the reference's builder, as nodes with ways, pieces, and what is open by depth -/
abbrev RR : Type := (Nat) × (Nat → Option Nat) × (Nat → Option Nat) × (Nat → Rl) × (Nat) × (Nat → Nat) × (Nat → Nat) × (Nat) × (Nat → Option Nat) × (Nat → Nat) × (Nat → Option Nat)
def RR.n (r_ : RR) : Nat := r_.1
def RR.on (r_ : RR) : Nat → Option Nat := r_.2.1
def RR.tw (r_ : RR) : Nat → Option Nat := r_.2.2.1
def RR.lab (r_ : RR) : Nat → Rl := r_.2.2.2.1
def RR.np (r_ : RR) : Nat := r_.2.2.2.2.1
def RR.hd (r_ : RR) : Nat → Nat := r_.2.2.2.2.2.1
def RR.tl (r_ : RR) : Nat → Nat := r_.2.2.2.2.2.2.1
def RR.k (r_ : RR) : Nat := r_.2.2.2.2.2.2.2.1
def RR.ch (r_ : RR) : Nat → Option Nat := r_.2.2.2.2.2.2.2.2.1
def RR.rw (r_ : RR) : Nat → Nat := r_.2.2.2.2.2.2.2.2.2.1
def RR.pt (r_ : RR) : Nat → Option Nat := r_.2.2.2.2.2.2.2.2.2.2
abbrev RR.mk (n_ : Nat) (on_ : Nat → Option Nat) (tw_ : Nat → Option Nat) (lab_ : Nat → Rl) (np_ : Nat) (hd_ : Nat → Nat) (tl_ : Nat → Nat) (k_ : Nat) (ch_ : Nat → Option Nat) (rw_ : Nat → Nat) (pt_ : Nat → Option Nat) : RR := (n_, on_, tw_, lab_, np_, hd_, tl_, k_, ch_, rw_, pt_)
abbrev RP (r : RR) (U : Nat → Prop) (p : Nat) (R : Rl) : Prop := (Fr (cF r.on r.tw) r.lab U (r.hd p) (r.tl p) R) ∧ (r.on (r.tl p) = none) ∧ (r.tw (r.tl p) = none) ∧ (r.lab (r.tl p) = rl_id) ∧ (∀ u, U u → u < r.n) ∧ (p < r.np)
theorem RP.fr {r : RR} {U : Nat → Prop} {p : Nat} {R : Rl} (h_ : RP r U p R) : Fr (cF r.on r.tw) r.lab U (r.hd p) (r.tl p) R := h_.1
theorem RP.tn {r : RR} {U : Nat → Prop} {p : Nat} {R : Rl} (h_ : RP r U p R) : r.on (r.tl p) = none := h_.2.1
theorem RP.tt {r : RR} {U : Nat → Prop} {p : Nat} {R : Rl} (h_ : RP r U p R) : r.tw (r.tl p) = none := h_.2.2.1
theorem RP.tl {r : RR} {U : Nat → Prop} {p : Nat} {R : Rl} (h_ : RP r U p R) : r.lab (r.tl p) = rl_id := h_.2.2.2.1
theorem RP.un {r : RR} {U : Nat → Prop} {p : Nat} {R : Rl} (h_ : RP r U p R) : ∀ u, U u → u < r.n := h_.2.2.2.2.1
theorem RP.lt {r : RR} {U : Nat → Prop} {p : Nat} {R : Rl} (h_ : RP r U p R) : p < r.np := h_.2.2.2.2.2
/-- what has not changed on a set of nodes -/
abbrev RFr (r r' : RR) (V : Nat → Prop) : Prop := (∀ u, V u → r'.on u = r.on u ∧ r'.tw u = r.tw u ∧ r'.lab u = r.lab u) ∧ (∀ p, p < r.np → r'.hd p = r.hd p ∧ r'.tl p = r.tl p) ∧ (r.n ≤ r'.n) ∧ (r.np ≤ r'.np)
theorem RFr.nd {r r' : RR} {V : Nat → Prop} (h_ : RFr r r' V) : ∀ u, V u → r'.on u = r.on u ∧ r'.tw u = r.tw u ∧ r'.lab u = r.lab u := h_.1
theorem RFr.pc {r r' : RR} {V : Nat → Prop} (h_ : RFr r r' V) : ∀ p, p < r.np → r'.hd p = r.hd p ∧ r'.tl p = r.tl p := h_.2.1
theorem RFr.n {r r' : RR} {V : Nat → Prop} (h_ : RFr r r' V) : r.n ≤ r'.n := h_.2.2.1
theorem RFr.np {r r' : RR} {V : Nat → Prop} (h_ : RFr r r' V) : r.np ≤ r'.np := h_.2.2.2
theorem RFr.trans {r r' r'' : RR} {V : Nat → Prop} (h : RFr r r' V) (h' : RFr r' r'' V) : RFr r r'' V :=
  ⟨fun u hu => ⟨(h'.nd u hu).1.trans (h.nd u hu).1, (h'.nd u hu).2.1.trans (h.nd u hu).2.1, (h'.nd u hu).2.2.trans (h.nd u hu).2.2⟩,
   fun p hp => ⟨(h'.pc p (by have := h.np; omega)).1.trans (h.pc p hp).1, (h'.pc p (by have := h.np; omega)).2.trans (h.pc p hp).2⟩, Nat.le_trans h.n h'.n, Nat.le_trans h.np h'.np⟩
theorem RFr.sub {r r' : RR} {V V' : Nat → Prop} (h : RFr r r' V) (hs : ∀ u, V' u → V u) : RFr r r' V' := ⟨fun u hu => h.nd u (hs u hu), h.pc, h.n, h.np⟩
theorem RP.frame {r r' : RR} {U U' V : Nat → Prop} {p : Nat} {R : Rl} (h : RP r U p R) (hF : RFr r r' V) (hV : ∀ u, U u → V u) (hU : ∀ u, U u ↔ U' u) : RP r' U' p R := by
  obtain ⟨e1, e2⟩ := hF.pc p h.lt
  have ht := hF.nd _ (hV _ h.fr.tU)
  refine ⟨?_, ?_, ?_, ?_, fun u hu => Nat.lt_of_lt_of_le (h.un u ((hU u).mpr hu)) hF.n, Nat.lt_of_lt_of_le h.lt hF.np⟩
  · rw [e1, e2]
    exact h.fr.congr hU (fun u v hu => by obtain ⟨a, b, _⟩ := hF.nd u (hV u hu); simp only [cF, a, b]) (fun u hu => (hF.nd u (hV u hu)).2.2.symm)
  · rw [e2, ht.1]; exact h.tn
  · rw [e2, ht.2.1]; exact h.tt
  · rw [e2, ht.2.2]; exact h.tl
def r_single (r : RR) (l : Rl) : RR := (RR.mk (r.n + 2) (sU (sU (sU r.on r.n none) (r.n + 1) none) r.n (some (r.n + 1))) (sU (sU r.tw r.n none) (r.n + 1) none) (sU (sU r.lab r.n l) (r.n + 1) rl_id) (r.np + 1) (sU r.hd r.np r.n) (sU r.tl r.np (r.n + 1)) r.k r.ch r.rw r.pt)
theorem r_single_fr (r : RR) (l : Rl) : RFr r (r_single r l) (fun u => u < r.n) := by
  refine ⟨fun u hu => ⟨?_, ?_, ?_⟩, fun p hp => ⟨sU_ne _ _ (by omega), sU_ne _ _ (by omega)⟩, by show r.n ≤ r.n + 2; omega, by show r.np ≤ r.np + 1; omega⟩
  · show sU _ _ _ u = _; rw [sU_ne _ _ (by omega), sU_ne _ _ (by omega), sU_ne _ _ (by omega)]
  · show sU _ _ _ u = _; rw [sU_ne _ _ (by omega), sU_ne _ _ (by omega)]
  · show sU _ _ _ u = _; rw [sU_ne _ _ (by omega), sU_ne _ _ (by omega)]
theorem r_single_rp (r : RR) (l : Rl) : RP (r_single r l) (fun u => u = r.n ∨ u = r.n + 1) r.np l := by
  have h1 : (r_single r l).hd r.np = r.n := sU_self _ _ _
  have h2 : (r_single r l).tl r.np = r.n + 1 := sU_self _ _ _
  have o1 : (r_single r l).on r.n = some (r.n + 1) := sU_self _ _ _
  have o2 : (r_single r l).on (r.n + 1) = none := by show sU _ _ _ _ = _; rw [sU_ne _ _ (by omega), sU_self]
  have t1 : (r_single r l).tw r.n = none := by show sU _ _ _ _ = _; rw [sU_ne _ _ (by omega), sU_self]
  have t2 : (r_single r l).tw (r.n + 1) = none := sU_self _ _ _
  have l1 : (r_single r l).lab r.n = l := by show sU _ _ _ _ = _; rw [sU_ne _ _ (by omega), sU_self]
  have l2 : (r_single r l).lab (r.n + 1) = rl_id := sU_self _ _ _
  have F1 : Fr (fun _ _ => False) (r_single r l).lab (fun u => u = r.n) r.n r.n ((r_single r l).lab r.n) := Fr.node (fun _ => Iff.rfl) (fun _ h => h)
  have F2 : Fr (fun _ _ => False) (r_single r l).lab (fun u => u = r.n + 1) (r.n + 1) (r.n + 1) ((r_single r l).lab (r.n + 1)) := Fr.node (fun _ => Iff.rfl) (fun _ h => h)
  rw [l1] at F1; rw [l2] at F2
  refine ⟨?_, by rw [h2]; exact o2, by rw [h2]; exact t2, by rw [h2]; exact l2, ?_, by show r.np < r.np + 1; omega⟩
  · rw [h1, h2]
    have hh := Fr.seq (e := cF (r_single r l).on (r_single r l).tw) (U := fun u => u = r.n ∨ u = r.n + 1) F1 F2 (fun u a b => by omega) (fun _ => Iff.rfl) (fun u v hu => ?_) (fun u v hu => ?_)
    · rw [rl_seq_id] at hh; exact hh
    · subst hu
      simp only [cF, o1, t1]
      constructor
      · rintro (q | q)
        · exact Or.inr ⟨trivial, (Option.some.inj q).symm⟩
        · cases q
      · rintro (q | ⟨_, q⟩)
        · exact q.elim
        · rw [q]; exact Or.inl rfl
    · subst hu
      simp only [cF, o2, t2]
      constructor
      · rintro (q | q) <;> cases q
      · intro q; exact q.elim
  · intro u hu; show u < r.n + 2; omega
def r_nothing (r : RR) : RR := (RR.mk (r.n + 1) (sU r.on r.n none) (sU r.tw r.n none) (sU r.lab r.n rl_id) (r.np + 1) (sU r.hd r.np r.n) (sU r.tl r.np r.n) r.k r.ch r.rw r.pt)
theorem r_nothing_fr (r : RR) : RFr r (r_nothing r) (fun u => u < r.n) := by
  refine ⟨fun u hu => ⟨sU_ne _ _ (by omega), sU_ne _ _ (by omega), sU_ne _ _ (by omega)⟩, fun p hp => ⟨sU_ne _ _ (by omega), sU_ne _ _ (by omega)⟩, by show r.n ≤ r.n + 1; omega, by show r.np ≤ r.np + 1; omega⟩
theorem r_nothing_rp (r : RR) : RP (r_nothing r) (fun u => u = r.n) r.np rl_id := by
  have h1 : (r_nothing r).hd r.np = r.n := sU_self _ _ _
  have h2 : (r_nothing r).tl r.np = r.n := sU_self _ _ _
  have o1 : (r_nothing r).on r.n = none := sU_self _ _ _
  have t1 : (r_nothing r).tw r.n = none := sU_self _ _ _
  have l1 : (r_nothing r).lab r.n = rl_id := sU_self _ _ _
  refine ⟨?_, by rw [h2]; exact o1, by rw [h2]; exact t1, by rw [h2]; exact l1, ?_, by show r.np < r.np + 1; omega⟩
  · rw [h1, h2]
    have F1 : Fr (cF (r_nothing r).on (r_nothing r).tw) (r_nothing r).lab (fun u => u = r.n) r.n r.n ((r_nothing r).lab r.n) := Fr.node (fun _ => Iff.rfl) (fun v h => by
      rcases h with h | h
      · rw [o1] at h; cases h
      · rw [t1] at h; cases h)
    rw [l1] at F1; exact F1
  · intro u hu; show u < r.n + 1; omega
/-- a way from a tail on -/
def r_link (r : RR) (a b : Nat) : RR := (RR.mk r.n (sU r.on a (some b)) r.tw r.lab r.np r.hd r.tl r.k r.ch r.rw r.pt)
def r_piece (r : RR) (a b : Nat) : RR := (RR.mk r.n r.on r.tw r.lab (r.np + 1) (sU r.hd r.np a) (sU r.tl r.np b) r.k r.ch r.rw r.pt)
def r_seq (r : RR) (p q : Nat) : RR := r_piece (r_link r (r.tl p) (r.hd q)) (r.hd p) (r.tl q)
theorem r_seq_fr {r : RR} {U1 : Nat → Prop} {p q : Nat} {R1 : Rl} (h1 : RP r U1 p R1) : RFr r (r_seq r p q) (fun u => ¬ U1 u) := by
  refine ⟨fun u hu => ⟨sU_ne _ _ (fun e => hu (e ▸ h1.fr.tU)), rfl, rfl⟩, fun x hx => ⟨sU_ne _ _ (show x ≠ r.np by omega), sU_ne _ _ (show x ≠ r.np by omega)⟩, Nat.le_refl _, by show r.np ≤ r.np + 1; omega⟩
theorem r_seq_rp {r : RR} {U1 U2 U : Nat → Prop} {p q : Nat} {R1 R2 : Rl} (h1 : RP r U1 p R1) (h2 : RP r U2 q R2) (hd : ∀ u, U1 u → ¬ U2 u) (hU : ∀ u, U u ↔ U1 u ∨ U2 u) : RP (r_seq r p q) U r.np (rl_seq R1 R2) := by
  have e1 : (r_seq r p q).hd r.np = r.hd p := sU_self _ _ _
  have e2 : (r_seq r p q).tl r.np = r.tl q := sU_self _ _ _
  have hne : r.tl q ≠ r.tl p := fun e => hd _ h1.fr.tU (e ▸ h2.fr.tU)
  have on1 : ∀ u, u ≠ r.tl p → (r_seq r p q).on u = r.on u := fun u hu => sU_ne _ _ hu
  have on2 : (r_seq r p q).on (r.tl p) = some (r.hd q) := sU_self _ _ _
  refine ⟨?_, by rw [e2, on1 _ hne]; exact h2.tn, by rw [e2]; exact h2.tt, by rw [e2]; exact h2.tl, fun u hu => ((hU u).mp hu).elim (h1.un u) (h2.un u), by show r.np < r.np + 1; omega⟩
  rw [e1, e2]
  refine Fr.seq (e1 := cF r.on r.tw) (e2 := cF r.on r.tw) h1.fr h2.fr hd hU (fun u v hu => ?_) (fun u v hu => ?_)
  · simp only [cF, show (r_seq r p q).tw = r.tw from rfl]
    by_cases e : u = r.tl p
    · subst e
      rw [on2, h1.tn, h1.tt]
      constructor
      · rintro (z | z)
        · exact Or.inr ⟨rfl, (Option.some.inj z).symm⟩
        · cases z
      · rintro ((z | z) | ⟨_, z⟩)
        · cases z
        · cases z
        · rw [z]; exact Or.inl rfl
    · rw [on1 u e]
      constructor
      · exact Or.inl
      · rintro (z | ⟨z, _⟩)
        · exact z
        · exact (e z).elim
  · have : u ≠ r.tl p := fun e => hd _ h1.fr.tU (e ▸ hu)
    simp only [cF, on1 u this, show (r_seq r p q).tw = r.tw from rfl]
def r_alt (r : RR) (p q : Nat) : RR :=
  (RR.mk (r.n + 2) (sU (sU (sU (sU (sU r.on r.n none) (r.n + 1) none) r.n (some (r.hd p))) (r.tl p) (some (r.n + 1))) (r.tl q) (some (r.n + 1))) (sU (sU (sU r.tw r.n none) (r.n + 1) none) r.n (some (r.hd q))) (sU (sU r.lab r.n rl_id) (r.n + 1) rl_id) (r.np + 1) (sU r.hd r.np r.n) (sU r.tl r.np (r.n + 1)) r.k r.ch r.rw r.pt)
theorem r_alt_fr {r : RR} {U1 U2 : Nat → Prop} {p q : Nat} {R1 R2 : Rl} (h1 : RP r U1 p R1) (h2 : RP r U2 q R2) : RFr r (r_alt r p q) (fun u => u < r.n ∧ ¬ U1 u ∧ ¬ U2 u) := by
  refine ⟨fun u hu => ⟨?_, ?_, ?_⟩, fun x hx => ⟨sU_ne _ _ (by omega), sU_ne _ _ (by omega)⟩, by show r.n ≤ r.n + 2; omega, by show r.np ≤ r.np + 1; omega⟩
  · have a : u ≠ r.tl p := fun e => hu.2.1 (e ▸ h1.fr.tU)
    have b : u ≠ r.tl q := fun e => hu.2.2 (e ▸ h2.fr.tU)
    have c := hu.1
    show sU _ _ _ u = _
    rw [sU_ne _ _ b, sU_ne _ _ a, sU_ne _ _ (by omega), sU_ne _ _ (by omega), sU_ne _ _ (by omega)]
  · have c := hu.1
    show sU _ _ _ u = _
    rw [sU_ne _ _ (by omega), sU_ne _ _ (by omega), sU_ne _ _ (by omega)]
  · have c := hu.1
    show sU _ _ _ u = _
    rw [sU_ne _ _ (by omega), sU_ne _ _ (by omega)]
theorem r_alt_rp {r : RR} {U1 U2 U : Nat → Prop} {p q : Nat} {R1 R2 : Rl} (h1 : RP r U1 p R1) (h2 : RP r U2 q R2) (hd : ∀ u, U1 u → ¬ U2 u) (hU : ∀ u, U u ↔ U1 u ∨ U2 u ∨ u = r.n ∨ u = r.n + 1) : RP (r_alt r p q) U r.np (rl_or R1 R2) := by
  have e1 : (r_alt r p q).hd r.np = r.n := sU_self _ _ _
  have e2 : (r_alt r p q).tl r.np = r.n + 1 := sU_self _ _ _
  have tp := h1.un _ h1.fr.tU
  have tq := h2.un _ h2.fr.tU
  have hpq : r.tl p ≠ r.tl q := fun e => hd _ h1.fr.tU (e ▸ h2.fr.tU)
  have onp : (r_alt r p q).on (r.tl p) = some (r.n + 1) := by show sU _ _ _ _ = _; rw [sU_ne _ _ hpq, sU_self]
  have onq : (r_alt r p q).on (r.tl q) = some (r.n + 1) := sU_self _ _ _
  have ona : (r_alt r p q).on r.n = some (r.hd p) := by show sU _ _ _ _ = _; rw [sU_ne _ _ (by omega), sU_ne _ _ (by omega), sU_self]
  have onb : (r_alt r p q).on (r.n + 1) = none := by show sU _ _ _ _ = _; rw [sU_ne _ _ (by omega), sU_ne _ _ (by omega), sU_ne _ _ (by omega), sU_self]
  have twa : (r_alt r p q).tw r.n = some (r.hd q) := sU_self _ _ _
  have twb : (r_alt r p q).tw (r.n + 1) = none := by show sU _ _ _ _ = _; rw [sU_ne _ _ (by omega), sU_self]
  have la : (r_alt r p q).lab r.n = rl_id := by show sU _ _ _ _ = _; rw [sU_ne _ _ (by omega), sU_self]
  have lb : (r_alt r p q).lab (r.n + 1) = rl_id := sU_self _ _ _
  have on1 : ∀ u, u < r.n → u ≠ r.tl p → u ≠ r.tl q → (r_alt r p q).on u = r.on u := fun u hu a b => by
    show sU _ _ _ u = _
    rw [sU_ne _ _ b, sU_ne _ _ a, sU_ne _ _ (by omega), sU_ne _ _ (by omega), sU_ne _ _ (by omega)]
  have tw1 : ∀ u, u < r.n → (r_alt r p q).tw u = r.tw u := fun u hu => by
    show sU _ _ _ u = _
    rw [sU_ne _ _ (by omega), sU_ne _ _ (by omega), sU_ne _ _ (by omega)]
  have lb1 : ∀ u, u < r.n → (r_alt r p q).lab u = r.lab u := fun u hu => by
    show sU _ _ _ u = _
    rw [sU_ne _ _ (by omega), sU_ne _ _ (by omega)]
  refine ⟨?_, by rw [e2]; exact onb, by rw [e2]; exact twb, by rw [e2]; exact lb, ?_, by show r.np < r.np + 1; omega⟩
  · rw [e1, e2]
    have F1 : Fr (cF r.on r.tw) (r_alt r p q).lab U1 (r.hd p) (r.tl p) R1 := h1.fr.congr (fun _ => Iff.rfl) (fun _ _ _ => Iff.rfl) (fun u hu => (lb1 u (h1.un u hu)).symm)
    have F2 : Fr (cF r.on r.tw) (r_alt r p q).lab U2 (r.hd q) (r.tl q) R2 := h2.fr.congr (fun _ => Iff.rfl) (fun _ _ _ => Iff.rfl) (fun u hu => (lb1 u (h2.un u hu)).symm)
    refine Fr.alt F1 F2 hd (fun z => by have := h1.un _ z; omega) (fun z => by have := h2.un _ z; omega) (fun z => by have := h1.un _ z; omega) (fun z => by have := h2.un _ z; omega) (by omega) la lb hU (fun u v hu => ?_) (fun u v hu => ?_) (fun v => ?_) (fun v => ?_)
    · have hun := h1.un u hu
      simp only [cF, tw1 u hun]
      by_cases e : u = r.tl p
      · subst e
        rw [onp, h1.tn, h1.tt]
        constructor
        · rintro (z | z)
          · exact Or.inr ⟨rfl, (Option.some.inj z).symm⟩
          · cases z
        · rintro ((z | z) | ⟨_, z⟩)
          · cases z
          · cases z
          · rw [z]; exact Or.inl rfl
      · rw [on1 u hun e (fun z => hd _ hu (z ▸ h2.fr.tU))]
        constructor
        · exact Or.inl
        · rintro (z | ⟨z, _⟩)
          · exact z
          · exact (e z).elim
    · have hun := h2.un u hu
      simp only [cF, tw1 u hun]
      by_cases e : u = r.tl q
      · subst e
        rw [onq, h2.tn, h2.tt]
        constructor
        · rintro (z | z)
          · exact Or.inr ⟨rfl, (Option.some.inj z).symm⟩
          · cases z
        · rintro ((z | z) | ⟨_, z⟩)
          · cases z
          · cases z
          · rw [z]; exact Or.inl rfl
      · rw [on1 u hun (fun z => hd _ h1.fr.tU (z ▸ hu)) e]
        constructor
        · exact Or.inl
        · rintro (z | ⟨z, _⟩)
          · exact z
          · exact (e z).elim
    · simp only [cF, ona, twa]
      constructor
      · rintro (z | z)
        · exact Or.inl (Option.some.inj z).symm
        · exact Or.inr (Option.some.inj z).symm
      · rintro (z | z)
        · rw [z]; exact Or.inl rfl
        · rw [z]; exact Or.inr rfl
    · simp only [cF, onb, twb]
      rintro (z | z) <;> cases z
  · intro u hu
    show u < r.n + 2
    rcases (hU u).mp hu with h | h | h | h
    · have := h1.un u h; omega
    · have := h2.un u h; omega
    · omega
    · omega
def r_times (r : RR) (p : Nat) (leave again : Bool) : RR :=
  (RR.mk (r.n + 2) (sU (sU (sU (sU r.on r.n none) (r.n + 1) none) r.n (some (r.hd p))) (r.tl p) (some (r.n + 1))) (if leave then (if again then sU (sU (sU (sU r.tw r.n none) (r.n + 1) none) r.n (some (r.n + 1))) (r.tl p) (some (r.hd p)) else sU (sU (sU r.tw r.n none) (r.n + 1) none) r.n (some (r.n + 1))) else (if again then sU (sU (sU r.tw r.n none) (r.n + 1) none) (r.tl p) (some (r.hd p)) else sU (sU r.tw r.n none) (r.n + 1) none)) (sU (sU r.lab r.n rl_id) (r.n + 1) rl_id) (r.np + 1) (sU r.hd r.np r.n) (sU r.tl r.np (r.n + 1)) r.k r.ch r.rw r.pt)
theorem r_times_tw1 {r : RR} {p : Nat} (leave again : Bool) {u : Nat} (h : u < r.n) (ht : u ≠ r.tl p) : (r_times r p leave again).tw u = r.tw u := by
  cases leave <;> cases again <;> (show sU _ _ _ u = _) <;> simp only [sU, if_neg ht, if_neg (show u ≠ r.n by omega), if_neg (show u ≠ r.n + 1 by omega)]
theorem r_times_fr {r : RR} {U1 : Nat → Prop} {p : Nat} {R1 : Rl} (h1 : RP r U1 p R1) (leave again : Bool) : RFr r (r_times r p leave again) (fun u => u < r.n ∧ ¬ U1 u) := by
  refine ⟨fun u hu => ⟨?_, ?_, ?_⟩, fun x hx => ⟨sU_ne _ _ (by omega), sU_ne _ _ (by omega)⟩, by show r.n ≤ r.n + 2; omega, by show r.np ≤ r.np + 1; omega⟩
  · have a : u ≠ r.tl p := fun e => hu.2 (e ▸ h1.fr.tU)
    have c := hu.1
    show sU _ _ _ u = _
    rw [sU_ne _ _ a, sU_ne _ _ (by omega), sU_ne _ _ (by omega), sU_ne _ _ (by omega)]
  · exact r_times_tw1 leave again hu.1 (fun e => hu.2 (e ▸ h1.fr.tU))
  · have c := hu.1
    show sU _ _ _ u = _
    rw [sU_ne _ _ (by omega), sU_ne _ _ (by omega)]
theorem r_times_rp {r : RR} {U1 U : Nat → Prop} {p : Nat} {R1 : Rl} (h1 : RP r U1 p R1) (leave again : Bool) (hU : ∀ u, U u ↔ U1 u ∨ u = r.n ∨ u = r.n + 1) : RP (r_times r p leave again) U r.np (rl_times leave again R1) := by
  have e1 : (r_times r p leave again).hd r.np = r.n := sU_self _ _ _
  have e2 : (r_times r p leave again).tl r.np = r.n + 1 := sU_self _ _ _
  have tp := h1.un _ h1.fr.tU
  have onp : (r_times r p leave again).on (r.tl p) = some (r.n + 1) := sU_self _ _ _
  have ona : (r_times r p leave again).on r.n = some (r.hd p) := by show sU _ _ _ _ = _; rw [sU_ne _ _ (by omega), sU_self]
  have onb : (r_times r p leave again).on (r.n + 1) = none := by show sU _ _ _ _ = _; rw [sU_ne _ _ (by omega), sU_ne _ _ (by omega), sU_self]
  have twa : (r_times r p leave again).tw r.n = if leave then some (r.n + 1) else none := by
    cases leave <;> cases again <;> (show sU _ _ _ _ = _) <;> simp [sU, show r.n ≠ r.tl p by omega]
  have twb : (r_times r p leave again).tw (r.n + 1) = none := by
    cases leave <;> cases again <;> (show sU _ _ _ _ = _) <;> simp [sU, show r.n + 1 ≠ r.tl p by omega]
  have twp : (r_times r p leave again).tw (r.tl p) = if again then some (r.hd p) else none := by
    have := h1.tt
    cases leave <;> cases again <;> (show sU _ _ _ _ = _) <;> simp [sU, show r.tl p ≠ r.n by omega, show r.tl p ≠ r.n + 1 by omega, this]
  have la : (r_times r p leave again).lab r.n = rl_id := by show sU _ _ _ _ = _; rw [sU_ne _ _ (by omega), sU_self]
  have lb : (r_times r p leave again).lab (r.n + 1) = rl_id := sU_self _ _ _
  have on1 : ∀ u, u < r.n → u ≠ r.tl p → (r_times r p leave again).on u = r.on u := fun u hu a => by
    show sU _ _ _ u = _
    rw [sU_ne _ _ a, sU_ne _ _ (by omega), sU_ne _ _ (by omega), sU_ne _ _ (by omega)]
  have lb1 : ∀ u, u < r.n → (r_times r p leave again).lab u = r.lab u := fun u hu => by
    show sU _ _ _ u = _
    rw [sU_ne _ _ (by omega), sU_ne _ _ (by omega)]
  refine ⟨?_, by rw [e2]; exact onb, by rw [e2]; exact twb, by rw [e2]; exact lb, ?_, by show r.np < r.np + 1; omega⟩
  · rw [e1, e2]
    have F1 : Fr (cF r.on r.tw) (r_times r p leave again).lab U1 (r.hd p) (r.tl p) R1 := h1.fr.congr (fun _ => Iff.rfl) (fun _ _ _ => Iff.rfl) (fun u hu => (lb1 u (h1.un u hu)).symm)
    refine Fr.around F1 leave again (fun z => by have := h1.un _ z; omega) (fun z => by have := h1.un _ z; omega) (by omega) la lb hU (fun u v hu => ?_) (fun v => ?_) (fun v => ?_)
    · have hun := h1.un u hu
      simp only [cF]
      by_cases e : u = r.tl p
      · subst e
        rw [onp, twp, h1.tn, h1.tt]
        constructor
        · rintro (z | z)
          · exact Or.inr ⟨rfl, Or.inl (Option.some.inj z).symm⟩
          · cases again
            · cases z
            · exact Or.inr ⟨rfl, Or.inr ⟨rfl, (Option.some.inj z).symm⟩⟩
        · rintro ((z | z) | ⟨_, z | ⟨z0, z⟩⟩)
          · cases z
          · cases z
          · rw [z]; exact Or.inl rfl
          · subst z0; rw [z]; exact Or.inr rfl
      · rw [on1 u hun e, r_times_tw1 leave again hun e]
        constructor
        · exact Or.inl
        · rintro (z | ⟨z, _⟩)
          · exact z
          · exact (e z).elim
    · simp only [cF, ona, twa]
      constructor
      · rintro (z | z)
        · exact Or.inl (Option.some.inj z).symm
        · cases leave
          · cases z
          · exact Or.inr ⟨rfl, (Option.some.inj z).symm⟩
      · rintro (z | ⟨z0, z⟩)
        · rw [z]; exact Or.inl rfl
        · subst z0; rw [z]; exact Or.inr rfl
    · simp only [cF, onb, twb]
      rintro (z | z) <;> cases z
  · intro u hu
    show u < r.n + 2
    rcases (hU u).mp hu with h | h | h
    · have := h1.un u h; omega
    · omega
    · omega
def rU (r : RR) (own : Nat → Nat) (s : Nat) (u : Nat) : Prop := u < r.n ∧ own u = s
/-- a place of a level that may be empty -/
def ROp (r : RR) (own : Nat → Nat) (s : Nat) (p : Option Nat) : Option Rl → Prop
  | none => p = none ∧ ∀ u, ¬ rU r own s u
  | some R => ∃ q, p = some q ∧ RP r (rU r own s) q R
abbrev RLev (r : RR) (own : Nat → Nat) (k : Nat) (x : RLv) : Prop := (ROp r own (3 * k) (r.ch k) x.1) ∧ (RP r (rU r own (3 * k + 1)) (r.rw k) x.2.1) ∧ (ROp r own (3 * k + 2) (r.pt k) x.2.2)
theorem RLev.c {r : RR} {own : Nat → Nat} {k : Nat} {x : RLv} (h_ : RLev r own k x) : ROp r own (3 * k) (r.ch k) x.1 := h_.1
theorem RLev.w {r : RR} {own : Nat → Nat} {k : Nat} {x : RLv} (h_ : RLev r own k x) : RP r (rU r own (3 * k + 1)) (r.rw k) x.2.1 := h_.2.1
theorem RLev.p {r : RR} {own : Nat → Nat} {k : Nat} {x : RLv} (h_ : RLev r own k x) : ROp r own (3 * k + 2) (r.pt k) x.2.2 := h_.2.2
def RLevs (r : RR) (own : Nat → Nat) : List RLv → Prop
  | [] => True
  | x :: s => RLev r own s.length x ∧ RLevs r own s
abbrev RInv (r : RR) (own : Nat → Nat) (st : List RLv) : Prop := (r.k = st.length) ∧ (RLevs r own st) ∧ (∀ u, u < r.n → own u < 3 * st.length)
theorem RInv.k {r : RR} {own : Nat → Nat} {st : List RLv} (h_ : RInv r own st) : r.k = st.length := h_.1
theorem RInv.l {r : RR} {own : Nat → Nat} {st : List RLv} (h_ : RInv r own st) : RLevs r own st := h_.2.1
theorem RInv.b {r : RR} {own : Nat → Nat} {st : List RLv} (h_ : RInv r own st) : ∀ u, u < r.n → own u < 3 * st.length := h_.2.2
theorem ROp.frame {r r' : RR} {own own' : Nat → Nat} {V : Nat → Prop} {s : Nat} {p : Option Nat} {R : Option Rl} (h : ROp r own s p R) (hF : RFr r r' V) (hV : ∀ u, rU r own s u → V u) (hU : ∀ u, rU r own s u ↔ rU r' own' s u) : ROp r' own' s p R := by
  cases R with
  | none => exact ⟨h.1, fun u hu => h.2 u ((hU u).mpr hu)⟩
  | some R =>
    obtain ⟨q, e, hq⟩ := h
    exact ⟨q, e, hq.frame hF hV hU⟩
theorem RLev.frame {r r' : RR} {own own' : Nat → Nat} {V : Nat → Prop} {k : Nat} {x : RLv} (h : RLev r own k x) (hF : RFr r r' V) (hV : ∀ u, u < r.n → 3 * k ≤ own u → own u < 3 * k + 3 → V u) (hU : ∀ s, 3 * k ≤ s → s < 3 * k + 3 → ∀ u, rU r own s u ↔ rU r' own' s u)
    (h1 : r'.ch k = r.ch k) (h2 : r'.rw k = r.rw k) (h3 : r'.pt k = r.pt k) : RLev r' own' k x := by
  refine ⟨?_, ?_, ?_⟩
  · rw [h1]; exact h.c.frame hF (fun u hu => hV u hu.1 (by have := hu.2; omega) (by have := hu.2; omega)) (hU _ (by omega) (by omega))
  · rw [h2]; exact h.w.frame hF (fun u hu => hV u hu.1 (by have := hu.2; omega) (by have := hu.2; omega)) (hU _ (by omega) (by omega))
  · rw [h3]; exact h.p.frame hF (fun u hu => hV u hu.1 (by have := hu.2; omega) (by have := hu.2; omega)) (hU _ (by omega) (by omega))
theorem RLevs.frame {r r' : RR} {own own' : Nat → Nat} {V : Nat → Prop} (hF : RFr r r' V) : ∀ (st : List RLv), RLevs r own st → (∀ u, u < r.n → own u < 3 * st.length → V u) → (∀ s, s < 3 * st.length → ∀ u, rU r own s u ↔ rU r' own' s u) →
    (∀ k, k < st.length → r'.ch k = r.ch k ∧ r'.rw k = r.rw k ∧ r'.pt k = r.pt k) → RLevs r' own' st
  | [], _, _, _, _ => trivial
  | x :: s, h, hV, hU, hk => by
    have hl : (x :: s).length = s.length + 1 := rfl
    obtain ⟨a, b, c⟩ := hk s.length (by omega)
    exact ⟨h.1.frame hF (fun u hu _ h2 => hV u hu (by omega)) (fun t _ h2 => hU t (by omega)) a b c, RLevs.frame hF s h.2 (fun u hu h2 => hV u hu (by omega)) (fun t ht => hU t (by omega)) (fun k hk' => hk k (by omega))⟩
/-- the row with its latest part -/
def r_behind (r : RR) (p : Nat) (q : Option Nat) : RR × Nat := match q with
  | none => (r, p)
  | some q => (r_seq r p q, r.np)
theorem r_behind_ok {r : RR} {own : Nat → Nat} {k : Nat} {x : RLv} (h : RLev r own k x) {r' : RR} {p' : Nat} (he : r_behind r (r.rw k) (r.pt k) = (r', p')) :
    RP r' (fun u => rU r own (3 * k + 1) u ∨ rU r own (3 * k + 2) u) p' (rl_row x) ∧ RFr r r' (fun u => ¬ rU r own (3 * k + 1) u) ∧ r'.n = r.n ∧ r'.k = r.k ∧ r'.ch = r.ch ∧ r'.rw = r.rw ∧ r'.pt = r.pt := by
  obtain ⟨c, w, p⟩ := x
  cases p with
  | none =>
    obtain ⟨hp, hn⟩ := h.p
    rw [hp] at he
    cases he
    refine ⟨h.w.frame (V := fun _ => True) ⟨fun _ _ => ⟨rfl, rfl, rfl⟩, fun _ _ => ⟨rfl, rfl⟩, Nat.le_refl _, Nat.le_refl _⟩ (fun _ _ => trivial) (fun u => ⟨Or.inl, fun z => z.elim id (fun z => (hn u z).elim)⟩), ⟨fun _ _ => ⟨rfl, rfl, rfl⟩, fun _ _ => ⟨rfl, rfl⟩, Nat.le_refl _, Nat.le_refl _⟩, rfl, rfl, rfl, rfl, rfl⟩
  | some p =>
    obtain ⟨q, hq, hp⟩ := h.p
    rw [hq] at he
    cases he
    exact ⟨r_seq_rp h.w hp (fun u a b => by have := a.2; have := b.2; omega) (fun _ => Iff.rfl), r_seq_fr h.w, rfl, rfl, rfl, rfl, rfl⟩
/-- a piece that belongs to no level yet becomes the latest part -/
def r_newPart (r : RR) (p : Nat) : RR :=
  let z := r_behind r (r.rw (r.k - 1)) (r.pt (r.k - 1))
  (RR.mk (RR.n (z.1)) (RR.on (z.1)) (RR.tw (z.1)) (RR.lab (z.1)) (RR.np (z.1)) (RR.hd (z.1)) (RR.tl (z.1)) (RR.k (z.1)) (RR.ch (z.1)) (sU z.1.rw (r.k - 1) z.2) (sU z.1.pt (r.k - 1) (some p)))
theorem r_newPart_inv {r : RR} {own : Nat → Nat} {x : RLv} {s : List RLv} {p : Nat} {R : Rl} (hk : r.k = s.length + 1) (hl : RLevs r own (x :: s)) (hp : RP r (rU r own (3 * s.length + 3)) p R) (hb : ∀ u, u < r.n → own u < 3 * s.length + 4) :
    ∃ own', RInv (r_newPart r p) own' (st_single R (x :: s)) := by
  obtain ⟨r1, p1, hz⟩ : ∃ r1 p1, r_behind r (r.rw s.length) (r.pt s.length) = (r1, p1) := ⟨_, _, rfl⟩
  obtain ⟨hR, hF, en, ek, ec, ew, ep⟩ := r_behind_ok hl.1 hz
  have hr : r_newPart r p = (RR.mk r1.n r1.on r1.tw r1.lab r1.np r1.hd r1.tl r1.k r1.ch (sU r1.rw s.length p1) (sU r1.pt s.length (some p))) := by
    have e : r.k - 1 = s.length := by omega
    unfold r_newPart
    rw [e, hz]
  let own' : Nat → Nat := fun u => if own u = 3 * s.length + 2 then 3 * s.length + 1 else if own u = 3 * s.length + 3 then 3 * s.length + 2 else own u
  have hcu : ∀ t, t < 3 * s.length + 1 → ∀ u, rU r own t u ↔ rU (r_newPart r p) own' t u := by
    intro t ht u
    have e : (r_newPart r p).n = r.n := by rw [hr]; exact en
    simp only [rU, e, own']
    constructor
    · rintro ⟨a, b⟩; exact ⟨a, by rw [if_neg (by omega), if_neg (by omega)]; exact b⟩
    · rintro ⟨a, b⟩
      refine ⟨a, ?_⟩
      split at b
      · omega
      · split at b
        · omega
        · exact b
  have hrow : ∀ u, (rU r own (3 * s.length + 1) u ∨ rU r own (3 * s.length + 2) u) ↔ rU (r_newPart r p) own' (3 * s.length + 1) u := by
    intro u
    have e : (r_newPart r p).n = r.n := by rw [hr]; exact en
    simp only [rU, e, own']
    constructor
    · rintro (⟨a, b⟩ | ⟨a, b⟩)
      · exact ⟨a, by rw [if_neg (by omega), if_neg (by omega)]; exact b⟩
      · exact ⟨a, by rw [if_pos b]⟩
    · rintro ⟨a, b⟩
      split at b
      · rename_i q; exact Or.inr ⟨a, q⟩
      · split at b
        · omega
        · exact Or.inl ⟨a, b⟩
  have hpart : ∀ u, rU r own (3 * s.length + 3) u ↔ rU (r_newPart r p) own' (3 * s.length + 2) u := by
    intro u
    have e : (r_newPart r p).n = r.n := by rw [hr]; exact en
    simp only [rU, e, own']
    constructor
    · rintro ⟨a, b⟩; exact ⟨a, by rw [if_neg (by omega), if_pos b]⟩
    · rintro ⟨a, b⟩
      split at b
      · omega
      · split at b
        · rename_i q; exact ⟨a, q⟩
        · omega
  have hF2 : RFr r (r_newPart r p) (fun u => ¬ rU r own (3 * s.length + 1) u) := by
    rw [hr]; exact ⟨hF.nd, hF.pc, hF.n, hF.np⟩
  have hF3 : RFr r1 (r_newPart r p) (fun _ => True) := by
    rw [hr]; exact ⟨fun _ _ => ⟨rfl, rfl, rfl⟩, fun _ _ => ⟨rfl, rfl⟩, Nat.le_refl _, Nat.le_refl _⟩
  have e1 : (r_newPart r p).ch = r.ch := by rw [hr]; exact ec
  have e2 : (r_newPart r p).rw = sU r.rw s.length p1 := by rw [hr, ← ew]; rfl
  have e3 : (r_newPart r p).pt = sU r.pt s.length (some p) := by rw [hr, ← ep]; rfl
  refine ⟨own', ?_, ⟨⟨?_, ?_, ?_⟩, ?_⟩, ?_⟩
  · rw [hr]; show r1.k = s.length + 1; rw [ek]; exact hk
  · rw [e1]
    exact hl.1.c.frame hF2 (fun u hu z => by have := hu.2; have := z.2; omega) (hcu _ (by omega))
  · rw [e2, sU_self]
    exact hR.frame hF3 (fun _ _ => trivial) hrow
  · rw [e3, sU_self]
    exact ⟨p, rfl, hp.frame hF2 (fun u hu z => by have := hu.2; have := z.2; omega) hpart⟩
  · refine RLevs.frame hF2 s hl.2 (fun u _ h2 z => by have := z.2; omega) (fun t ht => hcu t (by omega)) (fun k hk' => ⟨by rw [e1], by rw [e2]; exact sU_ne _ _ (by omega), by rw [e3]; exact sU_ne _ _ (by omega)⟩)
  · intro u hu
    have e : (r_newPart r p).n = r.n := by rw [hr]; exact en
    have := hb u (by omega)
    show own' u < 3 * (s.length + 1)
    simp only [own']
    split
    · omega
    · split <;> omega
theorem r_single_inv {r : RR} {own : Nat → Nat} {st : List RLv} (h : RInv r own st) (hne : st ≠ []) (l : Rl) : ∃ own', RInv (r_newPart (r_single r l) r.np) own' (st_single l st) := by
  cases st with
  | nil => exact (hne rfl).elim
  | cons x s =>
    have hls : (x :: s).length = s.length + 1 := rfl
    have hF := r_single_fr r l
    have hn : (r_single r l).n = r.n + 2 := rfl
    let own1 : Nat → Nat := fun u => if r.n ≤ u then 3 * s.length + 3 else own u
    have hcu : ∀ t, t < 3 * (s.length + 1) → ∀ u, rU r own t u ↔ rU (r_single r l) own1 t u := by
      intro t ht u
      simp only [rU, hn, own1]
      constructor
      · rintro ⟨a, b⟩; exact ⟨by omega, by rw [if_neg (by omega)]; exact b⟩
      · rintro ⟨a, b⟩
        split at b
        · omega
        · exact ⟨by omega, b⟩
    refine r_newPart_inv (own := own1) (by show r.k = _; rw [h.k]; rfl) (RLevs.frame hF _ h.l (fun u hu _ => hu) hcu (fun k _ => ⟨rfl, rfl, rfl⟩)) ?_ ?_
    · refine (r_single_rp r l).frame (V := fun _ => True) ⟨fun _ _ => ⟨rfl, rfl, rfl⟩, fun _ _ => ⟨rfl, rfl⟩, Nat.le_refl _, Nat.le_refl _⟩ (fun _ _ => trivial) (fun u => ?_)
      simp only [rU, hn, own1]
      constructor
      · intro a; exact ⟨by omega, if_pos (by omega)⟩
      · rintro ⟨a, b⟩
        split at b
        · omega
        · have := h.b u (by omega); rw [hls] at this; omega
    · intro u hu
      rw [hn] at hu
      show own1 u < _
      simp only [own1]
      split
      · omega
      · have := h.b u (by omega); rw [hls] at this; omega
def r_open (r : RR) : RR := (RR.mk (RR.n (r_nothing r)) (RR.on (r_nothing r)) (RR.tw (r_nothing r)) (RR.lab (r_nothing r)) (RR.np (r_nothing r)) (RR.hd (r_nothing r)) (RR.tl (r_nothing r)) (r.k + 1) (sU r.ch r.k none) (sU r.rw r.k r.np) (sU r.pt r.k none))
theorem r_open_inv {r : RR} {own : Nat → Nat} {st : List RLv} (h : RInv r own st) : ∃ own', RInv (r_open r) own' (st_open st) := by
  have hk := h.k
  have hn : (r_open r).n = r.n + 1 := rfl
  have hF : RFr r (r_open r) (fun u => u < r.n) := ⟨(r_nothing_fr r).nd, (r_nothing_fr r).pc, (r_nothing_fr r).n, (r_nothing_fr r).np⟩
  let own' : Nat → Nat := fun u => if r.n ≤ u then 3 * st.length + 1 else own u
  have hcu : ∀ t, t < 3 * st.length → ∀ u, rU r own t u ↔ rU (r_open r) own' t u := by
    intro t ht u
    simp only [rU, hn, own']
    constructor
    · rintro ⟨a, b⟩; exact ⟨by omega, by rw [if_neg (by omega)]; exact b⟩
    · rintro ⟨a, b⟩
      split at b
      · omega
      · exact ⟨by omega, b⟩
  have hem : ∀ t, 3 * st.length ≤ t → t ≠ 3 * st.length + 1 → ∀ u, ¬ rU (r_open r) own' t u := by
    intro t h1 h2 u
    simp only [rU, hn, own']
    rintro ⟨a, b⟩
    split at b
    · omega
    · have := h.b u (by omega); omega
  refine ⟨own', show r.k + 1 = st.length + 1 by omega, ⟨⟨⟨?_, hem _ (by omega) (by omega)⟩, ?_, ⟨?_, hem _ (by omega) (by omega)⟩⟩, ?_⟩, ?_⟩
  · show sU _ _ _ _ = _; rw [hk, sU_self]
  · have e : (r_open r).rw st.length = r.np := by show sU _ _ _ _ = _; rw [hk, sU_self]
    rw [e]
    refine (r_nothing_rp r).frame (V := fun _ => True) ⟨fun _ _ => ⟨rfl, rfl, rfl⟩, fun _ _ => ⟨rfl, rfl⟩, Nat.le_refl _, Nat.le_refl _⟩ (fun _ _ => trivial) (fun u => ?_)
    simp only [rU, hn, own']
    constructor
    · intro a; exact ⟨by omega, if_pos (by omega)⟩
    · rintro ⟨a, b⟩
      split at b
      · omega
      · have := h.b u (by omega); omega
  · show sU _ _ _ _ = _; rw [hk, sU_self]
  · exact RLevs.frame hF st h.l (fun u hu _ => hu) hcu (fun k hk' => ⟨sU_ne _ _ (by omega), sU_ne _ _ (by omega), sU_ne _ _ (by omega)⟩)
  · intro u hu
    rw [hn] at hu
    show own' u < 3 * (st.length + 1)
    simp only [own']
    split
    · omega
    · have := h.b u (by omega); omega
/-- what is open at the top, as one piece -/
def r_end (r : RR) : RR × Nat :=
  let z := r_behind r (r.rw (r.k - 1)) (r.pt (r.k - 1))
  match r.ch (r.k - 1) with
  | none => z
  | some c => (r_alt z.1 c z.2, z.1.np)
theorem r_end_ok {r : RR} {own : Nat → Nat} {x : RLv} {s : List RLv} (h : RInv r own (x :: s)) {r' : RR} {p' : Nat} (he : r_end r = (r', p')) :
    RP r' (fun u => (u < r.n ∧ 3 * s.length ≤ own u) ∨ (r.n ≤ u ∧ u < r'.n)) p' (rl_all x) ∧ RFr r r' (fun u => u < r.n ∧ own u < 3 * s.length) ∧ r'.k = r.k ∧ r'.ch = r.ch ∧ r'.rw = r.rw ∧ r'.pt = r.pt := by
  have hk : r.k - 1 = s.length := by rw [h.k]; rfl
  obtain ⟨r1, p1, hz⟩ : ∃ r1 p1, r_behind r (r.rw s.length) (r.pt s.length) = (r1, p1) := ⟨_, _, rfl⟩
  obtain ⟨hR, hF, en, ek, ec, ew, ep⟩ := r_behind_ok h.l.1 hz
  have hb : ∀ u, u < r.n → own u < 3 * s.length + 3 := fun u hu => by have := h.b u hu; rw [show (x :: s).length = s.length + 1 from rfl] at this; omega
  unfold r_end at he
  rw [hk, hz] at he
  have hc := h.l.1.c
  obtain ⟨c, y⟩ := x
  cases c with
  | none =>
    obtain ⟨e1, e2⟩ := hc
    rw [e1] at he
    cases he
    refine ⟨?_, hF.sub (fun u hu z => by have := z.2; have := hu.2; omega), ek, ec, ew, ep⟩
    refine hR.frame (V := fun _ => True) ⟨fun _ _ => ⟨rfl, rfl, rfl⟩, fun _ _ => ⟨rfl, rfl⟩, Nat.le_refl _, Nat.le_refl _⟩ (fun _ _ => trivial) (fun u => ?_)
    constructor
    · rintro (⟨a, b⟩ | ⟨a, b⟩)
      · exact Or.inl ⟨a, by omega⟩
      · exact Or.inl ⟨a, by omega⟩
    · rintro (⟨a, b⟩ | ⟨a, b⟩)
      · have h1 := hb u a
        have h2 : own u ≠ 3 * s.length := fun e => e2 u ⟨a, e⟩
        by_cases e : own u = 3 * s.length + 1
        · exact Or.inl ⟨a, e⟩
        · exact Or.inr ⟨a, by omega⟩
      · rw [en] at b; omega
  | some c =>
    obtain ⟨q, e1, e2⟩ := hc
    rw [e1] at he
    cases he
    have hq : RP r1 (rU r own (3 * s.length)) q c := e2.frame hF (fun u a b => by have := a.2; have := b.2; omega) (fun _ => Iff.rfl)
    have hn' : (r_alt r1 q p1).n = r.n + 2 := by show r1.n + 2 = _; rw [en]
    refine ⟨?_, ?_, ek, ec, ew, ep⟩
    · refine r_alt_rp hq hR (fun u a b => by have := a.2; rcases b with b | b <;> (have := b.2; omega)) (fun u => ?_)
      rw [hn', en]
      constructor
      · rintro (⟨a, b⟩ | ⟨a, b⟩)
        · have h1 := hb u a
          by_cases e0 : own u = 3 * s.length
          · exact Or.inl ⟨a, e0⟩
          · by_cases e : own u = 3 * s.length + 1
            · exact Or.inr (Or.inl (Or.inl ⟨a, e⟩))
            · exact Or.inr (Or.inl (Or.inr ⟨a, by omega⟩))
        · exact Or.inr (Or.inr (by omega))
      · rintro (⟨a, b⟩ | (⟨a, b⟩ | ⟨a, b⟩) | e | e)
        · exact Or.inl ⟨a, by omega⟩
        · exact Or.inl ⟨a, by omega⟩
        · exact Or.inl ⟨a, by omega⟩
        · exact Or.inr (by omega)
        · exact Or.inr (by omega)
    · refine (hF.sub (fun u hu z => by have := z.2; have := hu.2; omega)).trans ((r_alt_fr hq hR).sub (fun u hu => ⟨by rw [en]; exact hu.1, fun z => by have := z.2; have := hu.2; omega, fun z => by have := hu.2; rcases z with z | z <;> (have := z.2; omega)⟩))
def r_bar (r : RR) : RR :=
  let z := r_end r
  let r1 : RR := (RR.mk (RR.n (z.1)) (RR.on (z.1)) (RR.tw (z.1)) (RR.lab (z.1)) (RR.np (z.1)) (RR.hd (z.1)) (RR.tl (z.1)) (RR.k (z.1)) (sU z.1.ch (r.k - 1) (some z.2)) (RR.rw (z.1)) (sU z.1.pt (r.k - 1) none))
  (RR.mk (RR.n (r_nothing r1)) (RR.on (r_nothing r1)) (RR.tw (r_nothing r1)) (RR.lab (r_nothing r1)) (RR.np (r_nothing r1)) (RR.hd (r_nothing r1)) (RR.tl (r_nothing r1)) (RR.k (r_nothing r1)) (RR.ch (r_nothing r1)) (sU r1.rw (r.k - 1) r1.np) (RR.pt (r_nothing r1)))
theorem r_bar_inv {r : RR} {own : Nat → Nat} {st : List RLv} (h : RInv r own st) (hne : st ≠ []) : ∃ own', RInv (r_bar r) own' (st_bar st) := by
  cases st with
  | nil => exact (hne rfl).elim
  | cons x s =>
    obtain ⟨r1, p1, hz⟩ : ∃ r1 p1, r_end r = (r1, p1) := ⟨_, _, rfl⟩
    obtain ⟨hR, hF, ek, ec, ew, ep⟩ := r_end_ok h hz
    have hk : r.k - 1 = s.length := by rw [h.k]; rfl
    let r2 : RR := (RR.mk r1.n r1.on r1.tw r1.lab r1.np r1.hd r1.tl r1.k (sU r1.ch s.length (some p1)) r1.rw (sU r1.pt s.length none))
    have hr : r_bar r = (RR.mk (RR.n (r_nothing r2)) (RR.on (r_nothing r2)) (RR.tw (r_nothing r2)) (RR.lab (r_nothing r2)) (RR.np (r_nothing r2)) (RR.hd (r_nothing r2)) (RR.tl (r_nothing r2)) (RR.k (r_nothing r2)) (RR.ch (r_nothing r2)) (sU r2.rw s.length r2.np) (RR.pt (r_nothing r2))) := by
      unfold r_bar
      rw [hk, hz]
    have hb : ∀ u, u < r.n → own u < 3 * s.length + 3 := fun u hu => by have := h.b u hu; rw [show (x :: s).length = s.length + 1 from rfl] at this; omega
    have hn1 := hF.n
    have hn : (r_bar r).n = r1.n + 1 := by rw [hr]; rfl
    have hF2 : RFr r2 (r_bar r) (fun u => u < r1.n) := by
      rw [hr]; exact ⟨(r_nothing_fr r2).nd, (r_nothing_fr r2).pc, (r_nothing_fr r2).n, (r_nothing_fr r2).np⟩
    have hF12 : RFr r1 (r_bar r) (fun u => u < r1.n) := ⟨hF2.nd, hF2.pc, hF2.n, hF2.np⟩
    let own' : Nat → Nat := fun u => if u < r.n then (if 3 * s.length ≤ own u then 3 * s.length else own u) else if u < r1.n then 3 * s.length else 3 * s.length + 1
    have hlow : ∀ t, t < 3 * s.length → ∀ u, rU r own t u ↔ rU (r_bar r) own' t u := by
      intro t ht u
      simp only [rU, hn, own']
      constructor
      · rintro ⟨a, b⟩; exact ⟨by omega, by rw [if_pos a, if_neg (by omega)]; exact b⟩
      · rintro ⟨a, b⟩
        split at b
        · split at b
          · omega
          · rename_i q _; exact ⟨q, b⟩
        · split at b <;> omega
    refine ⟨own', ?_, ⟨⟨?_, ?_, ?_⟩, ?_⟩, ?_⟩
    · rw [hr]; show r1.k = _; rw [ek]; exact h.k
    · refine ⟨p1, ?_, ?_⟩
      · rw [hr]; exact sU_self _ _ _
      · refine hR.frame hF12 (fun u hu => hR.un u hu) (fun u => ?_)
        simp only [rU, hn, own']
        constructor
        · rintro (⟨a, b⟩ | ⟨a, b⟩)
          · exact ⟨by omega, by rw [if_pos a, if_pos b]⟩
          · exact ⟨by omega, by rw [if_neg (by omega), if_pos b]⟩
        · rintro ⟨a, b⟩
          split at b
          · split at b
            · rename_i q1 q2; exact Or.inl ⟨q1, q2⟩
            · rename_i q1 q2; omega
          · split at b
            · exact Or.inr (by omega)
            · omega
    · have e : (r_bar r).rw s.length = r1.np := by rw [hr]; exact sU_self _ _ _
      rw [e]
      have hh := r_nothing_rp r2
      refine hh.frame (r' := r_bar r) (V := fun _ => True) (by rw [hr]; exact ⟨fun _ _ => ⟨rfl, rfl, rfl⟩, fun _ _ => ⟨rfl, rfl⟩, Nat.le_refl _, Nat.le_refl _⟩) (fun _ _ => trivial) (fun u => ?_)
      simp only [rU, hn, own']
      show u = r1.n ↔ _
      constructor
      · intro a; exact ⟨by omega, by rw [if_neg (by omega), if_neg (by omega)]⟩
      · rintro ⟨a, b⟩
        split at b
        · split at b <;> omega
        · split at b <;> omega
    · refine ⟨?_, fun u => ?_⟩
      · rw [hr]; exact sU_self _ _ _
      · simp only [rU, hn, own']
        rintro ⟨a, b⟩
        split at b
        · split at b <;> omega
        · split at b <;> omega
    · refine RLevs.frame (hF.trans (hF12.sub (fun u hu => by have := hu.1; omega))) s h.l.2 (fun u hu h2 => ⟨hu, h2⟩) hlow (fun k hk' => ?_)
      rw [hr]
      exact ⟨by show sU _ _ _ _ = _; rw [sU_ne _ _ (by omega), ec], by show sU _ _ _ _ = _; rw [sU_ne _ _ (by omega)]; show r1.rw k = _; rw [ew], by show sU _ _ _ _ = _; rw [sU_ne _ _ (by omega), ep]⟩
    · intro u hu
      rw [hn] at hu
      show own' u < 3 * (s.length + 1)
      simp only [own']
      split
      · rename_i q; have := hb u q; split <;> omega
      · split <;> omega
def r_close (r : RR) : RR :=
  let z := r_end r
  r_newPart (RR.mk (RR.n (z.1)) (RR.on (z.1)) (RR.tw (z.1)) (RR.lab (z.1)) (RR.np (z.1)) (RR.hd (z.1)) (RR.tl (z.1)) (r.k - 1) (sU z.1.ch (r.k - 1) (some z.2)) (RR.rw (z.1)) (sU z.1.pt (r.k - 1) none)) z.2
theorem r_close_inv {r : RR} {own : Nat → Nat} {x y : RLv} {s : List RLv} (h : RInv r own (x :: y :: s)) : ∃ own', RInv (r_close r) own' (st_close (x :: y :: s)) := by
  obtain ⟨r1, p1, hz⟩ : ∃ r1 p1, r_end r = (r1, p1) := ⟨_, _, rfl⟩
  obtain ⟨hR, hF, ek, ec, ew, ep⟩ := r_end_ok h hz
  have hls : (y :: s).length = s.length + 1 := rfl
  have hk : r.k - 1 = s.length + 1 := by rw [h.k]; rfl
  let r2 : RR := (RR.mk r1.n r1.on r1.tw r1.lab r1.np r1.hd r1.tl (s.length + 1) (sU r1.ch (s.length + 1) (some p1)) r1.rw (sU r1.pt (s.length + 1) none))
  have hr : r_close r = r_newPart r2 p1 := by
    unfold r_close
    rw [hk, hz]
  rw [hr]
  have hb : ∀ u, u < r.n → own u < 3 * s.length + 6 := fun u hu => by have := h.b u hu; rw [show (x :: y :: s).length = s.length + 2 from rfl] at this; omega
  have hn1 := hF.n
  have hF2 : RFr r r2 (fun u => u < r.n ∧ own u < 3 * (y :: s).length) := ⟨hF.nd, hF.pc, hF.n, hF.np⟩
  let own1 : Nat → Nat := fun u => if u < r.n then (if 3 * (s.length + 1) ≤ own u then 3 * s.length + 3 else own u) else 3 * s.length + 3
  have hn : r2.n = r1.n := rfl
  refine r_newPart_inv (own := own1) rfl ?_ ?_ ?_
  · refine RLevs.frame hF2 (y :: s) h.l.2 (fun u hu h2 => ⟨hu, h2⟩) (fun t ht u => ?_) (fun k hk' => ?_)
    · rw [hls] at ht
      simp only [rU, hn, own1]
      constructor
      · rintro ⟨a, b⟩; exact ⟨by omega, by rw [if_pos a, if_neg (by omega)]; exact b⟩
      · rintro ⟨a, b⟩
        split at b
        · split at b
          · omega
          · rename_i q _; exact ⟨q, b⟩
        · omega
    · rw [hls] at hk'
      exact ⟨by show sU _ _ _ _ = _; rw [sU_ne _ _ (by omega), ec], by show r1.rw k = _; rw [ew], by show sU _ _ _ _ = _; rw [sU_ne _ _ (by omega), ep]⟩
  · refine hR.frame (r' := r2) (V := fun _ => True) ⟨fun _ _ => ⟨rfl, rfl, rfl⟩, fun _ _ => ⟨rfl, rfl⟩, Nat.le_refl _, Nat.le_refl _⟩ (fun _ _ => trivial) (fun u => ?_)
    rw [hls]
    simp only [rU, hn, own1]
    constructor
    · rintro (⟨a, b⟩ | ⟨a, b⟩)
      · exact ⟨by omega, by rw [if_pos a, if_pos b]⟩
      · exact ⟨by omega, by rw [if_neg (by omega)]⟩
    · rintro ⟨a, b⟩
      by_cases q : u < r.n
      · rw [if_pos q] at b
        split at b
        · rename_i q2; exact Or.inl ⟨q, q2⟩
        · omega
      · exact Or.inr (by omega)
  · intro u hu
    show own1 u < _
    simp only [own1]
    split
    · split <;> omega
    · omega
def r_rep (r : RR) (p : Nat) (leave again : Bool) : RR := (RR.mk (RR.n (r_times r p leave again)) (RR.on (r_times r p leave again)) (RR.tw (r_times r p leave again)) (RR.lab (r_times r p leave again)) (RR.np (r_times r p leave again)) (RR.hd (r_times r p leave again)) (RR.tl (r_times r p leave again)) (RR.k (r_times r p leave again)) (RR.ch (r_times r p leave again)) (RR.rw (r_times r p leave again)) (sU r.pt (r.k - 1) (some r.np)))
theorem r_rep_inv {r : RR} {own : Nat → Nat} {c : Option Rl} {q pr : Rl} {s : List RLv} (h : RInv r own ((c, q, some pr) :: s)) {p : Nat} (hp : r.pt s.length = some p) (leave again : Bool) :
    ∃ own', RInv (r_rep r p leave again) own' (st_times leave again ((c, q, some pr) :: s)) := by
  obtain ⟨p0, e0, hP⟩ := h.l.1.p
  have hpp : p0 = p := by rw [hp] at e0; exact (Option.some.inj e0).symm
  subst hpp
  have hk : r.k - 1 = s.length := by rw [h.k]; rfl
  have hn : (r_rep r p0 leave again).n = r.n + 2 := rfl
  have hF0 := r_times_fr hP leave again
  have hF : RFr r (r_rep r p0 leave again) (fun u => u < r.n ∧ ¬ rU r own (3 * s.length + 2) u) := ⟨hF0.nd, hF0.pc, hF0.n, hF0.np⟩
  have hb : ∀ u, u < r.n → own u < 3 * s.length + 3 := fun u hu => by have := h.b u hu; rw [show ((c, q, some pr) :: s).length = s.length + 1 from rfl] at this; omega
  let own' : Nat → Nat := fun u => if r.n ≤ u then 3 * s.length + 2 else own u
  have hcu : ∀ t, t ≠ 3 * s.length + 2 → ∀ u, rU r own t u ↔ rU (r_rep r p0 leave again) own' t u := by
    intro t ht u
    simp only [rU, hn, own']
    constructor
    · rintro ⟨a, b⟩; exact ⟨by omega, by rw [if_neg (by omega)]; exact b⟩
    · rintro ⟨a, b⟩
      split at b
      · omega
      · exact ⟨by omega, b⟩
  refine ⟨own', h.k, ⟨⟨?_, ?_, ?_⟩, ?_⟩, ?_⟩
  · exact h.l.1.c.frame hF (fun u hu => ⟨hu.1, fun z => by have := hu.2; have := z.2; omega⟩) (hcu _ (by omega))
  · exact h.l.1.w.frame hF (fun u hu => ⟨hu.1, fun z => by have := hu.2; have := z.2; omega⟩) (hcu _ (by omega))
  · refine ⟨r.np, ?_, ?_⟩
    · show sU _ _ _ _ = _; rw [hk, sU_self]
    · have hh := r_times_rp (U := rU (r_rep r p0 leave again) own' (3 * s.length + 2)) hP leave again (fun u => ?_)
      · exact hh.frame (r' := r_rep r p0 leave again) (V := fun _ => True) ⟨fun _ _ => ⟨rfl, rfl, rfl⟩, fun _ _ => ⟨rfl, rfl⟩, Nat.le_refl _, Nat.le_refl _⟩ (fun _ _ => trivial) (fun _ => Iff.rfl)
      · simp only [rU, hn, own']
        constructor
        · rintro ⟨a, b⟩
          split at b
          · exact Or.inr (by omega)
          · exact Or.inl ⟨by omega, b⟩
        · rintro (⟨a, b⟩ | e)
          · exact ⟨by omega, by rw [if_neg (by omega)]; exact b⟩
          · exact ⟨by omega, if_pos (by omega)⟩
  · exact RLevs.frame hF s h.l.2 (fun u hu h2 => ⟨hu, fun z => by have := z.2; omega⟩) (fun t ht => hcu t (by omega)) (fun k hk' => ⟨rfl, rfl, by show sU _ _ _ _ = _; rw [sU_ne _ _ (by omega)]⟩)
  · intro u hu
    rw [hn] at hu
    show own' u < 3 * (s.length + 1)
    simp only [own']
    split
    · omega
    · have := hb u (by omega); omega
theorem r_fin_inv {r : RR} {own : Nat → Nat} {x : RLv} (h : RInv r own [x]) {r' : RR} {p' : Nat} (he : r_end r = (r', p')) : RP r' (fun u => u < r'.n) p' (rl_all x) := by
  obtain ⟨hR, hF, _⟩ := r_end_ok h he
  refine hR.frame (r' := r') (V := fun _ => True) ⟨fun _ _ => ⟨rfl, rfl, rfl⟩, fun _ _ => ⟨rfl, rfl⟩, Nat.le_refl _, Nat.le_refl _⟩ (fun _ _ => trivial) (fun u => ?_)
  have := hF.n
  constructor
  · rintro (⟨a, _⟩ | ⟨_, b⟩)
    · omega
    · exact b
  · intro a
    by_cases e : u < r.n
    · exact Or.inl ⟨e, by show 3 * 0 ≤ _; omega⟩
    · exact Or.inr ⟨by omega, a⟩
theorem r_start_inv {r : RR} (hn : r.n = 0) (hk : r.k = 0) : ∃ own, RInv r own [] := ⟨fun _ => 0, hk, trivial, fun u hu => by omega⟩

/-- the class's reader, as nodes with ways, and what is open by depth -/
abbrev CR : Type := (Nat) × (Nat → Option Nat) × (Nat → Option Nat) × (Nat → Rl) × (Nat → Nat) × (Nat → Nat) × (Nat → Nat) × (Nat → Nat) × (Nat) × (Nat) × (Option Nat) × (Nat)
def CR.n (r_ : CR) : Nat := r_.1
def CR.nx (r_ : CR) : Nat → Option Nat := r_.2.1
def CR.ot (r_ : CR) : Nat → Option Nat := r_.2.2.1
def CR.lab (r_ : CR) : Nat → Rl := r_.2.2.2.1
def CR.cs (r_ : CR) : Nat → Nat := r_.2.2.2.2.1
def CR.ce (r_ : CR) : Nat → Nat := r_.2.2.2.2.2.1
def CR.rh (r_ : CR) : Nat → Nat := r_.2.2.2.2.2.2.1
def CR.ou (r_ : CR) : Nat → Nat := r_.2.2.2.2.2.2.2.1
def CR.d (r_ : CR) : Nat := r_.2.2.2.2.2.2.2.2.1
def CR.lead (r_ : CR) : Nat := r_.2.2.2.2.2.2.2.2.2.1
def CR.first (r_ : CR) : Option Nat := r_.2.2.2.2.2.2.2.2.2.2.1
def CR.tail (r_ : CR) : Nat := r_.2.2.2.2.2.2.2.2.2.2.2
abbrev CR.mk (n_ : Nat) (nx_ : Nat → Option Nat) (ot_ : Nat → Option Nat) (lab_ : Nat → Rl) (cs_ : Nat → Nat) (ce_ : Nat → Nat) (rh_ : Nat → Nat) (ou_ : Nat → Nat) (d_ : Nat) (lead_ : Nat) (first_ : Option Nat) (tail_ : Nat) : CR := (n_, nx_, ot_, lab_, cs_, ce_, rh_, ou_, d_, lead_, first_, tail_)
def sU {α : Type} (f : Nat → α) (k : Nat) (v : α) : Nat → α := fun j => if j = k then v else f j
theorem sU_self {α : Type} (f : Nat → α) (k : Nat) (v : α) : sU f k v k = v := by simp [sU]
theorem sU_ne {α : Type} (f : Nat → α) {k j : Nat} (v : α) (h : j ≠ k) : sU f k v j = f j := by simp [sU, h]
/-- ways inside a fragment: its tail's first way is not counted -/
def cE (nx ot : Nat → Option Nat) (t u v : Nat) : Prop := (u ≠ t ∧ nx u = some v) ∨ ot u = some v
def cF (nx ot : Nat → Option Nat) (u v : Nat) : Prop := nx u = some v ∨ ot u = some v
abbrev RLv : Type := Option Rl × Rl × Option Rl
def rl_o (x : Option Rl) : Rl := x.getD rl_no
/-- the row with its latest part -/
def rl_row (x : RLv) : Rl := match x.2.2 with
  | none => x.2.1
  | some p => rl_seq x.2.1 p
def st_single (l : Rl) : List RLv → List RLv
  | [] => []
  | x :: s => (x.1, rl_row x, some l) :: s
def st_times (leave again : Bool) : List RLv → List RLv
  | (c, r, some p) :: s => (c, r, some (rl_times leave again p)) :: s
  | s => s
def st_open (s : List RLv) : List RLv := (none, rl_id, none) :: s
def rl_all (x : RLv) : Rl := match x.1 with
  | none => rl_row x
  | some c => rl_or c (rl_row x)
def st_bar : List RLv → List RLv
  | [] => []
  | x :: s => (some (rl_all x), rl_id, none) :: s
def st_close : List RLv → List RLv
  | x :: s => st_single (rl_all x) s
  | [] => []
theorem rl_no_or (a : Rl) : rl_or rl_no a = a := by
  funext i j; apply propext; constructor
  · rintro (h | h)
    · exact h.elim
    · exact h
  · intro h; exact Or.inr h
theorem rl_all_eq (x : RLv) : rl_all x = rl_or (rl_o x.1) (rl_row x) := by
  obtain ⟨c, y⟩ := x
  cases c with
  | none => exact (rl_no_or _).symm
  | some c => rfl
def cU (r : CR) (own : Nat → Nat) (s : Nat) (u : Nat) : Prop := u < r.n ∧ own u = s
abbrev CLev (r : CR) (own : Nat → Nat) (d : Nat) (Rc : Rl) : Prop := (Ch (cF r.nx r.ot) r.lab (cU r own (4 * d)) (r.cs d) (r.rh d) (r.ce d) Rc) ∧ (cU r own (4 * d + 1) (r.rh d)) ∧ (r.lab (r.rh d) = rl_id) ∧ (r.ot (r.rh d) = none) ∧ (∀ u, cU r own (4 * d + 3) u ↔ u = r.ce d) ∧ (r.lab (r.ce d) = rl_id) ∧ (r.ot (r.ce d) = none) ∧ (r.nx (r.ce d) = none)
theorem CLev.ch {r : CR} {own : Nat → Nat} {d : Nat} {Rc : Rl} (h_ : CLev r own d Rc) : Ch (cF r.nx r.ot) r.lab (cU r own (4 * d)) (r.cs d) (r.rh d) (r.ce d) Rc := h_.1
theorem CLev.rhU {r : CR} {own : Nat → Nat} {d : Nat} {Rc : Rl} (h_ : CLev r own d Rc) : cU r own (4 * d + 1) (r.rh d) := h_.2.1
theorem CLev.rhl {r : CR} {own : Nat → Nat} {d : Nat} {Rc : Rl} (h_ : CLev r own d Rc) : r.lab (r.rh d) = rl_id := h_.2.2.1
theorem CLev.rho {r : CR} {own : Nat → Nat} {d : Nat} {Rc : Rl} (h_ : CLev r own d Rc) : r.ot (r.rh d) = none := h_.2.2.2.1
theorem CLev.ceU {r : CR} {own : Nat → Nat} {d : Nat} {Rc : Rl} (h_ : CLev r own d Rc) : ∀ u, cU r own (4 * d + 3) u ↔ u = r.ce d := h_.2.2.2.2.1
theorem CLev.cel {r : CR} {own : Nat → Nat} {d : Nat} {Rc : Rl} (h_ : CLev r own d Rc) : r.lab (r.ce d) = rl_id := h_.2.2.2.2.2.1
theorem CLev.ceo {r : CR} {own : Nat → Nat} {d : Nat} {Rc : Rl} (h_ : CLev r own d Rc) : r.ot (r.ce d) = none := h_.2.2.2.2.2.2.1
theorem CLev.cen {r : CR} {own : Nat → Nat} {d : Nat} {Rc : Rl} (h_ : CLev r own d Rc) : r.nx (r.ce d) = none := h_.2.2.2.2.2.2.2
abbrev CRow (r : CR) (own : Nat → Nat) (s h t : Nat) (R : Rl) : Prop := (Fr (cE r.nx r.ot t) r.lab (cU r own s) h t R) ∧ (∀ u v, cU r own s u → cE r.nx r.ot t u v → v ≠ h)
theorem CRow.fr {r : CR} {own : Nat → Nat} {s h t : Nat} {R : Rl} (h_ : CRow r own s h t R) : Fr (cE r.nx r.ot t) r.lab (cU r own s) h t R := h_.1
theorem CRow.no {r : CR} {own : Nat → Nat} {s h t : Nat} {R : Rl} (h_ : CRow r own s h t R) : ∀ u v, cU r own s u → cE r.nx r.ot t u v → v ≠ h := h_.2
/-- the levels round the open one -/
def COut (r : CR) (own : Nat → Nat) : List RLv → Prop
  | [] => True
  | x :: s => (CLev r own s.length (rl_o x.1) ∧ CRow r own (4 * s.length + 1) (r.rh s.length) (r.ou (s.length + 1)) (rl_row x) ∧ ∀ u, ¬ cU r own (4 * s.length + 2) u) ∧ COut r own s
abbrev CTop (r : CR) (own : Nat → Nat) (d : Nat) (x : RLv) : Prop := (CLev r own d (rl_o x.1)) ∧ (x.2.2 = none → r.first = none ∧ CRow r own (4 * d + 1) (r.rh d) r.tail x.2.1 ∧ ∀ u, ¬ cU r own (4 * d + 2) u) ∧ (∀ p, x.2.2 = some p → ∃ f, r.first = some f ∧ CRow r own (4 * d + 1) (r.rh d) r.lead x.2.1 ∧ Fr (cE r.nx r.ot r.tail) r.lab (cU r own (4 * d + 2)) f r.tail p ∧ r.nx r.lead = some f)
theorem CTop.lev {r : CR} {own : Nat → Nat} {d : Nat} {x : RLv} (h_ : CTop r own d x) : CLev r own d (rl_o x.1) := h_.1
theorem CTop.pn {r : CR} {own : Nat → Nat} {d : Nat} {x : RLv} (h_ : CTop r own d x) : x.2.2 = none → r.first = none ∧ CRow r own (4 * d + 1) (r.rh d) r.tail x.2.1 ∧ ∀ u, ¬ cU r own (4 * d + 2) u := h_.2.1
theorem CTop.ps {r : CR} {own : Nat → Nat} {d : Nat} {x : RLv} (h_ : CTop r own d x) : ∀ p, x.2.2 = some p → ∃ f, r.first = some f ∧ CRow r own (4 * d + 1) (r.rh d) r.lead x.2.1 ∧ Fr (cE r.nx r.ot r.tail) r.lab (cU r own (4 * d + 2)) f r.tail p ∧ r.nx r.lead = some f := h_.2.2
def CInv (r : CR) (own : Nat → Nat) : List RLv → Prop
  | [] => False
  | x :: s => r.d = s.length ∧ CTop r own s.length x ∧ COut r own s ∧ ∀ u, u < r.n → own u < 4 * s.length + 4
/-- what is open at one level with its latest part -/
theorem CTop.merge {r : CR} {own : Nat → Nat} {d : Nat} {x : RLv} (T : CTop r own d x) :
    Fr (cE r.nx r.ot r.tail) r.lab (fun u => cU r own (4 * d + 1) u ∨ cU r own (4 * d + 2) u) (r.rh d) r.tail (rl_row x) ∧ ∀ u v, (cU r own (4 * d + 1) u ∨ cU r own (4 * d + 2) u) → cE r.nx r.ot r.tail u v → v ≠ r.rh d := by
  obtain ⟨c, q, p⟩ := x
  cases p with
  | none =>
    obtain ⟨_, h, hn⟩ := T.pn rfl
    refine ⟨h.fr.congr (fun u => ⟨Or.inl, fun z => z.elim id (fun z => (hn u z).elim)⟩) (fun _ _ _ => Iff.rfl) (fun _ _ => rfl), fun u v hu he => ?_⟩
    rcases hu with hu | hu
    · exact h.no u v hu he
    · exact (hn u hu).elim
  | some p =>
    obtain ⟨f, _, h, hp, hx⟩ := T.ps p rfl
    have hd : ∀ u, cU r own (4 * d + 1) u → ¬ cU r own (4 * d + 2) u := fun u a b => by have := a.2; have := b.2; omega
    have hlt : r.lead ≠ r.tail := fun e => hd _ h.fr.tU (e ▸ hp.tU)
    have he1 : ∀ u v, cU r own (4 * d + 1) u → (cE r.nx r.ot r.tail u v ↔ cE r.nx r.ot r.lead u v ∨ (u = r.lead ∧ v = f)) := by
      intro u v hu
      have hut : u ≠ r.tail := fun e => hd _ hu (e ▸ hp.tU)
      constructor
      · rintro (⟨_, q⟩ | q)
        · by_cases e : u = r.lead
          · rw [e, hx] at q; cases q; exact Or.inr ⟨e, rfl⟩
          · exact Or.inl (Or.inl ⟨e, q⟩)
        · exact Or.inl (Or.inr q)
      · rintro ((⟨_, q⟩ | q) | ⟨e, q⟩)
        · exact Or.inl ⟨hut, q⟩
        · exact Or.inr q
        · rw [e, q]; exact Or.inl ⟨hlt, hx⟩
    refine ⟨Fr.seq h.fr hp hd (fun _ => Iff.rfl) he1 (fun _ _ _ => Iff.rfl), fun u v hu he => ?_⟩
    rcases hu with hu | hu
    · rcases (he1 u v hu).mp he with q | ⟨_, q⟩
      · exact h.no u v hu q
      · intro e; exact hd _ h.fr.hU (e ▸ q ▸ hp.hU)
    · intro e; exact hd _ h.fr.hU (e ▸ hp.cl u v hu he)
/-- nothing below a tag has changed -/
abbrev CSame (r r' : CR) (own own' : Nat → Nat) (b : Nat) : Prop := (∀ u, u < r.n → own u < b → u < r'.n ∧ own' u = own u ∧ r'.nx u = r.nx u ∧ r'.ot u = r.ot u ∧ r'.lab u = r.lab u) ∧ (∀ u, u < r'.n → own' u < b → u < r.n ∧ own u < b)
theorem CSame.up {r r' : CR} {own own' : Nat → Nat} {b : Nat} (h_ : CSame r r' own own' b) : ∀ u, u < r.n → own u < b → u < r'.n ∧ own' u = own u ∧ r'.nx u = r.nx u ∧ r'.ot u = r.ot u ∧ r'.lab u = r.lab u := h_.1
theorem CSame.dn {r r' : CR} {own own' : Nat → Nat} {b : Nat} (h_ : CSame r r' own own' b) : ∀ u, u < r'.n → own' u < b → u < r.n ∧ own u < b := h_.2
theorem CSame.cu {r r' : CR} {own own' : Nat → Nat} {b : Nat} (S : CSame r r' own own' b) {s : Nat} (hs : s < b) (u : Nat) : cU r own s u ↔ cU r' own' s u := by
  constructor
  · rintro ⟨h, e⟩
    obtain ⟨h1, h2, _⟩ := S.up u h (by omega)
    exact ⟨h1, by omega⟩
  · rintro ⟨h, e⟩
    obtain ⟨h1, h2⟩ := S.dn u h (by omega)
    obtain ⟨h3, h4, _⟩ := S.up u h1 h2
    exact ⟨h1, by omega⟩
theorem CSame.of {r r' : CR} {own own' : Nat → Nat} {b : Nat} (S : CSame r r' own own' b) {s : Nat} (hs : s < b) {u : Nat} (h : cU r own s u) : r'.nx u = r.nx u ∧ r'.ot u = r.ot u ∧ r'.lab u = r.lab u := (S.up u h.1 (by have := h.2; omega)).2.2
theorem CLev.same {r r' : CR} {own own' : Nat → Nat} {b d : Nat} {Rc : Rl} (h : CLev r own d Rc) (S : CSame r r' own own' b) (hb : 4 * d + 3 < b) (h1 : r'.cs d = r.cs d) (h2 : r'.ce d = r.ce d) (h3 : r'.rh d = r.rh d) : CLev r' own' d Rc := by
  have hc := (h.ceU (r.ce d)).mpr rfl
  refine ⟨?_, ?_, ?_, ?_, ?_, ?_, ?_, ?_⟩
  · rw [h1, h2, h3]
    exact h.ch.congr (S.cu (by omega)) (fun u v hu => by obtain ⟨a, b, _⟩ := S.of (by omega) hu; simp only [cF, a, b]) (fun u hu => (S.of (by omega) hu).2.2.symm)
  · rw [h3]; exact (S.cu (by omega) _).mp h.rhU
  · rw [h3, (S.of (by omega) h.rhU).2.2]; exact h.rhl
  · rw [h3, (S.of (by omega) h.rhU).2.1]; exact h.rho
  · intro u; rw [h2, ← S.cu (by omega) u]; exact h.ceU u
  · rw [h2, (S.of (by omega) hc).2.2]; exact h.cel
  · rw [h2, (S.of (by omega) hc).2.1]; exact h.ceo
  · rw [h2, (S.of (by omega) hc).1]; exact h.cen
theorem CRow.same {r r' : CR} {own own' : Nat → Nat} {b s h t : Nat} {R : Rl} (F : CRow r own s h t R) (S : CSame r r' own own' b) (hb : s < b) : CRow r' own' s h t R := by
  have he : ∀ u v, cU r own s u → (cE r.nx r.ot t u v ↔ cE r'.nx r'.ot t u v) := fun u v hu => by obtain ⟨a, b, _⟩ := S.of hb hu; simp only [cE, a, b]
  exact ⟨F.fr.congr (S.cu hb) he (fun u hu => (S.of hb hu).2.2.symm), fun u v hu hh => F.no u v ((S.cu hb u).mpr hu) ((he u v ((S.cu hb u).mpr hu)).mpr hh)⟩
theorem COut.same {r r' : CR} {own own' : Nat → Nat} {b : Nat} (S : CSame r r' own own' b) : ∀ (s : List RLv), COut r own s → 4 * s.length ≤ b → (∀ k, k < s.length → r'.cs k = r.cs k ∧ r'.ce k = r.ce k ∧ r'.rh k = r.rh k ∧ r'.ou (k + 1) = r.ou (k + 1)) → COut r' own' s
  | [], _, _, _ => trivial
  | x :: s, h, hb, ho => by
    have hl : (x :: s).length = s.length + 1 := rfl
    obtain ⟨h1, h2, h3, h4⟩ := ho s.length (by omega)
    refine ⟨⟨h.1.1.same S (by omega) h1 h2 h3, ?_, ?_⟩, COut.same S s h.2 (by omega) (fun k hk => ho k (by omega))⟩
    · rw [h3, h4]; exact h.1.2.1.same S (by omega)
    · intro u hu; exact h.1.2.2 u ((S.cu (by omega) u).mpr hu)
theorem CLev.upd {r r' : CR} {own own' : Nat → Nat} {d : Nat} {Rc : Rl} (h : CLev r own d Rc) (hcs : r'.cs d = r.cs d) (hce : r'.ce d = r.ce d) (hrh : r'.rh d = r.rh d)
    (hU : ∀ u, cU r own (4 * d) u ↔ cU r' own' (4 * d) u) (hC : ∀ u, cU r own (4 * d + 3) u ↔ cU r' own' (4 * d + 3) u) (hr : cU r' own' (4 * d + 1) (r.rh d))
    (hl : ∀ u, u < r.n → r'.lab u = r.lab u) (ho : ∀ u, u < r.n → r'.ot u = r.ot u) (hx : ∀ u, cU r own (4 * d) u ∨ cU r own (4 * d + 3) u → r'.nx u = r.nx u) : CLev r' own' d Rc := by
  have hc := (h.ceU (r.ce d)).mpr rfl
  refine ⟨?_, ?_, ?_, ?_, ?_, ?_, ?_, ?_⟩
  · rw [hcs, hce, hrh]
    exact h.ch.congr hU (fun u v hu => by simp only [cF, hx u (Or.inl hu), ho u hu.1]) (fun u hu => (hl u hu.1).symm)
  · rw [hrh]; exact hr
  · rw [hrh, hl _ h.rhU.1]; exact h.rhl
  · rw [hrh, ho _ h.rhU.1]; exact h.rho
  · intro u; rw [hce, ← hC u]; exact h.ceU u
  · rw [hce, hl _ hc.1]; exact h.cel
  · rw [hce, ho _ hc.1]; exact h.ceo
  · rw [hce, hx _ (Or.inr hc)]; exact h.cen
/-- a tail lies in the open level -/
theorem CTop.tailU {r : CR} {own : Nat → Nat} {d : Nat} {x : RLv} (T : CTop r own d x) : r.tail < r.n ∧ (own r.tail = 4 * d + 1 ∨ own r.tail = 4 * d + 2) := by
  rcases T.merge.1.tU with h | h
  · exact ⟨h.1, Or.inl h.2⟩
  · exact ⟨h.1, Or.inr h.2⟩
def c_single (r : CR) (l : Rl) : CR := (CR.mk (r.n + 1) (sU (sU r.nx r.n none) r.tail (some r.n)) (sU r.ot r.n none) (sU r.lab r.n l) r.cs r.ce r.rh r.ou r.d (r.tail) (some r.n) (r.n))
theorem c_single_inv {r : CR} {own : Nat → Nat} {st : List RLv} (h : CInv r own st) (l : Rl) : ∃ own', CInv (c_single r l) own' (st_single l st) := by
  cases st with
  | nil => exact h.elim
  | cons x s =>
    obtain ⟨hd, T, O, hB⟩ := h
    obtain ⟨M, hno⟩ := T.merge
    obtain ⟨htn, hto⟩ := T.tailU
    let d := s.length
    let own' : Nat → Nat := fun u => if u = r.n then 4 * s.length + 2 else if own u = 4 * s.length + 2 then 4 * s.length + 1 else own u
    have ho : ∀ u, u < r.n → own' u = if own u = 4 * s.length + 2 then 4 * s.length + 1 else own u := fun u hu => by simp only [own']; rw [if_neg (by omega)]
    have hon : own' r.n = 4 * s.length + 2 := by simp only [own', if_true]
    have hlab : ∀ u, u < r.n → (c_single r l).lab u = r.lab u := fun u hu => sU_ne _ _ (by omega)
    have hot : ∀ u, u < r.n → (c_single r l).ot u = r.ot u := fun u hu => sU_ne _ _ (by omega)
    have hnx : ∀ u, u < r.n → u ≠ r.tail → (c_single r l).nx u = r.nx u := fun u hu hne => by
      show sU _ _ _ u = _
      rw [sU_ne _ _ hne, sU_ne _ _ (by omega)]
    have hn : (c_single r l).n = r.n + 1 := rfl
    have hcu : ∀ k, k ≠ 4 * s.length + 1 → k ≠ 4 * s.length + 2 → ∀ u, cU r own k u ↔ cU (c_single r l) own' k u := by
      intro k h1 h2 u
      constructor
      · rintro ⟨a, b⟩
        refine ⟨by rw [hn]; omega, ?_⟩
        rw [ho u a, if_neg (by omega)]; exact b
      · rintro ⟨a, b⟩
        rw [hn] at a
        by_cases e : u = r.n
        · rw [e, hon] at b; omega
        · have a' : u < r.n := by omega
          rw [ho u a'] at b
          by_cases q : own u = 4 * s.length + 2
          · rw [if_pos q] at b; omega
          · rw [if_neg q] at b; exact ⟨a', b⟩
    have hS : CSame r (c_single r l) own own' (4 * s.length) := by
      refine ⟨fun u hu hb => ⟨by rw [hn]; omega, by rw [ho u hu, if_neg (by omega)], hnx u hu (fun e => by rw [e] at hb; omega), hot u hu, hlab u hu⟩, fun u hu hb => ?_⟩
      rw [hn] at hu
      by_cases e : u = r.n
      · rw [e, hon] at hb; omega
      · have a' : u < r.n := by omega
        rw [ho u a'] at hb
        by_cases q : own u = 4 * s.length + 2
        · rw [if_pos q] at hb; omega
        · rw [if_neg q] at hb; exact ⟨a', hb⟩
    have hrow : ∀ u, (cU r own (4 * s.length + 1) u ∨ cU r own (4 * s.length + 2) u) ↔ cU (c_single r l) own' (4 * s.length + 1) u := by
      intro u
      constructor
      · rintro (⟨a, b⟩ | ⟨a, b⟩)
        · exact ⟨by rw [hn]; omega, by rw [ho u a, if_neg (by omega)]; exact b⟩
        · exact ⟨by rw [hn]; omega, by rw [ho u a, if_pos b]⟩
      · rintro ⟨a, b⟩
        rw [hn] at a
        by_cases e : u = r.n
        · rw [e, hon] at b; omega
        · have a' : u < r.n := by omega
          rw [ho u a'] at b
          by_cases q : own u = 4 * s.length + 2
          · exact Or.inr ⟨a', q⟩
          · rw [if_neg q] at b; exact Or.inl ⟨a', b⟩
    have he : ∀ u v, (cU r own (4 * s.length + 1) u ∨ cU r own (4 * s.length + 2) u) → (cE r.nx r.ot r.tail u v ↔ cE (c_single r l).nx (c_single r l).ot r.tail u v) := by
      intro u v hu
      have a : u < r.n := hu.elim (fun z => z.1) (fun z => z.1)
      simp only [cE, hot u a]
      constructor
      · rintro (⟨p, q⟩ | q)
        · exact Or.inl ⟨p, by rw [hnx u a p]; exact q⟩
        · exact Or.inr q
      · rintro (⟨p, q⟩ | q)
        · exact Or.inl ⟨p, by rw [hnx u a p] at q; exact q⟩
        · exact Or.inr q
    refine ⟨own', hd, ⟨?_, ?_, ?_⟩, ?_, ?_⟩
    · refine T.lev.upd rfl rfl rfl (hcu _ (by omega) (by omega)) (hcu _ (by omega) (by omega)) ((hrow _).mp (Or.inl T.lev.rhU)) hlab hot (fun u hu => hnx u (hu.elim (fun z => z.1) (fun z => z.1)) (fun e => by rcases hu with hu | hu <;> (have := hu.2; rw [e] at this; omega)))
    · intro e; cases e
    · intro p e
      have e' : l = p := Option.some.inj e
      refine ⟨r.n, rfl, ⟨M.congr hrow he (fun u hu => (hlab u (hu.elim (fun z => z.1) (fun z => z.1))).symm), ?_⟩, ?_, ?_⟩
      · intro u v hu hh
        exact hno u v ((hrow u).mpr hu) ((he u v ((hrow u).mpr hu)).mpr hh)
      · have hlab' : (c_single r l).lab r.n = p := by rw [← e']; exact sU_self _ _ _
        rw [← hlab']
        refine Fr.node (fun u => ?_) (fun v hv => ?_)
        · constructor
          · rintro ⟨a, b⟩
            by_cases e : u = r.n
            · exact e
            · have a' : u < r.n := by rw [hn] at a; omega
              rw [ho u a'] at b
              by_cases q : own u = 4 * s.length + 2
              · rw [if_pos q] at b; omega
              · rw [if_neg q] at b; exact (q b).elim
          · intro e; rw [e]; exact ⟨by rw [hn]; omega, hon⟩
        · rcases hv with ⟨a, _⟩ | b
          · exact a rfl
          · rw [show (c_single r l).ot r.n = none from sU_self _ _ _] at b; cases b
      · exact sU_self _ _ _
    · exact COut.same hS s O (Nat.le_refl _) (fun k _ => ⟨rfl, rfl, rfl, rfl⟩)
    · intro u hu
      rw [hn] at hu
      by_cases e : u = r.n
      · rw [e, hon]; omega
      · have a' : u < r.n := by omega
        have := hB u a'
        rw [ho u a']
        split <;> omega
/-- the latest part is put in the place of another one -/
theorem CInv.rep {r r' : CR} {own own' : Nat → Nat} {c : Option Rl} {q p p' : Rl} {s : List RLv} (h : CInv r own ((c, q, some p) :: s)) (hn : r.n ≤ r'.n)
    (ho : ∀ u, u < r.n → own' u = own u) (hon : ∀ u, r.n ≤ u → u < r'.n → own' u = 4 * s.length + 2)
    (hlab : ∀ u, u < r.n → r'.lab u = r.lab u) (hot : ∀ u, u < r.n → r'.ot u = r.ot u) (hnx : ∀ u, u < r.n → u ≠ r.tail → u ≠ r.lead → r'.nx u = r.nx u)
    (h1 : r'.cs = r.cs) (h2 : r'.ce = r.ce) (h3 : r'.rh = r.rh) (h4 : r'.ou = r.ou) (h5 : r'.d = r.d) (h6 : r'.lead = r.lead) {f' : Nat} (hf : r'.first = some f') (hx : r'.nx r.lead = some f')
    (hF : Fr (cE r'.nx r'.ot r'.tail) r'.lab (cU r' own' (4 * s.length + 2)) f' r'.tail p') : CInv r' own' ((c, q, some p') :: s) := by
  obtain ⟨hd, T, O, hB⟩ := h
  obtain ⟨htn, hto⟩ := T.tailU
  obtain ⟨f, hf0, hrow, hpart, hlx⟩ := T.ps p rfl
  have htU := hpart.tU
  have hlU := hrow.fr.tU
  have hcu : ∀ k, k ≠ 4 * s.length + 2 → ∀ u, cU r own k u ↔ cU r' own' k u := by
    intro k hk u
    constructor
    · rintro ⟨a, b⟩; exact ⟨by omega, by rw [ho u a]; exact b⟩
    · rintro ⟨a, b⟩
      by_cases e : u < r.n
      · exact ⟨e, by rw [ho u e] at b; exact b⟩
      · rw [hon u (by omega) a] at b; exact (hk b.symm).elim
  have hS : CSame r r' own own' (4 * s.length) := by
    refine ⟨fun u hu hb => ⟨by omega, ho u hu, hnx u hu (fun e => by have := htU.2; rw [e] at hb; omega) (fun e => by have := hlU.2; rw [e] at hb; omega), hot u hu, hlab u hu⟩, fun u hu hb => ?_⟩
    by_cases e : u < r.n
    · exact ⟨e, by rw [ho u e] at hb; exact hb⟩
    · rw [hon u (by omega) hu] at hb; omega
  have he : ∀ u v, cU r own (4 * s.length + 1) u → (cE r.nx r.ot r.lead u v ↔ cE r'.nx r'.ot r.lead u v) := by
    intro u v hu
    have hut : u ≠ r.tail := fun e => by have := htU.2; have := hu.2; rw [e] at this; omega
    simp only [cE, hot u hu.1]
    constructor
    · rintro (⟨a, b⟩ | b)
      · exact Or.inl ⟨a, by rw [hnx u hu.1 hut a]; exact b⟩
      · exact Or.inr b
    · rintro (⟨a, b⟩ | b)
      · exact Or.inl ⟨a, by rw [hnx u hu.1 hut a] at b; exact b⟩
      · exact Or.inr b
  refine ⟨by rw [h5]; exact hd, ⟨?_, ?_, ?_⟩, ?_, ?_⟩
  · refine T.lev.upd (by rw [h1]) (by rw [h2]) (by rw [h3]) (hcu _ (by omega)) (hcu _ (by omega)) ((hcu _ (by omega) _).mp T.lev.rhU) hlab hot (fun u hu => hnx u (hu.elim (fun z => z.1) (fun z => z.1)) (fun e => ?_) (fun e => ?_))
    · have := htU.2; rcases hu with hu | hu <;> (have := hu.2; rw [e] at this; omega)
    · have := hlU.2; rcases hu with hu | hu <;> (have := hu.2; rw [e] at this; omega)
  · intro e; cases e
  · intro p2 e
    have e' : p' = p2 := Option.some.inj e
    subst e'
    refine ⟨f', hf, ⟨?_, ?_⟩, hF, by rw [h6]; exact hx⟩
    · rw [h3, h6]
      exact hrow.fr.congr (hcu _ (by omega)) he (fun u hu => (hlab u hu.1).symm)
    · intro u v hu hh
      rw [h6] at hh
      rw [h3]
      exact hrow.no u v ((hcu _ (by omega) u).mpr hu) ((he u v ((hcu _ (by omega) u).mpr hu)).mpr hh)
  · exact COut.same hS s O (Nat.le_refl _) (fun k _ => ⟨by rw [h1], by rw [h2], by rw [h3], by rw [h4]⟩)
  · intro u hu
    by_cases e : u < r.n
    · rw [ho u e]; exact hB u e
    · rw [hon u (by omega) hu]; omega
def c_loop (r : CR) (f : Nat) (star : Bool) : CR := (CR.mk (r.n + 1) (if star then sU (sU (sU r.nx r.n none) r.tail (some r.n)) r.lead (some r.n) else sU (sU r.nx r.n none) r.tail (some r.n)) (sU r.ot r.n (some f)) (sU r.lab r.n rl_id) r.cs r.ce r.rh r.ou r.d r.lead (if star then some r.n else some f) (r.n))
theorem c_loop_inv {r : CR} {own : Nat → Nat} {c : Option Rl} {q p : Rl} {s : List RLv} (h : CInv r own ((c, q, some p) :: s)) {f : Nat} (hf : r.first = some f) (star : Bool) : ∃ own', CInv (c_loop r f star) own' (st_times star true ((c, q, some p) :: s)) := by
  have T := h.2.1
  obtain ⟨f0, hf0, hrow, hpart, hlx⟩ := T.ps p rfl
  have hff : f0 = f := by rw [hf] at hf0; exact (Option.some.inj hf0).symm
  subst hff
  have htU := hpart.tU
  have hlU := hrow.fr.tU
  have htl : r.tail ≠ r.lead := fun e => by have := htU.2; have := hlU.2; rw [e] at *; omega
  have htn := htU.1
  have hln := hlU.1
  refine ⟨fun u => if u = r.n then 4 * s.length + 2 else own u, ?_⟩
  have ho : ∀ u, u < r.n → (if u = r.n then 4 * s.length + 2 else own u) = own u := fun u hu => if_neg (by omega)
  have hlab : ∀ u, u < r.n → (c_loop r f0 star).lab u = r.lab u := fun u hu => sU_ne _ _ (by omega)
  have hot : ∀ u, u < r.n → (c_loop r f0 star).ot u = r.ot u := fun u hu => sU_ne _ _ (by omega)
  have hnx : ∀ u, u < r.n → u ≠ r.tail → u ≠ r.lead → (c_loop r f0 star).nx u = r.nx u := fun u hu h1 h2 => by
    cases star
    · show sU _ _ _ u = _
      rw [sU_ne _ _ h1, sU_ne _ _ (by omega)]
    · show sU _ _ _ u = _
      rw [sU_ne _ _ h2, sU_ne _ _ h1, sU_ne _ _ (by omega)]
  have hnt : (c_loop r f0 star).nx r.tail = some r.n := by
    cases star
    · exact sU_self _ _ _
    · show sU _ _ _ _ = _
      rw [sU_ne _ _ htl, sU_self]
  have hcu : ∀ u, cU (c_loop r f0 star) (fun u => if u = r.n then 4 * s.length + 2 else own u) (4 * s.length + 2) u ↔ cU r own (4 * s.length + 2) u ∨ u = r.n := by
    intro u
    constructor
    · rintro ⟨a, b⟩
      by_cases e : u = r.n
      · exact Or.inr e
      · have a' : u < r.n + 1 := a
        refine Or.inl ⟨by omega, ?_⟩
        simp only [if_neg e] at b; exact b
    · rintro (⟨a, b⟩ | e)
      · exact ⟨show u < r.n + 1 by omega, by simp only; rw [ho u a]; exact b⟩
      · exact ⟨show u < r.n + 1 by omega, by simp only; rw [if_pos e]⟩
  have hpart' : Fr (cE r.nx r.ot r.tail) (c_loop r f0 star).lab (cU r own (4 * s.length + 2)) f0 r.tail p := hpart.congr (fun _ => Iff.rfl) (fun _ _ _ => Iff.rfl) (fun u hu => (hlab u hu.1).symm)
  have hL := Fr.loop (e := cE (c_loop r f0 star).nx (c_loop r f0 star).ot r.n) (U := cU (c_loop r f0 star) (fun u => if u = r.n then 4 * s.length + 2 else own u) (4 * s.length + 2)) (f := r.n) hpart' (fun z => by have := z.1; omega) (sU_self _ _ _) hcu
    (fun u v hu => by
      have hul : u ≠ r.lead := fun e => by have := hlU.2; have := hu.2; rw [e] at this; omega
      have hun : u ≠ r.n := by have := hu.1; omega
      simp only [cE, hot u hu.1]
      by_cases e : u = r.tail
      · subst e
        constructor
        · rintro (⟨_, b⟩ | b)
          · rw [hnt] at b; exact Or.inr ⟨rfl, (Option.some.inj b).symm⟩
          · exact Or.inl (Or.inr b)
        · rintro ((⟨a, _⟩ | b) | ⟨_, b⟩)
          · exact (a rfl).elim
          · exact Or.inr b
          · rw [b]; exact Or.inl ⟨hun, hnt⟩
      · rw [hnx u hu.1 e hul]
        constructor
        · rintro (⟨_, b⟩ | b)
          · exact Or.inl (Or.inl ⟨e, b⟩)
          · exact Or.inl (Or.inr b)
        · rintro ((⟨_, b⟩ | b) | ⟨b, _⟩)
          · exact Or.inl ⟨hun, b⟩
          · exact Or.inr b
          · exact (e b).elim)
    (fun v => by
      have hon : (c_loop r f0 star).ot r.n = some f0 := sU_self _ _ _
      simp only [cE, hon]
      constructor
      · rintro (⟨a, _⟩ | b)
        · exact (a rfl).elim
        · exact (Option.some.inj b).symm
      · intro e; rw [e]; exact Or.inr rfl)
  cases star
  · refine CInv.rep h (show r.n ≤ r.n + 1 by omega) ho (fun u h1 h2 => ?_) hlab hot hnx rfl rfl rfl rfl rfl rfl rfl ?_ ?_
    · have h2' : u < r.n + 1 := h2
      have e : u = r.n := by omega
      rw [if_pos e]
    · show sU _ _ _ _ = _
      rw [sU_ne _ _ (fun e => htl e.symm), sU_ne _ _ (by omega)]; exact hlx
    · rw [rl_times_plus]; exact hL.2
  · refine CInv.rep h (show r.n ≤ r.n + 1 by omega) ho (fun u h1 h2 => ?_) hlab hot hnx rfl rfl rfl rfl rfl rfl rfl ?_ ?_
    · have h2' : u < r.n + 1 := h2
      have e : u = r.n := by omega
      rw [if_pos e]
    · exact sU_self _ _ _
    · rw [rl_times_star]; exact hL.1
def c_opt (r : CR) (f : Nat) : CR := (CR.mk (r.n + 2) (sU (sU (sU (sU (sU r.nx r.n none) (r.n + 1) none) r.n (some (r.n + 1))) r.tail (some (r.n + 1))) r.lead (some r.n)) (sU (sU r.ot r.n (some f)) (r.n + 1) none) (sU (sU r.lab r.n rl_id) (r.n + 1) rl_id) r.cs r.ce r.rh r.ou r.d r.lead (some r.n) (r.n + 1))
theorem c_opt_inv {r : CR} {own : Nat → Nat} {c : Option Rl} {q p : Rl} {s : List RLv} (h : CInv r own ((c, q, some p) :: s)) {f : Nat} (hf : r.first = some f) : ∃ own', CInv (c_opt r f) own' (st_times true false ((c, q, some p) :: s)) := by
  have T := h.2.1
  obtain ⟨f0, hf0, hrow, hpart, hlx⟩ := T.ps p rfl
  have hff : f0 = f := by rw [hf] at hf0; exact (Option.some.inj hf0).symm
  subst hff
  have htU := hpart.tU
  have hlU := hrow.fr.tU
  have htl : r.tail ≠ r.lead := fun e => by have := htU.2; have := hlU.2; rw [e] at *; omega
  have htn := htU.1
  have hln := hlU.1
  refine ⟨fun u => if r.n ≤ u then 4 * s.length + 2 else own u, ?_⟩
  have ho : ∀ u, u < r.n → (if r.n ≤ u then 4 * s.length + 2 else own u) = own u := fun u hu => if_neg (by omega)
  have hlab : ∀ u, u < r.n → (c_opt r f0).lab u = r.lab u := fun u hu => by
    show sU _ _ _ u = _
    rw [sU_ne _ _ (by omega), sU_ne _ _ (by omega)]
  have hot : ∀ u, u < r.n → (c_opt r f0).ot u = r.ot u := fun u hu => by
    show sU _ _ _ u = _
    rw [sU_ne _ _ (by omega), sU_ne _ _ (by omega)]
  have hnx : ∀ u, u < r.n → u ≠ r.tail → u ≠ r.lead → (c_opt r f0).nx u = r.nx u := fun u hu h1 h2 => by
    show sU _ _ _ u = _
    rw [sU_ne _ _ h2, sU_ne _ _ h1, sU_ne _ _ (by omega), sU_ne _ _ (by omega), sU_ne _ _ (by omega)]
  have hnt : (c_opt r f0).nx r.tail = some (r.n + 1) := by
    show sU _ _ _ _ = _
    rw [sU_ne _ _ htl, sU_self]
  have hnn : (c_opt r f0).nx r.n = some (r.n + 1) := by
    show sU _ _ _ _ = _
    rw [sU_ne _ _ (by omega), sU_ne _ _ (by omega), sU_self]
  have hon : (c_opt r f0).ot r.n = some f0 := by
    show sU _ _ _ _ = _
    rw [sU_ne _ _ (by omega), sU_self]
  have hox : (c_opt r f0).ot (r.n + 1) = none := sU_self _ _ _
  have hcu : ∀ u, cU (c_opt r f0) (fun u => if r.n ≤ u then 4 * s.length + 2 else own u) (4 * s.length + 2) u ↔ cU r own (4 * s.length + 2) u ∨ u = r.n ∨ u = r.n + 1 := by
    intro u
    constructor
    · rintro ⟨a, b⟩
      have a' : u < r.n + 2 := a
      by_cases e : r.n ≤ u
      · exact Or.inr (by omega)
      · refine Or.inl ⟨by omega, ?_⟩
        simp only [if_neg e] at b; exact b
    · rintro (⟨a, b⟩ | e)
      · exact ⟨show u < r.n + 2 by omega, by simp only; rw [ho u a]; exact b⟩
      · exact ⟨show u < r.n + 2 by omega, by simp only; rw [if_pos (by omega)]⟩
  have hpart' : Fr (cE r.nx r.ot r.tail) (c_opt r f0).lab (cU r own (4 * s.length + 2)) f0 r.tail p := hpart.congr (fun _ => Iff.rfl) (fun _ _ _ => Iff.rfl) (fun u hu => (hlab u hu.1).symm)
  have hL := Fr.around (e := cE (c_opt r f0).nx (c_opt r f0).ot (r.n + 1)) (U := cU (c_opt r f0) (fun u => if r.n ≤ u then 4 * s.length + 2 else own u) (4 * s.length + 2)) (a := r.n) (b := r.n + 1) hpart' true false (fun z => by have := z.1; omega) (fun z => by have := z.1; omega) (by omega)
    (by show sU _ _ _ _ = _; rw [sU_ne _ _ (by omega), sU_self]) (sU_self _ _ _) hcu
    (fun u v hu => by
      have hul : u ≠ r.lead := fun e => by have := hlU.2; have := hu.2; rw [e] at this; omega
      have hun : u ≠ r.n + 1 := by have := hu.1; omega
      simp only [cE, hot u hu.1]
      by_cases e : u = r.tail
      · subst e
        constructor
        · rintro (⟨_, b⟩ | b)
          · rw [hnt] at b; exact Or.inr ⟨rfl, Or.inl (Option.some.inj b).symm⟩
          · exact Or.inl (Or.inr b)
        · rintro ((⟨a, _⟩ | b) | ⟨_, b | ⟨b, _⟩⟩)
          · exact (a rfl).elim
          · exact Or.inr b
          · rw [b]; exact Or.inl ⟨hun, hnt⟩
          · cases b
      · rw [hnx u hu.1 e hul]
        constructor
        · rintro (⟨_, b⟩ | b)
          · exact Or.inl (Or.inl ⟨e, b⟩)
          · exact Or.inl (Or.inr b)
        · rintro ((⟨_, b⟩ | b) | ⟨b, _⟩)
          · exact Or.inl ⟨hun, b⟩
          · exact Or.inr b
          · exact (e b).elim)
    (fun v => by
      simp only [cE, hon, hnn]
      constructor
      · rintro (⟨_, b⟩ | b)
        · exact Or.inr ⟨trivial, (Option.some.inj b).symm⟩
        · exact Or.inl (Option.some.inj b).symm
      · rintro (e | ⟨_, e⟩)
        · rw [e]; exact Or.inr rfl
        · rw [e]; exact Or.inl ⟨by omega, rfl⟩)
    (fun v hv => by
      rcases hv with ⟨a, _⟩ | b
      · exact a rfl
      · rw [hox] at b; cases b)
  refine CInv.rep h (show r.n ≤ r.n + 2 by omega) ho (fun u h1 h2 => ?_) hlab hot hnx rfl rfl rfl rfl rfl rfl rfl ?_ ?_
  · rw [if_pos h1]
  · exact sU_self _ _ _
  · exact hL
def c_open (r : CR) : CR := (CR.mk (r.n + 2) (sU (sU r.nx r.n none) (r.n + 1) none) (sU (sU r.ot r.n none) (r.n + 1) none) (sU (sU r.lab r.n rl_id) (r.n + 1) rl_id) (sU r.cs (r.d + 1) r.n) (sU r.ce (r.d + 1) (r.n + 1)) (sU r.rh (r.d + 1) r.n) (sU r.ou (r.d + 1) r.tail) (r.d + 1) r.lead (none) (r.n))
/-- a level that has just been opened -/
theorem CTop.fresh {r : CR} {own : Nat → Nat} {d a : Nat} (hn : r.n = a + 2) (hcs : r.cs d = a) (hce : r.ce d = a + 1) (hrh : r.rh d = a) (ht : r.tail = a) (hf : r.first = none)
    (hlo : ∀ u, u < a → own u < 4 * d) (h1 : own a = 4 * d + 1) (h2 : own (a + 1) = 4 * d + 3) (hl1 : r.lab a = rl_id) (hl2 : r.lab (a + 1) = rl_id) (ho1 : r.ot a = none) (ho2 : r.ot (a + 1) = none) (hx2 : r.nx (a + 1) = none) : CTop r own d (none, rl_id, none) := by
  have hcu : ∀ k u, 4 * d ≤ k → cU r own k u → (u = a ∧ k = 4 * d + 1) ∨ (u = a + 1 ∧ k = 4 * d + 3) := by
    rintro k u hk ⟨p, q⟩
    by_cases e : u < a
    · have := hlo u e; omega
    · by_cases e1 : u = a
      · subst e1; left; exact ⟨rfl, by omega⟩
      · have e2 : u = a + 1 := by omega
        subst e2; right; exact ⟨rfl, by omega⟩
  refine ⟨⟨?_, ?_, ?_, ?_, ?_, ?_, ?_, ?_⟩, ?_, ?_⟩
  · rw [hcs, hrh, hce]
    exact Ch.nil (fun u hu => by rcases hcu _ u (Nat.le_refl _) hu with ⟨_, h⟩ | ⟨_, h⟩ <;> omega) (by omega)
  · rw [hrh]; exact ⟨by omega, h1⟩
  · rw [hrh]; exact hl1
  · rw [hrh]; exact ho1
  · intro u; rw [hce]
    constructor
    · intro hu; rcases hcu _ u (by omega) hu with ⟨_, h⟩ | ⟨h, _⟩
      · omega
      · exact h
    · intro e; rw [e]; exact ⟨by omega, h2⟩
  · rw [hce]; exact hl2
  · rw [hce]; exact ho2
  · rw [hce]; exact hx2
  · intro _
    have hno : ∀ v, ¬ cE r.nx r.ot r.tail a v := by
      rintro v (⟨p, _⟩ | q)
      · exact p ht.symm
      · rw [ho1] at q; cases q
    refine ⟨hf, ⟨?_, ?_⟩, fun u hu => by rcases hcu _ u (by omega) hu with ⟨_, h⟩ | ⟨_, h⟩ <;> omega⟩
    · have hh : Fr (cE r.nx r.ot r.tail) r.lab (cU r own (4 * d + 1)) a a (r.lab a) := Fr.node (fun u => ⟨fun hu => by rcases hcu _ u (by omega) hu with ⟨h, _⟩ | ⟨_, h⟩ <;> omega, fun e => by rw [e]; exact ⟨by omega, h1⟩⟩) hno
      rw [hl1] at hh
      rw [hrh, ht]
      rw [ht] at hh
      exact hh
    · intro u v hu he
      have e : u = a := by rcases hcu _ u (by omega) hu with ⟨h, _⟩ | ⟨_, h⟩ <;> omega
      rw [e] at he
      exact (hno v he).elim
  · intro p e; cases e
theorem c_open_inv {r : CR} {own : Nat → Nat} {st : List RLv} (h : CInv r own st) : ∃ own', CInv (c_open r) own' (st_open st) := by
  cases st with
  | nil => exact h.elim
  | cons x s =>
    obtain ⟨hd, T, O, hB⟩ := h
    obtain ⟨M, hno⟩ := T.merge
    obtain ⟨htn, hto⟩ := T.tailU
    let own' : Nat → Nat := fun u => if u = r.n then 4 * (s.length + 1) + 1 else if u = r.n + 1 then 4 * (s.length + 1) + 3 else if own u = 4 * s.length + 2 then 4 * s.length + 1 else own u
    have ho : ∀ u, u < r.n → own' u = if own u = 4 * s.length + 2 then 4 * s.length + 1 else own u := fun u hu => by simp only [own']; rw [if_neg (by omega), if_neg (by omega)]
    have hon : own' r.n = 4 * (s.length + 1) + 1 := by simp only [own', if_true]
    have hon1 : own' (r.n + 1) = 4 * (s.length + 1) + 3 := by simp only [own']; rw [if_neg (by omega), if_pos trivial]
    have hn : (c_open r).n = r.n + 2 := rfl
    have hlab : ∀ u, u < r.n → (c_open r).lab u = r.lab u := fun u hu => by
      show sU _ _ _ u = _
      rw [sU_ne _ _ (by omega), sU_ne _ _ (by omega)]
    have hot : ∀ u, u < r.n → (c_open r).ot u = r.ot u := fun u hu => by
      show sU _ _ _ u = _
      rw [sU_ne _ _ (by omega), sU_ne _ _ (by omega)]
    have hnx : ∀ u, u < r.n → (c_open r).nx u = r.nx u := fun u hu => by
      show sU _ _ _ u = _
      rw [sU_ne _ _ (by omega), sU_ne _ _ (by omega)]
    have hbig : ∀ u, u < (c_open r).n → own' u < 4 * (s.length + 1) → u < r.n := by
      intro u hu hb
      rw [hn] at hu
      by_cases e : u = r.n
      · rw [e, hon] at hb; omega
      · by_cases e1 : u = r.n + 1
        · rw [e1, hon1] at hb; omega
        · omega
    have hcu : ∀ k, k < 4 * (s.length + 1) → k ≠ 4 * s.length + 1 → k ≠ 4 * s.length + 2 → ∀ u, cU r own k u ↔ cU (c_open r) own' k u := by
      intro k h0 h1 h2 u
      constructor
      · rintro ⟨a, b⟩
        exact ⟨by rw [hn]; omega, by rw [ho u a, if_neg (by omega)]; exact b⟩
      · rintro ⟨a, b⟩
        have a' := hbig u a (by omega)
        rw [ho u a'] at b
        by_cases q : own u = 4 * s.length + 2
        · rw [if_pos q] at b; omega
        · rw [if_neg q] at b; exact ⟨a', b⟩
    have hrow : ∀ u, (cU r own (4 * s.length + 1) u ∨ cU r own (4 * s.length + 2) u) ↔ cU (c_open r) own' (4 * s.length + 1) u := by
      intro u
      constructor
      · rintro (⟨a, b⟩ | ⟨a, b⟩)
        · exact ⟨by rw [hn]; omega, by rw [ho u a, if_neg (by omega)]; exact b⟩
        · exact ⟨by rw [hn]; omega, by rw [ho u a, if_pos b]⟩
      · rintro ⟨a, b⟩
        have a' := hbig u a (by omega)
        rw [ho u a'] at b
        by_cases q : own u = 4 * s.length + 2
        · exact Or.inr ⟨a', q⟩
        · rw [if_neg q] at b; exact Or.inl ⟨a', b⟩
    have hS : CSame r (c_open r) own own' (4 * s.length) := by
      refine ⟨fun u hu hb => ⟨by rw [hn]; omega, by rw [ho u hu, if_neg (by omega)], hnx u hu, hot u hu, hlab u hu⟩, fun u hu hb => ?_⟩
      have a' := hbig u hu (by omega)
      rw [ho u a'] at hb
      by_cases q : own u = 4 * s.length + 2
      · rw [if_pos q] at hb; omega
      · rw [if_neg q] at hb; exact ⟨a', hb⟩
    have he : ∀ u v, (cU r own (4 * s.length + 1) u ∨ cU r own (4 * s.length + 2) u) → (cE r.nx r.ot r.tail u v ↔ cE (c_open r).nx (c_open r).ot r.tail u v) := by
      intro u v hu
      have a : u < r.n := hu.elim (fun z => z.1) (fun z => z.1)
      simp only [cE, hot u a, hnx u a]
    have hsd : ∀ f : Nat → Nat, ∀ v, sU f (r.d + 1) v s.length = f s.length := fun f v => sU_ne _ _ (by omega)
    have hls : (x :: s).length = s.length + 1 := rfl
    have hdd : r.d + 1 = s.length + 1 := by omega
    refine ⟨own', show r.d + 1 = s.length + 1 by omega, ?_, ⟨⟨?_, ⟨?_, ?_⟩, ?_⟩, ?_⟩, ?_⟩
    · rw [hls]
      refine CTop.fresh (a := r.n) rfl ?_ ?_ ?_ rfl rfl ?_ hon hon1 ?_ (sU_self _ _ _) ?_ (sU_self _ _ _) (sU_self _ _ _)
      · show sU _ _ _ _ = _; rw [← hdd, sU_self]
      · show sU _ _ _ _ = _; rw [← hdd, sU_self]
      · show sU _ _ _ _ = _; rw [← hdd, sU_self]
      · intro u hu; have := hB u hu; rw [ho u hu]; split <;> omega
      · show sU _ _ _ _ = _; rw [sU_ne _ _ (by omega), sU_self]
      · show sU _ _ _ _ = _; rw [sU_ne _ _ (by omega), sU_self]
    · refine T.lev.upd (hsd _ _) (hsd _ _) (hsd _ _) (hcu _ (by omega) (by omega) (by omega)) (hcu _ (by omega) (by omega) (by omega)) ((hrow _).mp (Or.inl T.lev.rhU)) hlab hot (fun u hu => hnx u (hu.elim (fun z => z.1) (fun z => z.1)))
    · have e1 : (c_open r).rh s.length = r.rh s.length := hsd _ _
      have e2 : (c_open r).ou (s.length + 1) = r.tail := by show sU _ _ _ _ = _; rw [← hdd, sU_self]
      rw [e1, e2]
      exact M.congr hrow he (fun u hu => (hlab u (hu.elim (fun z => z.1) (fun z => z.1))).symm)
    · intro u v hu hh
      have e1 : (c_open r).rh s.length = r.rh s.length := hsd _ _
      have e2 : (c_open r).ou (s.length + 1) = r.tail := by show sU _ _ _ _ = _; rw [← hdd, sU_self]
      rw [e1]; rw [e2] at hh
      exact hno u v ((hrow u).mpr hu) ((he u v ((hrow u).mpr hu)).mpr hh)
    · rintro u ⟨a, b⟩
      have a' := hbig u a (by omega)
      rw [ho u a'] at b
      by_cases q : own u = 4 * s.length + 2
      · rw [if_pos q] at b; omega
      · rw [if_neg q] at b; exact q b
    · exact COut.same hS s O (Nat.le_refl _) (fun k hk => ⟨sU_ne _ _ (by omega), sU_ne _ _ (by omega), sU_ne _ _ (by omega), sU_ne _ _ (by omega)⟩)
    · intro u hu
      rw [hls]
      rw [hn] at hu
      by_cases e : u < r.n
      · have := hB u e; rw [ho u e]; split <;> omega
      · by_cases e1 : u = r.n
        · rw [e1, hon]; omega
        · have e2 : u = r.n + 1 := by omega
          rw [e2, hon1]; omega
def c_bar (r : CR) : CR := (CR.mk (r.n + 1) (sU (sU r.nx r.tail (some (r.ce r.d))) r.n none) (sU (sU r.ot r.n none) (r.rh r.d) (some r.n)) (sU r.lab r.n rl_id) r.cs r.ce (sU r.rh r.d r.n) r.ou r.d r.lead (none) (r.n))
theorem c_bar_inv {r : CR} {own : Nat → Nat} {st : List RLv} (h : CInv r own st) : ∃ own', CInv (c_bar r) own' (st_bar st) := by
  cases st with
  | nil => exact h.elim
  | cons x s =>
    obtain ⟨hd, T, O, hB⟩ := h
    obtain ⟨M, hno⟩ := T.merge
    obtain ⟨htn, hto⟩ := T.tailU
    have hrh := T.lev.rhU
    have hce := (T.lev.ceU _).mpr rfl
    let own' : Nat → Nat := fun u => if u = r.n then 4 * s.length + 1 else if own u = 4 * s.length + 1 ∨ own u = 4 * s.length + 2 then 4 * s.length else own u
    have ho : ∀ u, u < r.n → own' u = if own u = 4 * s.length + 1 ∨ own u = 4 * s.length + 2 then 4 * s.length else own u := fun u hu => by simp only [own']; rw [if_neg (by omega)]
    have hon : own' r.n = 4 * s.length + 1 := by simp only [own', if_true]
    have hn : (c_bar r).n = r.n + 1 := rfl
    have hrd : r.rh r.d = r.rh s.length := by rw [hd]
    have hcd : r.ce r.d = r.ce s.length := by rw [hd]
    have hrn := hrh.1
    have hlab : ∀ u, u < r.n → (c_bar r).lab u = r.lab u := fun u hu => sU_ne _ _ (by omega)
    have hot : ∀ u, u < r.n → u ≠ r.rh s.length → (c_bar r).ot u = r.ot u := fun u hu h1 => by
      show sU _ _ _ u = _
      rw [sU_ne _ _ (by rw [hrd]; exact h1), sU_ne _ _ (by omega)]
    have hotr : (c_bar r).ot (r.rh s.length) = some r.n := by
      show sU _ _ _ _ = _
      rw [hrd, sU_self]
    have hnx : ∀ u, u < r.n → u ≠ r.tail → (c_bar r).nx u = r.nx u := fun u hu h1 => by
      show sU _ _ _ u = _
      rw [sU_ne _ _ (by omega), sU_ne _ _ h1]
    have hnt : (c_bar r).nx r.tail = some (r.ce s.length) := by
      show sU _ _ _ _ = _
      rw [sU_ne _ _ (by omega), sU_self, hcd]
    have hnn : (c_bar r).nx r.n = none := sU_self _ _ _
    have hotn : (c_bar r).ot r.n = none := by
      show sU _ _ _ _ = _
      rw [sU_ne _ _ (by rw [hrd]; omega), sU_self]
    have hS : CSame r (c_bar r) own own' (4 * s.length) := by
      refine ⟨fun u hu hb => ⟨by rw [hn]; omega, by rw [ho u hu, if_neg (by omega)], hnx u hu (fun e => by rw [e] at hb; omega), hot u hu (fun e => by have := hrh.2; rw [e] at hb; omega), hlab u hu⟩, fun u hu hb => ?_⟩
      rw [hn] at hu
      by_cases e : u = r.n
      · rw [e, hon] at hb; omega
      · have a' : u < r.n := by omega
        rw [ho u a'] at hb
        by_cases q : own u = 4 * s.length + 1 ∨ own u = 4 * s.length + 2
        · rw [if_pos q] at hb; omega
        · rw [if_neg q] at hb; exact ⟨a', hb⟩
    have hU : ∀ u, cU (c_bar r) own' (4 * s.length) u ↔ cU r own (4 * s.length) u ∨ (cU r own (4 * s.length + 1) u ∨ cU r own (4 * s.length + 2) u) := by
      intro u
      constructor
      · rintro ⟨a, b⟩
        rw [hn] at a
        by_cases e : u = r.n
        · rw [e, hon] at b; omega
        · have a' : u < r.n := by omega
          rw [ho u a'] at b
          by_cases q : own u = 4 * s.length + 1 ∨ own u = 4 * s.length + 2
          · exact Or.inr (q.elim (fun z => Or.inl ⟨a', z⟩) (fun z => Or.inr ⟨a', z⟩))
          · rw [if_neg q] at b; exact Or.inl ⟨a', b⟩
      · rintro (⟨a, b⟩ | ⟨a, b⟩ | ⟨a, b⟩)
        · exact ⟨by rw [hn]; omega, by rw [ho u a, if_neg (by omega)]; exact b⟩
        · exact ⟨by rw [hn]; omega, by rw [ho u a, if_pos (Or.inl b)]⟩
        · exact ⟨by rw [hn]; omega, by rw [ho u a, if_pos (Or.inr b)]⟩
    have hcs' : (c_bar r).cs s.length = r.cs s.length := rfl
    have hce' : (c_bar r).ce s.length = r.ce s.length := rfl
    have hrh' : (c_bar r).rh s.length = r.n := by show sU _ _ _ _ = _; rw [hd, sU_self]
    have hclab : Ch (cF r.nx r.ot) (c_bar r).lab (cU r own (4 * s.length)) (r.cs s.length) (r.rh s.length) (r.ce s.length) (rl_o x.1) := T.lev.ch.congr (fun _ => Iff.rfl) (fun _ _ _ => Iff.rfl) (fun u hu => (hlab u hu.1).symm)
    have hM : Fr (cE r.nx r.ot r.tail) (c_bar r).lab (fun u => cU r own (4 * s.length + 1) u ∨ cU r own (4 * s.length + 2) u) (r.rh s.length) r.tail (rl_row x) := M.congr (fun _ => Iff.rfl) (fun _ _ _ => Iff.rfl) (fun u hu => (hlab u (hu.elim (fun z => z.1) (fun z => z.1))).symm)
    have hB' := Ch.bar (e' := cF (c_bar r).nx (c_bar r).ot) (U' := cU (c_bar r) own' (4 * s.length)) (f := r.n) hclab hM hno (fun u a b => by have := a.2; rcases b with b | b <;> (have := b.2; omega)) (fun z => by have := z.1; omega) (fun z => by rcases z with z | z <;> (have := z.1; omega)) (fun e => by have := hce.1; omega)
      (fun z => by have := hce.2; rcases z with z | z <;> (have := z.2; omega)) (by rw [hlab _ hrh.1]; exact T.lev.rhl) hU
      (fun u v hu => by
        have h1 : u ≠ r.rh s.length := fun e => by have := hu.2; have := hrh.2; rw [e] at *; omega
        have h2 : u ≠ r.tail := fun e => by have := hu.2; rw [e] at *; omega
        simp only [cF, hot u hu.1 h1, hnx u hu.1 h2])
      (fun u v hu => by
        have a : u < r.n := hu.elim (fun z => z.1) (fun z => z.1)
        have ho1 : (c_bar r).ot u = some v ↔ (r.ot u = some v ∨ (u = r.rh s.length ∧ v = r.n)) := by
          by_cases e : u = r.rh s.length
          · subst e
            rw [hotr, T.lev.rho]
            constructor
            · intro q; exact Or.inr ⟨rfl, (Option.some.inj q).symm⟩
            · rintro (q | ⟨_, q⟩)
              · cases q
              · rw [q]
          · rw [hot u a e]
            constructor
            · exact Or.inl
            · rintro (q | ⟨q, _⟩)
              · exact q
              · exact (e q).elim
        have hn1 : (c_bar r).nx u = some v ↔ ((u ≠ r.tail ∧ r.nx u = some v) ∨ (u = r.tail ∧ v = r.ce s.length)) := by
          by_cases e : u = r.tail
          · subst e
            rw [hnt]
            constructor
            · intro q; exact Or.inr ⟨rfl, (Option.some.inj q).symm⟩
            · rintro (⟨q, _⟩ | ⟨_, q⟩)
              · exact (q rfl).elim
              · rw [q]
          · rw [hnx u a e]
            constructor
            · intro q; exact Or.inl ⟨e, q⟩
            · rintro (⟨_, q⟩ | ⟨q, _⟩)
              · exact q
              · exact (e q).elim
        simp only [cF, cE]
        rw [hn1, ho1]
        constructor
        · rintro ((q | q) | q | q)
          · exact Or.inl (Or.inl q)
          · exact Or.inr (Or.inl q)
          · exact Or.inl (Or.inr q)
          · exact Or.inr (Or.inr q)
        · rintro ((q | q) | q | q)
          · exact Or.inl (Or.inl q)
          · exact Or.inr (Or.inl q)
          · exact Or.inl (Or.inr q)
          · exact Or.inr (Or.inr q))
    have hcl : cU (c_bar r) own' (4 * s.length + 3) (r.ce s.length) := ⟨by rw [hn]; have := hce.1; omega, by rw [ho _ hce.1, if_neg (by have := hce.2; omega)]; exact hce.2⟩
    have hcer : r.ce s.length ≠ r.rh s.length := fun e => by have h1 := hce.2; have h2 := hrh.2; rw [e] at h1; omega
    have hcet : r.ce s.length ≠ r.tail := fun e => by have h1 := hce.2; rw [e] at h1; omega
    have hone : ∀ u, cU (c_bar r) own' (4 * s.length + 1) u ↔ u = r.n := by
      intro u
      constructor
      · rintro ⟨a, b⟩
        rw [hn] at a
        by_cases e : u = r.n
        · exact e
        · have a' : u < r.n := by omega
          rw [ho u a'] at b
          by_cases q : own u = 4 * s.length + 1 ∨ own u = 4 * s.length + 2
          · rw [if_pos q] at b; omega
          · rw [if_neg q] at b; exact (q (Or.inl b)).elim
      · intro e; rw [e]; exact ⟨by rw [hn]; omega, hon⟩
    have hedge : ∀ v, ¬ cE (c_bar r).nx (c_bar r).ot r.n r.n v := by
      rintro v (⟨p, _⟩ | q)
      · exact p rfl
      · rw [hotn] at q; cases q
    refine ⟨own', hd, ⟨⟨?_, ?_, ?_, ?_, ?_, ?_, ?_, ?_⟩, ?_, ?_⟩, ?_, ?_⟩
    · rw [hcs', hce', hrh']
      show Ch _ _ _ _ _ _ (rl_all x)
      rw [rl_all_eq]
      exact hB'
    · rw [hrh']; exact (hone _).mpr rfl
    · rw [hrh']; exact sU_self _ _ _
    · rw [hrh']; exact hotn
    · intro u
      rw [hce']
      constructor
      · rintro ⟨a, b⟩
        rw [hn] at a
        by_cases e : u = r.n
        · rw [e, hon] at b; omega
        · have a' : u < r.n := by omega
          rw [ho u a'] at b
          by_cases q : own u = 4 * s.length + 1 ∨ own u = 4 * s.length + 2
          · rw [if_pos q] at b; omega
          · rw [if_neg q] at b; exact (T.lev.ceU u).mp ⟨a', b⟩
      · intro e; rw [e]; exact hcl
    · rw [hce', hlab _ hce.1]; exact T.lev.cel
    · rw [hce', hot _ hce.1 hcer]; exact T.lev.ceo
    · rw [hce', hnx _ hce.1 hcet]; exact T.lev.cen
    · intro _
      refine ⟨rfl, ⟨?_, ?_⟩, ?_⟩
      · rw [hrh']
        have hh : Fr (cE (c_bar r).nx (c_bar r).ot r.n) (c_bar r).lab (cU (c_bar r) own' (4 * s.length + 1)) r.n r.n ((c_bar r).lab r.n) := Fr.node hone hedge
        have e : (c_bar r).lab r.n = rl_id := sU_self _ _ _
        rw [e] at hh
        exact hh
      · intro u v hu he
        rw [(hone u).mp hu] at he
        exact (hedge v he).elim
      · rintro u ⟨a, b⟩
        rw [hn] at a
        by_cases e : u = r.n
        · rw [e, hon] at b; omega
        · have a' : u < r.n := by omega
          rw [ho u a'] at b
          by_cases q : own u = 4 * s.length + 1 ∨ own u = 4 * s.length + 2
          · rw [if_pos q] at b; omega
          · rw [if_neg q] at b; exact q (Or.inr b)
    · intro p e; cases e
    · exact COut.same hS s O (Nat.le_refl _) (fun k hk => ⟨rfl, rfl, sU_ne _ _ (by omega), rfl⟩)
    · intro u hu
      rw [hn] at hu
      by_cases e : u = r.n
      · rw [e, hon]; omega
      · have a' : u < r.n := by omega
        have := hB u a'
        rw [ho u a']; split <;> omega
def c_close (r : CR) : CR := (CR.mk r.n (sU (sU r.nx r.tail (some (r.ce r.d))) (r.ou r.d) (some (r.cs r.d))) r.ot r.lab r.cs r.ce r.rh r.ou (r.d - 1) (r.ou r.d) (some (r.cs r.d)) (r.ce r.d))
/-- the whole of an open level, once its row leads to its end -/
theorem CTop.whole {r r' : CR} {own : Nat → Nat} {d : Nat} {x : RLv} (T : CTop r own d x) {U : Nat → Prop} (hU : ∀ u, U u ↔ u < r.n ∧ (own u = 4 * d ∨ own u = 4 * d + 1 ∨ own u = 4 * d + 2 ∨ own u = 4 * d + 3))
    (hot : ∀ u, U u → r'.ot u = r.ot u) (hlab : ∀ u, U u → r'.lab u = r.lab u) (hnx : ∀ u, U u → u ≠ r.tail → r'.nx u = r.nx u) (hnt : r'.nx r.tail = some (r.ce d)) :
    Fr (cE r'.nx r'.ot (r.ce d)) r'.lab U (r.cs d) (r.ce d) (rl_all x) := by
  obtain ⟨M, hno⟩ := T.merge
  obtain ⟨htn, hto⟩ := T.tailU
  have hce := (T.lev.ceU _).mpr rfl
  have hU0 : ∀ u, cU r own (4 * d) u → U u := fun u h => (hU u).mpr ⟨h.1, Or.inl h.2⟩
  have hU1 : ∀ u, (cU r own (4 * d + 1) u ∨ cU r own (4 * d + 2) u) → U u := fun u h => by
    rcases h with h | h
    · exact (hU u).mpr ⟨h.1, Or.inr (Or.inl h.2)⟩
    · exact (hU u).mpr ⟨h.1, Or.inr (Or.inr (Or.inl h.2))⟩
  have hUc : U (r.ce d) := (hU _).mpr ⟨hce.1, Or.inr (Or.inr (Or.inr hce.2))⟩
  have hC : Ch (cF r.nx r.ot) r'.lab (cU r own (4 * d)) (r.cs d) (r.rh d) (r.ce d) (rl_o x.1) := T.lev.ch.congr (fun _ => Iff.rfl) (fun _ _ _ => Iff.rfl) (fun u hu => (hlab u (hU0 u hu)).symm)
  have hM : Fr (cE r.nx r.ot r.tail) r'.lab (fun u => cU r own (4 * d + 1) u ∨ cU r own (4 * d + 2) u) (r.rh d) r.tail (rl_row x) := M.congr (fun _ => Iff.rfl) (fun _ _ _ => Iff.rfl) (fun u hu => (hlab u (hU1 u hu)).symm)
  rw [rl_all_eq]
  refine Ch.close hC hM (fun u a b => by have := a.2; rcases b with b | b <;> (have := b.2; omega)) (fun z => by have := hce.2; rcases z with z | z <;> (have := z.2; omega)) (by rw [hlab _ hUc]; exact T.lev.cel) (fun u => ?_) (fun u v hu => ?_) (fun u v hu => ?_) (fun v hv => ?_)
  · constructor
    · intro h
      rcases (hU u).mp h with ⟨a, b | b | b | b⟩
      · exact Or.inl ⟨a, b⟩
      · exact Or.inr (Or.inl (Or.inl ⟨a, b⟩))
      · exact Or.inr (Or.inl (Or.inr ⟨a, b⟩))
      · exact Or.inr (Or.inr ((T.lev.ceU u).mp ⟨a, b⟩))
    · rintro (h | h | h)
      · exact hU0 u h
      · exact hU1 u h
      · rw [h]; exact hUc
  · have h1 : u ≠ r.ce d := fun e => by have h1 := hu.2; have h2 := hce.2; rw [e] at h1; omega
    have h2 : u ≠ r.tail := fun e => by have h1 := hu.2; rw [e] at h1; omega
    simp only [cE, cF, hot u (hU0 u hu), hnx u (hU0 u hu) h2]
    constructor
    · rintro (⟨_, q⟩ | q)
      · exact Or.inl q
      · exact Or.inr q
    · rintro (q | q)
      · exact Or.inl ⟨h1, q⟩
      · exact Or.inr q
  · have h1 : u ≠ r.ce d := fun e => by have h2 := hce.2; rcases hu with hu | hu <;> (have h1 := hu.2; rw [e] at h1; omega)
    simp only [cE, hot u (hU1 u hu)]
    by_cases e : u = r.tail
    · subst e
      rw [hnt]
      constructor
      · rintro (⟨_, q⟩ | q)
        · exact Or.inr ⟨rfl, (Option.some.inj q).symm⟩
        · exact Or.inl (Or.inr q)
      · rintro ((⟨q, _⟩ | q) | ⟨_, q⟩)
        · exact (q rfl).elim
        · exact Or.inr q
        · rw [q]; exact Or.inl ⟨h1, rfl⟩
    · rw [hnx u (hU1 u hu) e]
      constructor
      · rintro (⟨_, q⟩ | q)
        · exact Or.inl (Or.inl ⟨e, q⟩)
        · exact Or.inl (Or.inr q)
      · rintro ((⟨_, q⟩ | q) | ⟨q, _⟩)
        · exact Or.inl ⟨h1, q⟩
        · exact Or.inr q
        · exact (e q).elim
  · rcases hv with ⟨q, _⟩ | q
    · exact q rfl
    · rw [hot _ hUc, T.lev.ceo] at q; cases q
theorem c_close_inv {r : CR} {own : Nat → Nat} {x y : RLv} {s : List RLv} (h : CInv r own (x :: y :: s)) : ∃ own', CInv (c_close r) own' (st_close (x :: y :: s)) := by
  obtain ⟨hd, T, ⟨⟨L, R, E⟩, O⟩, hB⟩ := h
  have hls : (y :: s).length = s.length + 1 := rfl
  rw [hls] at hd T hB
  obtain ⟨htn, hto⟩ := T.tailU
  have hce := (T.lev.ceU _).mpr rfl
  have houU := R.fr.tU
  let own' : Nat → Nat := fun u => if 4 * (s.length + 1) ≤ own u then 4 * s.length + 2 else own u
  have hsm : ∀ u, own u < 4 * (s.length + 1) → own' u = own u := fun u hu => if_neg (by omega)
  have hbg : ∀ u, 4 * (s.length + 1) ≤ own u → own' u = 4 * s.length + 2 := fun u hu => if_pos hu
  have hon := houU.1
  have hoo := houU.2
  have hto' : r.tail ≠ r.ou (s.length + 1) := fun e => by rw [← e] at hoo; omega
  have hnx : ∀ u, u ≠ r.tail → u ≠ r.ou (s.length + 1) → (c_close r).nx u = r.nx u := fun u h1 h2 => by
    show sU _ _ _ u = _
    rw [sU_ne _ _ (by rw [hd]; exact h2), sU_ne _ _ h1]
  have hnt : (c_close r).nx r.tail = some (r.ce (s.length + 1)) := by
    show sU _ _ _ _ = _
    rw [sU_ne _ _ (by rw [hd]; exact hto'), sU_self, hd]
  have hno' : (c_close r).nx (r.ou (s.length + 1)) = some (r.cs (s.length + 1)) := by
    show sU _ _ _ _ = _
    rw [hd, sU_self]
  have hcu : ∀ k, k < 4 * (s.length + 1) → k ≠ 4 * s.length + 2 → ∀ u, cU r own k u ↔ cU (c_close r) own' k u := by
    intro k h1 h2 u
    constructor
    · rintro ⟨a, b⟩; exact ⟨a, by rw [hsm u (by omega)]; exact b⟩
    · rintro ⟨a, b⟩
      by_cases e : 4 * (s.length + 1) ≤ own u
      · rw [hbg u e] at b; omega
      · rw [hsm u (by omega)] at b; exact ⟨a, b⟩
  have hS : CSame r (c_close r) own own' (4 * s.length) := by
    refine ⟨fun u hu hb => ⟨hu, hsm u (by omega), hnx u (fun e => by rw [e] at hb; omega) (fun e => by rw [e] at hb; omega), rfl, rfl⟩, fun u hu hb => ⟨hu, ?_⟩⟩
    by_cases e : 4 * (s.length + 1) ≤ own u
    · rw [hbg u e] at hb; omega
    · rw [hsm u (by omega)] at hb; exact hb
  have he : ∀ u v, cU r own (4 * s.length + 1) u → (cE r.nx r.ot (r.ou (s.length + 1)) u v ↔ cE (c_close r).nx (c_close r).ot (r.ou (s.length + 1)) u v) := by
    intro u v hu
    have h1 : u ≠ r.tail := fun e => by have h1 := hu.2; rw [e] at h1; omega
    simp only [cE, show (c_close r).ot = r.ot from rfl]
    constructor
    · rintro (⟨p, q⟩ | q)
      · exact Or.inl ⟨p, by rw [hnx u h1 p]; exact q⟩
      · exact Or.inr q
    · rintro (⟨p, q⟩ | q)
      · exact Or.inl ⟨p, by rw [hnx u h1 p] at q; exact q⟩
      · exact Or.inr q
  have hlead : (c_close r).lead = r.ou (s.length + 1) := by show r.ou r.d = _; rw [hd]
  have htail : (c_close r).tail = r.ce (s.length + 1) := by show r.ce r.d = _; rw [hd]
  have hfirst : (c_close r).first = some (r.cs (s.length + 1)) := by show some (r.cs r.d) = _; rw [hd]
  refine ⟨own', show r.d - 1 = s.length by omega, ⟨?_, ?_, ?_⟩, ?_, ?_⟩
  · refine L.upd rfl rfl rfl (hcu _ (by omega) (by omega)) (hcu _ (by omega) (by omega)) ((hcu _ (by omega) (by omega) _).mp L.rhU) (fun _ _ => rfl) (fun _ _ => rfl) (fun u hu => hnx u (fun e => ?_) (fun e => ?_))
    · rcases hu with hu | hu <;> (have h1 := hu.2; rw [e] at h1; omega)
    · rcases hu with hu | hu <;> (have h1 := hu.2; rw [e] at h1; omega)
  · intro e; cases e
  · intro p e
    have e' : rl_all x = p := Option.some.inj e
    subst e'
    refine ⟨r.cs (s.length + 1), hfirst, ⟨?_, ?_⟩, ?_, by rw [hlead]; exact hno'⟩
    · rw [hlead]; exact R.fr.congr (hcu _ (by omega) (by omega)) he (fun _ _ => rfl)
    · intro u v hu hh
      rw [hlead] at hh
      exact R.no u v ((hcu _ (by omega) (by omega) u).mpr hu) ((he u v ((hcu _ (by omega) (by omega) u).mpr hu)).mpr hh)
    · rw [htail]
      refine T.whole (r' := c_close r) (fun u => ?_) (fun _ _ => rfl) (fun _ _ => rfl) (fun u hu h1 => hnx u h1 (fun e => ?_)) hnt
      · constructor
        · rintro ⟨a, b⟩
          refine ⟨a, ?_⟩
          have := hB u a
          by_cases e : 4 * (s.length + 1) ≤ own u
          · omega
          · rw [hsm u (by omega)] at b
            exact (E u ⟨a, b⟩).elim
        · rintro ⟨a, b⟩
          exact ⟨a, hbg u (by omega)⟩
      · have a := hu.2
        rw [e, hsm _ (by omega)] at a
        omega
  · exact COut.same hS s O (Nat.le_refl _) (fun k hk => ⟨rfl, rfl, rfl, rfl⟩)
  · intro u hu
    by_cases e : 4 * (s.length + 1) ≤ own u
    · rw [hbg u e]; omega
    · rw [hsm u (by omega)]; omega
/-- the end of the reading -/
theorem c_fin_inv {r : CR} {own : Nat → Nat} {x : RLv} (h : CInv r own [x]) : Fr (cF (sU r.nx r.tail (some (r.ce 0))) r.ot) r.lab (fun u => u < r.n) (r.cs 0) (r.ce 0) (rl_all x) ∧ r.lab (r.ce 0) = rl_id := by
  obtain ⟨hd, T, _, hB⟩ := h
  have hls : ([] : List RLv).length = 0 := rfl
  rw [hls] at hd T hB
  obtain ⟨htn, hto⟩ := T.tailU
  have hce := (T.lev.ceU _).mpr rfl
  refine ⟨?_, T.lev.cel⟩
  have hh := T.whole (r' := (CR.mk r.n (sU r.nx r.tail (some (r.ce 0))) r.ot r.lab r.cs r.ce r.rh r.ou r.d r.lead r.first r.tail)) (U := fun u => u < r.n) (fun u => ?_) (fun _ _ => rfl) (fun _ _ => rfl) (fun u hu h1 => sU_ne _ _ h1) (sU_self _ _ _)
  · refine hh.congr (fun _ => Iff.rfl) (fun u v hu => ?_) (fun _ _ => rfl)
    simp only [cE, cF]
    constructor
    · rintro (⟨_, q⟩ | q)
      · exact Or.inl q
      · exact Or.inr q
    · rintro (q | q)
      · refine Or.inl ⟨fun e => ?_, q⟩
        have h1 : r.ce 0 ≠ r.tail := fun e => by have h2 := hce.2; rw [e] at h2; omega
        rw [e, sU_ne _ _ h1, T.lev.cen] at q; cases q
      · exact Or.inr q
  · have := hB u
    constructor
    · intro a; have := this a; exact ⟨a, by omega⟩
    · exact fun a => a.1
/-- the beginning: two nodes -/
theorem c_start_inv {r : CR} (hn : r.n = 2) (hd : r.d = 0) (hcs : r.cs 0 = 0) (hce : r.ce 0 = 1) (hrh : r.rh 0 = 0) (ht : r.tail = 0) (hf : r.first = none) (hl1 : r.lab 0 = rl_id) (hl2 : r.lab 1 = rl_id) (ho1 : r.ot 0 = none) (ho2 : r.ot 1 = none) (hx2 : r.nx 1 = none) :
    ∃ own, CInv r own (st_open []) := by
  refine ⟨fun u => if u = 0 then 1 else 3, hd, ?_, trivial, ?_⟩
  · refine CTop.fresh (a := 0) hn hcs hce hrh ht hf (fun u hu => by omega) rfl rfl hl1 hl2 ho1 ho2 hx2
  · intro u hu
    show (if u = 0 then 1 else 3) < 4
    split <;> omega

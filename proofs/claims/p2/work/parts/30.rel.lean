abbrev Rl : Type := Nat → Nat → Prop
def rl_id : Rl := fun i j => i = j
def rl_no : Rl := fun _ _ => False
def rl_seq (a b : Rl) : Rl := fun i j => ∃ k, a i k ∧ b k j
def rl_or (a b : Rl) : Rl := fun i j => a i j ∨ b i j
def rl_it (a : Rl) : Nat → Nat → Nat → Prop
  | 0, i, j => i = j
  | n + 1, i, j => ∃ k, a i k ∧ rl_it a n k j
def rl_st (a : Rl) : Rl := fun i j => ∃ n, rl_it a n i j
theorem rl_st.nil {a : Rl} (i : Nat) : rl_st a i i := ⟨0, rfl⟩
theorem rl_st.cons {a : Rl} {i k j : Nat} (h : a i k) (h2 : rl_st a k j) : rl_st a i j := by
  obtain ⟨n, h2⟩ := h2
  exact ⟨n + 1, k, h, h2⟩
theorem rl_st.ind {a : Rl} {motive : (i j : Nat) → rl_st a i j → Prop} (nil : ∀ i : Nat, motive i i (rl_st.nil i)) (cons : ∀ {i k j : Nat} (h : a i k) (h2 : rl_st a k j), motive k j h2 → motive i j (rl_st.cons h h2)) {i j : Nat} (h : rl_st a i j) : motive i j h := by
  have key : ∀ n i j (h : rl_it a n i j), motive i j ⟨n, h⟩ := by
    intro n
    induction n with
    | zero => intro i j h; cases h; exact nil i
    | succ n ih =>
      intro i j h
      obtain ⟨k, h1, h2⟩ := h
      exact cons h1 ⟨n, h2⟩ (ih k j h2)
  obtain ⟨n, h⟩ := h
  exact key n i j h
theorem rl_st.inv {a : Rl} {i j : Nat} (h : rl_st a i j) : i = j ∨ ∃ k, a i k ∧ rl_st a k j := by
  obtain ⟨n, h⟩ := h
  cases n with
  | zero => exact Or.inl h
  | succ n =>
    obtain ⟨k, h1, h2⟩ := h
    exact Or.inr ⟨k, h1, n, h2⟩
theorem rl_seq_id (a : Rl) : rl_seq a rl_id = a := by
  funext i j; apply propext; constructor
  · rintro ⟨k, h, e⟩; cases e; exact h
  · intro h; exact ⟨j, h, rfl⟩
theorem rl_id_seq (a : Rl) : rl_seq rl_id a = a := by
  funext i j; apply propext; constructor
  · rintro ⟨k, e, h⟩; cases e; exact h
  · intro h; exact ⟨i, rfl, h⟩
theorem rl_seq_assoc (a b c : Rl) : rl_seq (rl_seq a b) c = rl_seq a (rl_seq b c) := by
  funext i j; apply propext; constructor
  · rintro ⟨k, ⟨m, h1, h2⟩, h3⟩; exact ⟨m, h1, k, h2, h3⟩
  · rintro ⟨m, h1, k, h2, h3⟩; exact ⟨k, ⟨m, h1, h2⟩, h3⟩
theorem rl_st.snoc {a : Rl} {i k j : Nat} (h : rl_st a i k) (h2 : a k j) : rl_st a i j := by
  induction h using rl_st.ind with
  | nil i => exact .cons h2 (.nil _)
  | cons h1 _ ih => exact .cons h1 (ih h2)
theorem rl_st.trans {a : Rl} {i k j : Nat} (h : rl_st a i k) (h2 : rl_st a k j) : rl_st a i j := by
  induction h using rl_st.ind with
  | nil i => exact h2
  | cons h1 _ ih => exact .cons h1 (ih h2)
/-- the three repetitions: leave (may be none), again (may be more than one) -/
def rl_times (leave again : Bool) (a : Rl) : Rl := fun i j => (leave = true ∧ i = j) ∨ ∃ k, a i k ∧ ((again = true ∧ rl_st a k j) ∨ (again = false ∧ k = j))
theorem rl_times_star (a : Rl) : rl_times true true a = rl_st a := by
  funext i j; apply propext; constructor
  · rintro (⟨_, e⟩ | ⟨k, h, (⟨_, h2⟩ | ⟨e, _⟩)⟩)
    · cases e; exact .nil _
    · exact .cons h h2
    · cases e
  · intro h
    rcases h.inv with e | ⟨k, h1, h2⟩
    · exact Or.inl ⟨rfl, e⟩
    · exact Or.inr ⟨_, h1, Or.inl ⟨rfl, h2⟩⟩
theorem rl_times_plus (a : Rl) : rl_times false true a = rl_seq a (rl_st a) := by
  funext i j; apply propext; constructor
  · rintro (⟨e, _⟩ | ⟨k, h, (⟨_, h2⟩ | ⟨e, _⟩)⟩)
    · cases e
    · exact ⟨k, h, h2⟩
    · cases e
  · rintro ⟨k, h, h2⟩; exact Or.inr ⟨k, h, Or.inl ⟨rfl, h2⟩⟩
theorem rl_times_opt (a : Rl) : rl_times true false a = rl_or rl_id a := by
  funext i j; apply propext; constructor
  · rintro (⟨_, e⟩ | ⟨k, h, (⟨e, _⟩ | ⟨_, e⟩)⟩)
    · exact Or.inl e
    · cases e
    · cases e; exact Or.inr h
  · rintro (e | h)
    · exact Or.inl ⟨rfl, e⟩
    · exact Or.inr ⟨j, h, Or.inr ⟨rfl, rfl⟩⟩

/-- ways through a graph: from node u at place i to node w at place j -/
def Pn (e : Nat → Nat → Prop) (lab : Nat → Rl) : Nat → Nat → Nat → Nat → Nat → Prop
  | 0, u, i, w, j => u = w ∧ i = j
  | n + 1, u, i, w, j => ∃ v k, e u v ∧ lab u i k ∧ Pn e lab n v k w j
def Pa (e : Nat → Nat → Prop) (lab : Nat → Rl) (u i w j : Nat) : Prop := ∃ n, Pn e lab n u i w j
theorem Pa.nil {e : Nat → Nat → Prop} {lab : Nat → Rl} (u i : Nat) : Pa e lab u i u i := ⟨0, rfl, rfl⟩
theorem Pa.cons {e : Nat → Nat → Prop} {lab : Nat → Rl} {u i v k w j : Nat} (a : e u v) (b : lab u i k) (p : Pa e lab v k w j) : Pa e lab u i w j := by
  obtain ⟨n, p⟩ := p
  exact ⟨n + 1, v, k, a, b, p⟩
theorem Pa.ind {e : Nat → Nat → Prop} {lab : Nat → Rl} {motive : (u i w j : Nat) → Pa e lab u i w j → Prop} (nil : ∀ u i : Nat, motive u i u i (Pa.nil u i)) (cons : ∀ {u i v k w j : Nat} (a : e u v) (b : lab u i k) (p : Pa e lab v k w j), motive v k w j p → motive u i w j (Pa.cons a b p)) {u i w j : Nat} (h : Pa e lab u i w j) : motive u i w j h := by
  have key : ∀ n u i w j (h : Pn e lab n u i w j), motive u i w j ⟨n, h⟩ := by
    intro n
    induction n with
    | zero =>
      intro u i w j h
      obtain ⟨h1, h2⟩ := h
      subst h1; subst h2
      exact nil u i
    | succ n ih =>
      intro u i w j h
      obtain ⟨v, k, a, b, p⟩ := h
      exact cons a b ⟨n, p⟩ (ih v k w j p)
  obtain ⟨n, h⟩ := h
  exact key n u i w j h
theorem Pa.trans {e : Nat → Nat → Prop} {lab : Nat → Rl} {u i v k w j : Nat} (h : Pa e lab u i v k) (h2 : Pa e lab v k w j) : Pa e lab u i w j := by
  induction h using Pa.ind with
  | nil => exact h2
  | cons a b _ ih => exact .cons a b (ih h2)
theorem Pa.one {e : Nat → Nat → Prop} {lab : Nat → Rl} {u i v k : Nat} (h : e u v) (h2 : lab u i k) : Pa e lab u i v k := .cons h h2 (.nil _ _)
theorem Pa.snoc {e : Nat → Nat → Prop} {lab : Nat → Rl} {u i v k w j : Nat} (h : Pa e lab u i v k) (h1 : e v w) (h2 : lab v k j) : Pa e lab u i w j := h.trans (.one h1 h2)
theorem Pa.mono {e e' : Nat → Nat → Prop} {lab lab' : Nat → Rl} {U : Nat → Prop} (hc : ∀ u v, U u → e u v → U v) (he : ∀ u v, U u → e u v → e' u v) (hl : ∀ u i j, U u → lab u i j → lab' u i j)
    {u i w j : Nat} (hu : U u) (h : Pa e lab u i w j) : Pa e' lab' u i w j := by
  induction h using Pa.ind with
  | nil => exact .nil _ _
  | cons a b _ ih => exact .cons (he _ _ hu a) (hl _ _ _ hu b) (ih (hc _ _ hu a))

/-- a fragment: its nodes U, its head, its tail, and what lies between entering the head and leaving the tail -/
abbrev Fr (e : Nat → Nat → Prop) (lab : Nat → Rl) (U : Nat → Prop) (h t : Nat) (R : Rl) : Prop := (U h) ∧ (U t) ∧ (∀ u v, U u → e u v → U v) ∧ (∃ D : Nat → Rl, (∀ i j, D h i j → R i j) ∧ (∀ i j, lab t i j → D t i j) ∧ ∀ u v i k j, U u → e u v → lab u i k → D v k j → D u i j) ∧ (∀ i j, R i j → ∃ k, Pa e lab h i t k ∧ lab t k j)
theorem Fr.hU {e : Nat → Nat → Prop} {lab : Nat → Rl} {U : Nat → Prop} {h t : Nat} {R : Rl} (h_ : Fr e lab U h t R) : U h := h_.1
theorem Fr.tU {e : Nat → Nat → Prop} {lab : Nat → Rl} {U : Nat → Prop} {h t : Nat} {R : Rl} (h_ : Fr e lab U h t R) : U t := h_.2.1
theorem Fr.cl {e : Nat → Nat → Prop} {lab : Nat → Rl} {U : Nat → Prop} {h t : Nat} {R : Rl} (h_ : Fr e lab U h t R) : ∀ u v, U u → e u v → U v := h_.2.2.1
theorem Fr.so {e : Nat → Nat → Prop} {lab : Nat → Rl} {U : Nat → Prop} {h t : Nat} {R : Rl} (h_ : Fr e lab U h t R) : ∃ D : Nat → Rl, (∀ i j, D h i j → R i j) ∧ (∀ i j, lab t i j → D t i j) ∧ ∀ u v i k j, U u → e u v → lab u i k → D v k j → D u i j := h_.2.2.2.1
theorem Fr.co {e : Nat → Nat → Prop} {lab : Nat → Rl} {U : Nat → Prop} {h t : Nat} {R : Rl} (h_ : Fr e lab U h t R) : ∀ i j, R i j → ∃ k, Pa e lab h i t k ∧ lab t k j := h_.2.2.2.2
theorem Fr.congr {e e' : Nat → Nat → Prop} {lab lab' : Nat → Rl} {U U' : Nat → Prop} {h t : Nat} {R : Rl} (F : Fr e lab U h t R) (hU : ∀ u, U u ↔ U' u) (he : ∀ u v, U u → (e u v ↔ e' u v)) (hl : ∀ u, U u → lab u = lab' u) : Fr e' lab' U' h t R := by
  have hUe : U = U' := funext fun u => propext (hU u)
  subst hUe
  refine ⟨F.hU, F.tU, fun u v hu h => F.cl u v hu ((he u v hu).mpr h), ?_, ?_⟩
  · obtain ⟨D, h1, h2, h3⟩ := F.so
    exact ⟨D, h1, fun i j hh => h2 i j (by rw [hl t F.tU]; exact hh), fun u v i k j hu ha hb hd => h3 u v i k j hu ((he u v hu).mpr ha) (by rw [hl u hu]; exact hb) hd⟩
  · intro i j hr
    obtain ⟨k, hp, hq⟩ := F.co i j hr
    exact ⟨k, hp.mono F.cl (fun u v hu => (he u v hu).mp) (fun u i j hu hh => by rw [← hl u hu]; exact hh) F.hU, by rw [← hl t F.tU]; exact hq⟩
/-- a node alone -/
theorem Fr.node {e : Nat → Nat → Prop} {lab : Nat → Rl} {U : Nat → Prop} {a : Nat} (hU : ∀ u, U u ↔ u = a) (he : ∀ v, ¬ e a v) : Fr e lab U a a (lab a) := by
  refine ⟨(hU a).mpr rfl, (hU a).mpr rfl, fun u v hu h => ?_, ⟨fun _ => lab a, fun i j h => h, fun i j h => h, fun u v i k j hu h => ?_⟩, fun i j h => ⟨i, .nil _ _, h⟩⟩
  · rw [(hU u).mp hu] at h; exact (he v h).elim
  · rw [(hU u).mp hu] at h; exact (he v h).elim
/-- one behind the other -/
theorem Fr.seq {e e1 e2 : Nat → Nat → Prop} {lab : Nat → Rl} {U1 U2 U : Nat → Prop} {h1 t1 h2 t2 : Nat} {R1 R2 : Rl} (F1 : Fr e1 lab U1 h1 t1 R1) (F2 : Fr e2 lab U2 h2 t2 R2)
    (hd : ∀ u, U1 u → ¬ U2 u) (hU : ∀ u, U u ↔ U1 u ∨ U2 u) (he1 : ∀ u v, U1 u → (e u v ↔ e1 u v ∨ (u = t1 ∧ v = h2))) (he2 : ∀ u v, U2 u → (e u v ↔ e2 u v)) : Fr e lab U h1 t2 (rl_seq R1 R2) := by
  refine ⟨(hU _).mpr (Or.inl F1.hU), (hU _).mpr (Or.inr F2.tU), fun u v hu h => ?_, ?_, ?_⟩
  · rcases (hU u).mp hu with hu | hu
    · rcases (he1 u v hu).mp h with h | ⟨_, h⟩
      · exact (hU v).mpr (Or.inl (F1.cl u v hu h))
      · rw [h]; exact (hU _).mpr (Or.inr F2.hU)
    · exact (hU v).mpr (Or.inr (F2.cl u v hu ((he2 u v hu).mp h)))
  · obtain ⟨D1, a1, b1, c1⟩ := F1.so
    obtain ⟨D2, a2, b2, c2⟩ := F2.so
    refine ⟨fun u i j => (U1 u ∧ ∃ k, D1 u i k ∧ D2 h2 k j) ∨ (U2 u ∧ D2 u i j), ?_, ?_, ?_⟩
    · rintro i j (⟨_, k, p, q⟩ | ⟨p, _⟩)
      · exact ⟨k, a1 _ _ p, a2 _ _ q⟩
      · exact (hd _ F1.hU p).elim
    · intro i j h; exact Or.inr ⟨F2.tU, b2 i j h⟩
    · intro u v i k j hu h hl hD
      rcases (hU u).mp hu with hu | hu
      · refine Or.inl ⟨hu, ?_⟩
        rcases (he1 u v hu).mp h with h | ⟨p, q⟩
        · have hv := F1.cl u v hu h
          rcases hD with ⟨_, m, x, y⟩ | ⟨x, _⟩
          · exact ⟨m, c1 u v i k m hu h hl x, y⟩
          · exact (hd _ hv x).elim
        · subst p; subst q
          rcases hD with ⟨x, _⟩ | ⟨_, x⟩
          · exact (hd _ x F2.hU).elim
          · exact ⟨k, b1 _ _ hl, x⟩
      · refine Or.inr ⟨hu, ?_⟩
        have h' := (he2 u v hu).mp h
        have hv := F2.cl u v hu h'
        rcases hD with ⟨x, _⟩ | ⟨_, x⟩
        · exact (hd _ x hv).elim
        · exact c2 u v i k j hu h' hl x
  · rintro i j ⟨m, r1, r2⟩
    obtain ⟨k1, p1, l1⟩ := F1.co _ _ r1
    obtain ⟨k2, p2, l2⟩ := F2.co _ _ r2
    refine ⟨k2, ?_, l2⟩
    have q1 : Pa e lab h1 i t1 k1 := p1.mono F1.cl (fun u v hu h => (he1 u v hu).mpr (Or.inl h)) (fun _ _ _ _ h => h) F1.hU
    have q2 : Pa e lab h2 m t2 k2 := p2.mono F2.cl (fun u v hu h => (he2 u v hu).mpr h) (fun _ _ _ _ h => h) F2.hU
    exact (q1.snoc ((he1 _ _ F1.tU).mpr (Or.inr ⟨rfl, rfl⟩)) l1).trans q2
/-- repetition with a fresh fork behind the fragment: the fork leads back (other) and on (next: not counted) -/
theorem Fr.loop {e e1 : Nat → Nat → Prop} {lab : Nat → Rl} {U1 U : Nat → Prop} {h1 t1 f : Nat} {R1 : Rl} (F1 : Fr e1 lab U1 h1 t1 R1) (hf : ¬ U1 f) (hlf : lab f = rl_id)
    (hU : ∀ u, U u ↔ U1 u ∨ u = f) (he1 : ∀ u v, U1 u → (e u v ↔ e1 u v ∨ (u = t1 ∧ v = f))) (hef : ∀ v, e f v ↔ v = h1) :
    Fr e lab U f f (rl_st R1) ∧ Fr e lab U h1 f (rl_seq R1 (rl_st R1)) := by
  have hcl : ∀ u v, U u → e u v → U v := by
    intro u v hu h
    rcases (hU u).mp hu with hu | hu
    · rcases (he1 u v hu).mp h with h | ⟨_, h⟩
      · exact (hU v).mpr (Or.inl (F1.cl u v hu h))
      · exact (hU v).mpr (Or.inr h)
    · rw [hu] at h; rw [(hef v).mp h]; exact (hU _).mpr (Or.inl F1.hU)
  obtain ⟨D1, a1, b1, c1⟩ := F1.so
  have hso : ∃ D : Nat → Rl, (∀ i j, D f i j → rl_st R1 i j) ∧ (∀ i j, D h1 i j → rl_seq R1 (rl_st R1) i j) ∧ (∀ i j, lab f i j → D f i j) ∧ ∀ u v i k j, U u → e u v → lab u i k → D v k j → D u i j := by
    refine ⟨fun u i j => (U1 u ∧ ∃ k, D1 u i k ∧ rl_st R1 k j) ∨ (u = f ∧ rl_st R1 i j), ?_, ?_, ?_, ?_⟩
    · rintro i j (⟨h, _⟩ | ⟨_, h⟩)
      · exact (hf h).elim
      · exact h
    · rintro i j (⟨_, k, p, q⟩ | ⟨p, _⟩)
      · exact ⟨k, a1 _ _ p, q⟩
      · exact (hf (p ▸ F1.hU)).elim
    · intro i j h; rw [hlf] at h; cases h; exact Or.inr ⟨rfl, .nil _⟩
    · intro u v i k j hu h hl hD
      rcases (hU u).mp hu with hu | hu
      · refine Or.inl ⟨hu, ?_⟩
        rcases (he1 u v hu).mp h with h | ⟨p, q⟩
        · have hv := F1.cl u v hu h
          rcases hD with ⟨_, m, x, y⟩ | ⟨x, _⟩
          · exact ⟨m, c1 u v i k m hu h hl x, y⟩
          · exact (hf (x ▸ hv)).elim
        · subst p; subst q
          rcases hD with ⟨x, _⟩ | ⟨_, x⟩
          · exact (hf x).elim
          · exact ⟨k, b1 _ _ hl, x⟩
      · subst hu
        rw [hlf] at hl; cases hl
        rw [(hef v).mp h] at hD
        refine Or.inr ⟨rfl, ?_⟩
        rcases hD with ⟨_, m, x, y⟩ | ⟨x, _⟩
        · exact .cons (a1 _ _ x) y
        · exact (hf (x ▸ F1.hU)).elim
  obtain ⟨D, d1, d2, d3, d4⟩ := hso
  have hback : ∀ i j, R1 i j → Pa e lab h1 i f j := by
    intro i j r
    obtain ⟨k1, p1, l1⟩ := F1.co _ _ r
    have q1 : Pa e lab h1 i t1 k1 := p1.mono F1.cl (fun u v hu h => (he1 u v hu).mpr (Or.inl h)) (fun _ _ _ _ h => h) F1.hU
    exact q1.snoc ((he1 _ _ F1.tU).mpr (Or.inr ⟨rfl, rfl⟩)) l1
  have hst : ∀ i j, rl_st R1 i j → Pa e lab f i f j := by
    intro i j r
    induction r using rl_st.ind with
    | nil i => exact .nil _ _
    | cons a _ ih => exact .cons ((hef _).mpr rfl) (by rw [hlf]; rfl) ((hback _ _ a).trans ih)
  refine ⟨⟨(hU _).mpr (Or.inr rfl), (hU _).mpr (Or.inr rfl), hcl, ⟨D, d1, d3, d4⟩, ?_⟩, ⟨(hU _).mpr (Or.inl F1.hU), (hU _).mpr (Or.inr rfl), hcl, ⟨D, d2, d3, d4⟩, ?_⟩⟩
  · intro i j r; exact ⟨j, hst i j r, by rw [hlf]; rfl⟩
  · rintro i j ⟨m, r1, r2⟩; exact ⟨j, (hback _ _ r1).trans (hst _ _ r2), by rw [hlf]; rfl⟩
/-- a fresh node before and a fresh one behind: a to the head, the tail to b; a to b (leave); the tail to the head (again) -/
theorem Fr.around {e e1 : Nat → Nat → Prop} {lab : Nat → Rl} {U1 U : Nat → Prop} {h1 t1 a b : Nat} {R1 : Rl} (F1 : Fr e1 lab U1 h1 t1 R1) (leave again : Bool) (ha : ¬ U1 a) (hb : ¬ U1 b) (hab : a ≠ b) (hla : lab a = rl_id) (hlb : lab b = rl_id)
    (hU : ∀ u, U u ↔ U1 u ∨ u = a ∨ u = b) (he1 : ∀ u v, U1 u → (e u v ↔ e1 u v ∨ (u = t1 ∧ (v = b ∨ (again = true ∧ v = h1))))) (hea : ∀ v, e a v ↔ v = h1 ∨ (leave = true ∧ v = b)) (heb : ∀ v, ¬ e b v) :
    Fr e lab U a b (rl_times leave again R1) := by
  obtain ⟨D1, a1, b1, c1⟩ := F1.so
  have hUa : U a := (hU _).mpr (Or.inr (Or.inl rfl))
  have hUb : U b := (hU _).mpr (Or.inr (Or.inr rfl))
  have hUh : U h1 := (hU _).mpr (Or.inl F1.hU)
  refine ⟨hUa, hUb, ?_, ⟨fun u i j => (U1 u ∧ ∃ k, D1 u i k ∧ ((again = true ∧ rl_st R1 k j) ∨ (again = false ∧ k = j))) ∨ (u = a ∧ rl_times leave again R1 i j) ∨ (u = b ∧ i = j), ?_, ?_, ?_⟩, ?_⟩
  · intro u v hu h
    rcases (hU u).mp hu with hu | hu | hu
    · rcases (he1 u v hu).mp h with h | ⟨_, h | ⟨_, h⟩⟩
      · exact (hU v).mpr (Or.inl (F1.cl u v hu h))
      · rw [h]; exact hUb
      · rw [h]; exact hUh
    · rw [hu] at h
      rcases (hea v).mp h with h | ⟨_, h⟩
      · rw [h]; exact hUh
      · rw [h]; exact hUb
    · rw [hu] at h; exact (heb v h).elim
  · rintro i j (⟨h, _⟩ | ⟨_, h⟩ | ⟨h, _⟩)
    · exact (ha h).elim
    · exact h
    · exact (hab h).elim
  · intro i j h; rw [hlb] at h; exact Or.inr (Or.inr ⟨rfl, h⟩)
  · intro u v i k j hu h hl hD
    rcases (hU u).mp hu with hu | hu | hu
    · refine Or.inl ⟨hu, ?_⟩
      rcases (he1 u v hu).mp h with h | ⟨p, q | ⟨q0, q⟩⟩
      · have hv := F1.cl u v hu h
        rcases hD with ⟨_, m, x, y⟩ | ⟨x, _⟩ | ⟨x, _⟩
        · exact ⟨m, c1 u v i k m hu h hl x, y⟩
        · exact (ha (x ▸ hv)).elim
        · exact (hb (x ▸ hv)).elim
      · subst p; subst q
        rcases hD with ⟨x, _⟩ | ⟨x, _⟩ | ⟨_, x⟩
        · exact (hb x).elim
        · exact (hab x.symm).elim
        · subst x
          refine ⟨k, b1 _ _ hl, ?_⟩
          cases again
          · exact Or.inr ⟨rfl, rfl⟩
          · exact Or.inl ⟨rfl, .nil _⟩
      · subst p; subst q
        rcases hD with ⟨_, m, x, y⟩ | ⟨x, _⟩ | ⟨x, _⟩
        · refine ⟨k, b1 _ _ hl, Or.inl ⟨q0, ?_⟩⟩
          rcases y with ⟨_, y⟩ | ⟨y, _⟩
          · exact .cons (a1 _ _ x) y
          · rw [q0] at y; cases y
        · exact (ha (x ▸ F1.hU)).elim
        · exact (hb (x ▸ F1.hU)).elim
    · subst hu
      rw [hla] at hl; cases hl
      refine Or.inr (Or.inl ⟨rfl, ?_⟩)
      rcases (hea v).mp h with q | ⟨q0, q⟩
      · subst q
        rcases hD with ⟨_, m, x, y⟩ | ⟨x, _⟩ | ⟨x, _⟩
        · exact Or.inr ⟨m, a1 _ _ x, y⟩
        · exact (ha (x ▸ F1.hU)).elim
        · exact (hb (x ▸ F1.hU)).elim
      · subst q
        rcases hD with ⟨x, _⟩ | ⟨x, _⟩ | ⟨_, x⟩
        · exact (hb x).elim
        · exact (hab x.symm).elim
        · exact Or.inl ⟨q0, x⟩
    · rw [hu] at h; exact (heb v h).elim
  · have hback : ∀ i j, R1 i j → ∃ k, Pa e lab h1 i t1 k ∧ lab t1 k j := by
      intro i j r
      obtain ⟨k1, p1, l1⟩ := F1.co _ _ r
      exact ⟨k1, p1.mono F1.cl (fun u v hu h => (he1 u v hu).mpr (Or.inl h)) (fun _ _ _ _ h => h) F1.hU, l1⟩
    have hx : ∀ i j, R1 i j → Pa e lab h1 i b j := by
      intro i j r
      obtain ⟨k, p, l⟩ := hback i j r
      exact p.snoc ((he1 _ _ F1.tU).mpr (Or.inr ⟨rfl, Or.inl rfl⟩)) l
    have hst : again = true → ∀ k j, rl_st R1 k j → ∀ i, R1 i k → Pa e lab h1 i b j := by
      intro hg k j r
      induction r using rl_st.ind with
      | nil => exact fun i => hx i _
      | cons r1 _ ih =>
        intro i' r'
        obtain ⟨m, p, l⟩ := hback _ _ r'
        exact (p.snoc ((he1 _ _ F1.tU).mpr (Or.inr ⟨rfl, Or.inr ⟨hg, rfl⟩⟩)) l).trans (ih _ r1)
    intro i j r
    refine ⟨j, ?_, by rw [hlb]; rfl⟩
    rcases r with ⟨q0, q⟩ | ⟨k, r, (⟨q0, y⟩ | ⟨q0, y⟩)⟩
    · subst q; exact .one ((hea b).mpr (Or.inr ⟨q0, rfl⟩)) (by rw [hla]; rfl)
    · exact .cons ((hea h1).mpr (Or.inl rfl)) (by rw [hla]; rfl) (hst q0 k j y i r)
    · subst y; exact .cons ((hea h1).mpr (Or.inl rfl)) (by rw [hla]; rfl) (hx i k r)
/-- the reference's choice of two -/
theorem Fr.alt {e e1 e2 : Nat → Nat → Prop} {lab : Nat → Rl} {U1 U2 U : Nat → Prop} {h1 t1 h2 t2 a b : Nat} {R1 R2 : Rl} (F1 : Fr e1 lab U1 h1 t1 R1) (F2 : Fr e2 lab U2 h2 t2 R2)
    (hd : ∀ u, U1 u → ¬ U2 u) (ha1 : ¬ U1 a) (ha2 : ¬ U2 a) (hb1 : ¬ U1 b) (hb2 : ¬ U2 b) (hab : a ≠ b) (hla : lab a = rl_id) (hlb : lab b = rl_id) (hU : ∀ u, U u ↔ U1 u ∨ U2 u ∨ u = a ∨ u = b)
    (he1 : ∀ u v, U1 u → (e u v ↔ e1 u v ∨ (u = t1 ∧ v = b))) (he2 : ∀ u v, U2 u → (e u v ↔ e2 u v ∨ (u = t2 ∧ v = b))) (hea : ∀ v, e a v ↔ v = h1 ∨ v = h2) (heb : ∀ v, ¬ e b v) :
    Fr e lab U a b (rl_or R1 R2) := by
  obtain ⟨D1, a1, b1, c1⟩ := F1.so
  obtain ⟨D2, a2, b2, c2⟩ := F2.so
  have hUa : U a := (hU _).mpr (Or.inr (Or.inr (Or.inl rfl)))
  have hUb : U b := (hU _).mpr (Or.inr (Or.inr (Or.inr rfl)))
  refine ⟨hUa, hUb, ?_, ⟨fun u i j => (U1 u ∧ D1 u i j) ∨ (U2 u ∧ D2 u i j) ∨ (u = a ∧ rl_or R1 R2 i j) ∨ (u = b ∧ i = j), ?_, ?_, ?_⟩, ?_⟩
  · intro u v hu h
    rcases (hU u).mp hu with hu | hu | hu | hu
    · rcases (he1 u v hu).mp h with h | ⟨_, h⟩
      · exact (hU v).mpr (Or.inl (F1.cl u v hu h))
      · rw [h]; exact hUb
    · rcases (he2 u v hu).mp h with h | ⟨_, h⟩
      · exact (hU v).mpr (Or.inr (Or.inl (F2.cl u v hu h)))
      · rw [h]; exact hUb
    · rw [hu] at h
      rcases (hea v).mp h with h | h
      · rw [h]; exact (hU _).mpr (Or.inl F1.hU)
      · rw [h]; exact (hU _).mpr (Or.inr (Or.inl F2.hU))
    · rw [hu] at h; exact (heb v h).elim
  · rintro i j (⟨h, _⟩ | ⟨h, _⟩ | ⟨_, h⟩ | ⟨h, _⟩)
    · exact (ha1 h).elim
    · exact (ha2 h).elim
    · exact h
    · exact (hab h).elim
  · intro i j h; rw [hlb] at h; exact Or.inr (Or.inr (Or.inr ⟨rfl, h⟩))
  · intro u v i k j hu h hl hD
    rcases (hU u).mp hu with hu | hu | hu | hu
    · refine Or.inl ⟨hu, ?_⟩
      rcases (he1 u v hu).mp h with h | ⟨p, q⟩
      · have hv := F1.cl u v hu h
        rcases hD with ⟨_, x⟩ | ⟨x, _⟩ | ⟨x, _⟩ | ⟨x, _⟩
        · exact c1 u v i k j hu h hl x
        · exact (hd _ hv x).elim
        · exact (ha1 (x ▸ hv)).elim
        · exact (hb1 (x ▸ hv)).elim
      · subst p; subst q
        rcases hD with ⟨x, _⟩ | ⟨x, _⟩ | ⟨x, _⟩ | ⟨_, x⟩
        · exact (hb1 x).elim
        · exact (hb2 x).elim
        · exact (hab x.symm).elim
        · subst x; exact b1 _ _ hl
    · refine Or.inr (Or.inl ⟨hu, ?_⟩)
      rcases (he2 u v hu).mp h with h | ⟨p, q⟩
      · have hv := F2.cl u v hu h
        rcases hD with ⟨x, _⟩ | ⟨_, x⟩ | ⟨x, _⟩ | ⟨x, _⟩
        · exact (hd _ x hv).elim
        · exact c2 u v i k j hu h hl x
        · exact (ha2 (x ▸ hv)).elim
        · exact (hb2 (x ▸ hv)).elim
      · subst p; subst q
        rcases hD with ⟨x, _⟩ | ⟨x, _⟩ | ⟨x, _⟩ | ⟨_, x⟩
        · exact (hb1 x).elim
        · exact (hb2 x).elim
        · exact (hab x.symm).elim
        · subst x; exact b2 _ _ hl
    · subst hu
      rw [hla] at hl; cases hl
      refine Or.inr (Or.inr (Or.inl ⟨rfl, ?_⟩))
      rcases (hea v).mp h with q | q
      · subst q
        rcases hD with ⟨_, x⟩ | ⟨x, _⟩ | ⟨x, _⟩ | ⟨x, _⟩
        · exact Or.inl (a1 _ _ x)
        · exact (hd _ F1.hU x).elim
        · exact (ha1 (x ▸ F1.hU)).elim
        · exact (hb1 (x ▸ F1.hU)).elim
      · subst q
        rcases hD with ⟨x, _⟩ | ⟨_, x⟩ | ⟨x, _⟩ | ⟨x, _⟩
        · exact (hd _ x F2.hU).elim
        · exact Or.inr (a2 _ _ x)
        · exact (ha2 (x ▸ F2.hU)).elim
        · exact (hb2 (x ▸ F2.hU)).elim
    · rw [hu] at h; exact (heb v h).elim
  · rintro i j (r | r)
    · obtain ⟨k1, p1, l1⟩ := F1.co _ _ r
      have q1 : Pa e lab h1 i t1 k1 := p1.mono F1.cl (fun u v hu h => (he1 u v hu).mpr (Or.inl h)) (fun _ _ _ _ h => h) F1.hU
      exact ⟨j, .cons ((hea h1).mpr (Or.inl rfl)) (by rw [hla]; rfl) (q1.snoc ((he1 _ _ F1.tU).mpr (Or.inr ⟨rfl, rfl⟩)) l1), by rw [hlb]; rfl⟩
    · obtain ⟨k1, p1, l1⟩ := F2.co _ _ r
      have q1 : Pa e lab h2 i t2 k1 := p1.mono F2.cl (fun u v hu h => (he2 u v hu).mpr (Or.inl h)) (fun _ _ _ _ h => h) F2.hU
      exact ⟨j, .cons ((hea h2).mpr (Or.inr rfl)) (by rw [hla]; rfl) (q1.snoc ((he2 _ _ F2.tU).mpr (Or.inr ⟨rfl, rfl⟩)) l1), by rw [hlb]; rfl⟩
/-- a fragment whose tail lets pass: its relation is reaching the tail -/
theorem Fr.iff {e : Nat → Nat → Prop} {lab : Nat → Rl} {U : Nat → Prop} {h t : Nat} {R : Rl} (F : Fr e lab U h t R) (hl : lab t = rl_id) (i j : Nat) : R i j ↔ Pa e lab h i t j := by
  constructor
  · intro r
    obtain ⟨k, p, q⟩ := F.co i j r
    rw [hl] at q; cases q; exact p
  · intro p
    obtain ⟨D, a, b, c⟩ := F.so
    apply a
    have key : ∀ u i w j, Pa e lab u i w j → w = t → U u → D u i j := by
      intro u i w j p
      induction p using Pa.ind with
      | nil u i => intro hw _; subst hw; exact b _ _ (by rw [hl]; rfl)
      | cons x y _ ih => intro hw hu; exact c _ _ _ _ _ hu x y (ih hw (F.cl _ _ hu x))
    exact key h i t j p rfl F.hU

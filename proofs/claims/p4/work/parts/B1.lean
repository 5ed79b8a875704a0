-- 30.rel
abbrev Rl : Type := Nat → Nat → Prop
def rl_id : Rl := fun i j => i = j
def rl_no : Rl := fun _ _ => False
def rl_seq (a b : Rl) : Rl := fun i j => ∃ k, a i k ∧ b k j
def rl_or (a b : Rl) : Rl := fun i j => a i j ∨ b i j
def rl_it (a : Rl) : Nat → Nat → Nat → Prop
  | 0, i, j => i = j
  | n + 1, i, j => ∃ k, a i k ∧ rl_it a n k j
def rl_st (a : Rl) : Rl := fun i j => ∃ n, rl_it a n i j
theorem rl_st.nil {a : Rl} (i : Nat) : rl_st a i i := ⟨0, rfl⟩
theorem rl_st.cons {a : Rl} {i k j : Nat} (h : a i k) (h2 : rl_st a k j) : rl_st a i j := by
  obtain ⟨n, h2⟩ := h2
  exact ⟨n + 1, k, h, h2⟩
theorem rl_st.ind {a : Rl} {motive : (i j : Nat) → rl_st a i j → Prop} (nil : ∀ i : Nat, motive i i (rl_st.nil i)) (cons : ∀ {i k j : Nat} (h : a i k) (h2 : rl_st a k j), motive k j h2 → motive i j (rl_st.cons h h2)) {i j : Nat} (h : rl_st a i j) : motive i j h := by
  have key : ∀ n i j (h : rl_it a n i j), motive i j ⟨n, h⟩ := by
    intro n
    induction n with
    | zero => intro i j h; cases h; exact nil i
    | succ n ih =>
      intro i j h
      obtain ⟨k, h1, h2⟩ := h
      exact cons h1 ⟨n, h2⟩ (ih k j h2)
  obtain ⟨n, h⟩ := h
  exact key n i j h
theorem rl_st.inv {a : Rl} {i j : Nat} (h : rl_st a i j) : i = j ∨ ∃ k, a i k ∧ rl_st a k j := by
  obtain ⟨n, h⟩ := h
  cases n with
  | zero => exact Or.inl h
  | succ n =>
    obtain ⟨k, h1, h2⟩ := h
    exact Or.inr ⟨k, h1, n, h2⟩
theorem rl_seq_id (a : Rl) : rl_seq a rl_id = a := by
  funext i j; apply propext; constructor
  · rintro ⟨k, h, e⟩; cases e; exact h
  · intro h; exact ⟨j, h, rfl⟩
theorem rl_id_seq (a : Rl) : rl_seq rl_id a = a := by
  funext i j; apply propext; constructor
  · rintro ⟨k, e, h⟩; cases e; exact h
  · intro h; exact ⟨i, rfl, h⟩
theorem rl_seq_assoc (a b c : Rl) : rl_seq (rl_seq a b) c = rl_seq a (rl_seq b c) := by
  funext i j; apply propext; constructor
  · rintro ⟨k, ⟨m, h1, h2⟩, h3⟩; exact ⟨m, h1, k, h2, h3⟩
  · rintro ⟨m, h1, k, h2, h3⟩; exact ⟨k, ⟨m, h1, h2⟩, h3⟩
theorem rl_st.snoc {a : Rl} {i k j : Nat} (h : rl_st a i k) (h2 : a k j) : rl_st a i j := by
  induction h using rl_st.ind with
  | nil i => exact .cons h2 (.nil _)
  | cons h1 _ ih => exact .cons h1 (ih h2)
theorem rl_st.trans {a : Rl} {i k j : Nat} (h : rl_st a i k) (h2 : rl_st a k j) : rl_st a i j := by
  induction h using rl_st.ind with
  | nil i => exact h2
  | cons h1 _ ih => exact .cons h1 (ih h2)
/-- the three repetitions: leave (may be none), again (may be more than one) -/
def rl_times (leave again : Bool) (a : Rl) : Rl := fun i j => (leave = true ∧ i = j) ∨ ∃ k, a i k ∧ ((again = true ∧ rl_st a k j) ∨ (again = false ∧ k = j))
theorem rl_times_star (a : Rl) : rl_times true true a = rl_st a := by
  funext i j; apply propext; constructor
  · rintro (⟨_, e⟩ | ⟨k, h, (⟨_, h2⟩ | ⟨e, _⟩)⟩)
    · cases e; exact .nil _
    · exact .cons h h2
    · cases e
  · intro h
    rcases h.inv with e | ⟨k, h1, h2⟩
    · exact Or.inl ⟨rfl, e⟩
    · exact Or.inr ⟨_, h1, Or.inl ⟨rfl, h2⟩⟩
theorem rl_times_plus (a : Rl) : rl_times false true a = rl_seq a (rl_st a) := by
  funext i j; apply propext; constructor
  · rintro (⟨e, _⟩ | ⟨k, h, (⟨_, h2⟩ | ⟨e, _⟩)⟩)
    · cases e
    · exact ⟨k, h, h2⟩
    · cases e
  · rintro ⟨k, h, h2⟩; exact Or.inr ⟨k, h, Or.inl ⟨rfl, h2⟩⟩
theorem rl_times_opt (a : Rl) : rl_times true false a = rl_or rl_id a := by
  funext i j; apply propext; constructor
  · rintro (⟨_, e⟩ | ⟨k, h, (⟨e, _⟩ | ⟨_, e⟩)⟩)
    · exact Or.inl e
    · cases e
    · cases e; exact Or.inr h
  · rintro (e | h)
    · exact Or.inl ⟨rfl, e⟩
    · exact Or.inr ⟨j, h, Or.inr ⟨rfl, rfl⟩⟩

/-- ways through a graph: from node u at place i to node w at place j -/
def Pn (e : Nat → Nat → Prop) (lab : Nat → Rl) : Nat → Nat → Nat → Nat → Nat → Prop
  | 0, u, i, w, j => u = w ∧ i = j
  | n + 1, u, i, w, j => ∃ v k, e u v ∧ lab u i k ∧ Pn e lab n v k w j
def Pa (e : Nat → Nat → Prop) (lab : Nat → Rl) (u i w j : Nat) : Prop := ∃ n, Pn e lab n u i w j
theorem Pa.nil {e : Nat → Nat → Prop} {lab : Nat → Rl} (u i : Nat) : Pa e lab u i u i := ⟨0, rfl, rfl⟩
theorem Pa.cons {e : Nat → Nat → Prop} {lab : Nat → Rl} {u i v k w j : Nat} (a : e u v) (b : lab u i k) (p : Pa e lab v k w j) : Pa e lab u i w j := by
  obtain ⟨n, p⟩ := p
  exact ⟨n + 1, v, k, a, b, p⟩
theorem Pa.ind {e : Nat → Nat → Prop} {lab : Nat → Rl} {motive : (u i w j : Nat) → Pa e lab u i w j → Prop} (nil : ∀ u i : Nat, motive u i u i (Pa.nil u i)) (cons : ∀ {u i v k w j : Nat} (a : e u v) (b : lab u i k) (p : Pa e lab v k w j), motive v k w j p → motive u i w j (Pa.cons a b p)) {u i w j : Nat} (h : Pa e lab u i w j) : motive u i w j h := by
  have key : ∀ n u i w j (h : Pn e lab n u i w j), motive u i w j ⟨n, h⟩ := by
    intro n
    induction n with
    | zero =>
      intro u i w j h
      obtain ⟨h1, h2⟩ := h
      subst h1; subst h2
      exact nil u i
    | succ n ih =>
      intro u i w j h
      obtain ⟨v, k, a, b, p⟩ := h
      exact cons a b ⟨n, p⟩ (ih v k w j p)
  obtain ⟨n, h⟩ := h
  exact key n u i w j h
theorem Pa.trans {e : Nat → Nat → Prop} {lab : Nat → Rl} {u i v k w j : Nat} (h : Pa e lab u i v k) (h2 : Pa e lab v k w j) : Pa e lab u i w j := by
  induction h using Pa.ind with
  | nil => exact h2
  | cons a b _ ih => exact .cons a b (ih h2)
theorem Pa.one {e : Nat → Nat → Prop} {lab : Nat → Rl} {u i v k : Nat} (h : e u v) (h2 : lab u i k) : Pa e lab u i v k := .cons h h2 (.nil _ _)
theorem Pa.snoc {e : Nat → Nat → Prop} {lab : Nat → Rl} {u i v k w j : Nat} (h : Pa e lab u i v k) (h1 : e v w) (h2 : lab v k j) : Pa e lab u i w j := h.trans (.one h1 h2)
theorem Pa.mono {e e' : Nat → Nat → Prop} {lab lab' : Nat → Rl} {U : Nat → Prop} (hc : ∀ u v, U u → e u v → U v) (he : ∀ u v, U u → e u v → e' u v) (hl : ∀ u i j, U u → lab u i j → lab' u i j)
    {u i w j : Nat} (hu : U u) (h : Pa e lab u i w j) : Pa e' lab' u i w j := by
  induction h using Pa.ind with
  | nil => exact .nil _ _
  | cons a b _ ih => exact .cons (he _ _ hu a) (hl _ _ _ hu b) (ih (hc _ _ hu a))

/-- a fragment: its nodes U, its head, its tail, and what lies between entering the head and leaving the tail -/
abbrev Fr (e : Nat → Nat → Prop) (lab : Nat → Rl) (U : Nat → Prop) (h t : Nat) (R : Rl) : Prop := (U h) ∧ (U t) ∧ (∀ u v, U u → e u v → U v) ∧ (∃ D : Nat → Rl, (∀ i j, D h i j → R i j) ∧ (∀ i j, lab t i j → D t i j) ∧ ∀ u v i k j, U u → e u v → lab u i k → D v k j → D u i j) ∧ (∀ i j, R i j → ∃ k, Pa e lab h i t k ∧ lab t k j)
theorem Fr.hU {e : Nat → Nat → Prop} {lab : Nat → Rl} {U : Nat → Prop} {h t : Nat} {R : Rl} (h_ : Fr e lab U h t R) : U h := h_.1
theorem Fr.tU {e : Nat → Nat → Prop} {lab : Nat → Rl} {U : Nat → Prop} {h t : Nat} {R : Rl} (h_ : Fr e lab U h t R) : U t := h_.2.1
theorem Fr.cl {e : Nat → Nat → Prop} {lab : Nat → Rl} {U : Nat → Prop} {h t : Nat} {R : Rl} (h_ : Fr e lab U h t R) : ∀ u v, U u → e u v → U v := h_.2.2.1
theorem Fr.so {e : Nat → Nat → Prop} {lab : Nat → Rl} {U : Nat → Prop} {h t : Nat} {R : Rl} (h_ : Fr e lab U h t R) : ∃ D : Nat → Rl, (∀ i j, D h i j → R i j) ∧ (∀ i j, lab t i j → D t i j) ∧ ∀ u v i k j, U u → e u v → lab u i k → D v k j → D u i j := h_.2.2.2.1
theorem Fr.co {e : Nat → Nat → Prop} {lab : Nat → Rl} {U : Nat → Prop} {h t : Nat} {R : Rl} (h_ : Fr e lab U h t R) : ∀ i j, R i j → ∃ k, Pa e lab h i t k ∧ lab t k j := h_.2.2.2.2
theorem Fr.congr {e e' : Nat → Nat → Prop} {lab lab' : Nat → Rl} {U U' : Nat → Prop} {h t : Nat} {R : Rl} (F : Fr e lab U h t R) (hU : ∀ u, U u ↔ U' u) (he : ∀ u v, U u → (e u v ↔ e' u v)) (hl : ∀ u, U u → lab u = lab' u) : Fr e' lab' U' h t R := by
  have hUe : U = U' := funext fun u => propext (hU u)
  subst hUe
  refine ⟨F.hU, F.tU, fun u v hu h => F.cl u v hu ((he u v hu).mpr h), ?_, ?_⟩
  · obtain ⟨D, h1, h2, h3⟩ := F.so
    exact ⟨D, h1, fun i j hh => h2 i j (by rw [hl t F.tU]; exact hh), fun u v i k j hu ha hb hd => h3 u v i k j hu ((he u v hu).mpr ha) (by rw [hl u hu]; exact hb) hd⟩
  · intro i j hr
    obtain ⟨k, hp, hq⟩ := F.co i j hr
    exact ⟨k, hp.mono F.cl (fun u v hu => (he u v hu).mp) (fun u i j hu hh => by rw [← hl u hu]; exact hh) F.hU, by rw [← hl t F.tU]; exact hq⟩
/-- a node alone -/
theorem Fr.node {e : Nat → Nat → Prop} {lab : Nat → Rl} {U : Nat → Prop} {a : Nat} (hU : ∀ u, U u ↔ u = a) (he : ∀ v, ¬ e a v) : Fr e lab U a a (lab a) := by
  refine ⟨(hU a).mpr rfl, (hU a).mpr rfl, fun u v hu h => ?_, ⟨fun _ => lab a, fun i j h => h, fun i j h => h, fun u v i k j hu h => ?_⟩, fun i j h => ⟨i, .nil _ _, h⟩⟩
  · rw [(hU u).mp hu] at h; exact (he v h).elim
  · rw [(hU u).mp hu] at h; exact (he v h).elim
/-- one behind the other -/
theorem Fr.seq {e e1 e2 : Nat → Nat → Prop} {lab : Nat → Rl} {U1 U2 U : Nat → Prop} {h1 t1 h2 t2 : Nat} {R1 R2 : Rl} (F1 : Fr e1 lab U1 h1 t1 R1) (F2 : Fr e2 lab U2 h2 t2 R2)
    (hd : ∀ u, U1 u → ¬ U2 u) (hU : ∀ u, U u ↔ U1 u ∨ U2 u) (he1 : ∀ u v, U1 u → (e u v ↔ e1 u v ∨ (u = t1 ∧ v = h2))) (he2 : ∀ u v, U2 u → (e u v ↔ e2 u v)) : Fr e lab U h1 t2 (rl_seq R1 R2) := by
  refine ⟨(hU _).mpr (Or.inl F1.hU), (hU _).mpr (Or.inr F2.tU), fun u v hu h => ?_, ?_, ?_⟩
  · rcases (hU u).mp hu with hu | hu
    · rcases (he1 u v hu).mp h with h | ⟨_, h⟩
      · exact (hU v).mpr (Or.inl (F1.cl u v hu h))
      · rw [h]; exact (hU _).mpr (Or.inr F2.hU)
    · exact (hU v).mpr (Or.inr (F2.cl u v hu ((he2 u v hu).mp h)))
  · obtain ⟨D1, a1, b1, c1⟩ := F1.so
    obtain ⟨D2, a2, b2, c2⟩ := F2.so
    refine ⟨fun u i j => (U1 u ∧ ∃ k, D1 u i k ∧ D2 h2 k j) ∨ (U2 u ∧ D2 u i j), ?_, ?_, ?_⟩
    · rintro i j (⟨_, k, p, q⟩ | ⟨p, _⟩)
      · exact ⟨k, a1 _ _ p, a2 _ _ q⟩
      · exact (hd _ F1.hU p).elim
    · intro i j h; exact Or.inr ⟨F2.tU, b2 i j h⟩
    · intro u v i k j hu h hl hD
      rcases (hU u).mp hu with hu | hu
      · refine Or.inl ⟨hu, ?_⟩
        rcases (he1 u v hu).mp h with h | ⟨p, q⟩
        · have hv := F1.cl u v hu h
          rcases hD with ⟨_, m, x, y⟩ | ⟨x, _⟩
          · exact ⟨m, c1 u v i k m hu h hl x, y⟩
          · exact (hd _ hv x).elim
        · subst p; subst q
          rcases hD with ⟨x, _⟩ | ⟨_, x⟩
          · exact (hd _ x F2.hU).elim
          · exact ⟨k, b1 _ _ hl, x⟩
      · refine Or.inr ⟨hu, ?_⟩
        have h' := (he2 u v hu).mp h
        have hv := F2.cl u v hu h'
        rcases hD with ⟨x, _⟩ | ⟨_, x⟩
        · exact (hd _ x hv).elim
        · exact c2 u v i k j hu h' hl x
  · rintro i j ⟨m, r1, r2⟩
    obtain ⟨k1, p1, l1⟩ := F1.co _ _ r1
    obtain ⟨k2, p2, l2⟩ := F2.co _ _ r2
    refine ⟨k2, ?_, l2⟩
    have q1 : Pa e lab h1 i t1 k1 := p1.mono F1.cl (fun u v hu h => (he1 u v hu).mpr (Or.inl h)) (fun _ _ _ _ h => h) F1.hU
    have q2 : Pa e lab h2 m t2 k2 := p2.mono F2.cl (fun u v hu h => (he2 u v hu).mpr h) (fun _ _ _ _ h => h) F2.hU
    exact (q1.snoc ((he1 _ _ F1.tU).mpr (Or.inr ⟨rfl, rfl⟩)) l1).trans q2
/-- repetition with a fresh fork behind the fragment: the fork leads back (other) and on (next: not counted) -/
theorem Fr.loop {e e1 : Nat → Nat → Prop} {lab : Nat → Rl} {U1 U : Nat → Prop} {h1 t1 f : Nat} {R1 : Rl} (F1 : Fr e1 lab U1 h1 t1 R1) (hf : ¬ U1 f) (hlf : lab f = rl_id)
    (hU : ∀ u, U u ↔ U1 u ∨ u = f) (he1 : ∀ u v, U1 u → (e u v ↔ e1 u v ∨ (u = t1 ∧ v = f))) (hef : ∀ v, e f v ↔ v = h1) :
    Fr e lab U f f (rl_st R1) ∧ Fr e lab U h1 f (rl_seq R1 (rl_st R1)) := by
  have hcl : ∀ u v, U u → e u v → U v := by
    intro u v hu h
    rcases (hU u).mp hu with hu | hu
    · rcases (he1 u v hu).mp h with h | ⟨_, h⟩
      · exact (hU v).mpr (Or.inl (F1.cl u v hu h))
      · exact (hU v).mpr (Or.inr h)
    · rw [hu] at h; rw [(hef v).mp h]; exact (hU _).mpr (Or.inl F1.hU)
  obtain ⟨D1, a1, b1, c1⟩ := F1.so
  have hso : ∃ D : Nat → Rl, (∀ i j, D f i j → rl_st R1 i j) ∧ (∀ i j, D h1 i j → rl_seq R1 (rl_st R1) i j) ∧ (∀ i j, lab f i j → D f i j) ∧ ∀ u v i k j, U u → e u v → lab u i k → D v k j → D u i j := by
    refine ⟨fun u i j => (U1 u ∧ ∃ k, D1 u i k ∧ rl_st R1 k j) ∨ (u = f ∧ rl_st R1 i j), ?_, ?_, ?_, ?_⟩
    · rintro i j (⟨h, _⟩ | ⟨_, h⟩)
      · exact (hf h).elim
      · exact h
    · rintro i j (⟨_, k, p, q⟩ | ⟨p, _⟩)
      · exact ⟨k, a1 _ _ p, q⟩
      · exact (hf (p ▸ F1.hU)).elim
    · intro i j h; rw [hlf] at h; cases h; exact Or.inr ⟨rfl, .nil _⟩
    · intro u v i k j hu h hl hD
      rcases (hU u).mp hu with hu | hu
      · refine Or.inl ⟨hu, ?_⟩
        rcases (he1 u v hu).mp h with h | ⟨p, q⟩
        · have hv := F1.cl u v hu h
          rcases hD with ⟨_, m, x, y⟩ | ⟨x, _⟩
          · exact ⟨m, c1 u v i k m hu h hl x, y⟩
          · exact (hf (x ▸ hv)).elim
        · subst p; subst q
          rcases hD with ⟨x, _⟩ | ⟨_, x⟩
          · exact (hf x).elim
          · exact ⟨k, b1 _ _ hl, x⟩
      · subst hu
        rw [hlf] at hl; cases hl
        rw [(hef v).mp h] at hD
        refine Or.inr ⟨rfl, ?_⟩
        rcases hD with ⟨_, m, x, y⟩ | ⟨x, _⟩
        · exact .cons (a1 _ _ x) y
        · exact (hf (x ▸ F1.hU)).elim
  obtain ⟨D, d1, d2, d3, d4⟩ := hso
  have hback : ∀ i j, R1 i j → Pa e lab h1 i f j := by
    intro i j r
    obtain ⟨k1, p1, l1⟩ := F1.co _ _ r
    have q1 : Pa e lab h1 i t1 k1 := p1.mono F1.cl (fun u v hu h => (he1 u v hu).mpr (Or.inl h)) (fun _ _ _ _ h => h) F1.hU
    exact q1.snoc ((he1 _ _ F1.tU).mpr (Or.inr ⟨rfl, rfl⟩)) l1
  have hst : ∀ i j, rl_st R1 i j → Pa e lab f i f j := by
    intro i j r
    induction r using rl_st.ind with
    | nil i => exact .nil _ _
    | cons a _ ih => exact .cons ((hef _).mpr rfl) (by rw [hlf]; rfl) ((hback _ _ a).trans ih)
  refine ⟨⟨(hU _).mpr (Or.inr rfl), (hU _).mpr (Or.inr rfl), hcl, ⟨D, d1, d3, d4⟩, ?_⟩, ⟨(hU _).mpr (Or.inl F1.hU), (hU _).mpr (Or.inr rfl), hcl, ⟨D, d2, d3, d4⟩, ?_⟩⟩
  · intro i j r; exact ⟨j, hst i j r, by rw [hlf]; rfl⟩
  · rintro i j ⟨m, r1, r2⟩; exact ⟨j, (hback _ _ r1).trans (hst _ _ r2), by rw [hlf]; rfl⟩
/-- a fresh node before and a fresh one behind: a to the head, the tail to b; a to b (leave); the tail to the head (again) -/
theorem Fr.around {e e1 : Nat → Nat → Prop} {lab : Nat → Rl} {U1 U : Nat → Prop} {h1 t1 a b : Nat} {R1 : Rl} (F1 : Fr e1 lab U1 h1 t1 R1) (leave again : Bool) (ha : ¬ U1 a) (hb : ¬ U1 b) (hab : a ≠ b) (hla : lab a = rl_id) (hlb : lab b = rl_id)
    (hU : ∀ u, U u ↔ U1 u ∨ u = a ∨ u = b) (he1 : ∀ u v, U1 u → (e u v ↔ e1 u v ∨ (u = t1 ∧ (v = b ∨ (again = true ∧ v = h1))))) (hea : ∀ v, e a v ↔ v = h1 ∨ (leave = true ∧ v = b)) (heb : ∀ v, ¬ e b v) :
    Fr e lab U a b (rl_times leave again R1) := by
  obtain ⟨D1, a1, b1, c1⟩ := F1.so
  have hUa : U a := (hU _).mpr (Or.inr (Or.inl rfl))
  have hUb : U b := (hU _).mpr (Or.inr (Or.inr rfl))
  have hUh : U h1 := (hU _).mpr (Or.inl F1.hU)
  refine ⟨hUa, hUb, ?_, ⟨fun u i j => (U1 u ∧ ∃ k, D1 u i k ∧ ((again = true ∧ rl_st R1 k j) ∨ (again = false ∧ k = j))) ∨ (u = a ∧ rl_times leave again R1 i j) ∨ (u = b ∧ i = j), ?_, ?_, ?_⟩, ?_⟩
  · intro u v hu h
    rcases (hU u).mp hu with hu | hu | hu
    · rcases (he1 u v hu).mp h with h | ⟨_, h | ⟨_, h⟩⟩
      · exact (hU v).mpr (Or.inl (F1.cl u v hu h))
      · rw [h]; exact hUb
      · rw [h]; exact hUh
    · rw [hu] at h
      rcases (hea v).mp h with h | ⟨_, h⟩
      · rw [h]; exact hUh
      · rw [h]; exact hUb
    · rw [hu] at h; exact (heb v h).elim
  · rintro i j (⟨h, _⟩ | ⟨_, h⟩ | ⟨h, _⟩)
    · exact (ha h).elim
    · exact h
    · exact (hab h).elim
  · intro i j h; rw [hlb] at h; exact Or.inr (Or.inr ⟨rfl, h⟩)
  · intro u v i k j hu h hl hD
    rcases (hU u).mp hu with hu | hu | hu
    · refine Or.inl ⟨hu, ?_⟩
      rcases (he1 u v hu).mp h with h | ⟨p, q | ⟨q0, q⟩⟩
      · have hv := F1.cl u v hu h
        rcases hD with ⟨_, m, x, y⟩ | ⟨x, _⟩ | ⟨x, _⟩
        · exact ⟨m, c1 u v i k m hu h hl x, y⟩
        · exact (ha (x ▸ hv)).elim
        · exact (hb (x ▸ hv)).elim
      · subst p; subst q
        rcases hD with ⟨x, _⟩ | ⟨x, _⟩ | ⟨_, x⟩
        · exact (hb x).elim
        · exact (hab x.symm).elim
        · subst x
          refine ⟨k, b1 _ _ hl, ?_⟩
          cases again
          · exact Or.inr ⟨rfl, rfl⟩
          · exact Or.inl ⟨rfl, .nil _⟩
      · subst p; subst q
        rcases hD with ⟨_, m, x, y⟩ | ⟨x, _⟩ | ⟨x, _⟩
        · refine ⟨k, b1 _ _ hl, Or.inl ⟨q0, ?_⟩⟩
          rcases y with ⟨_, y⟩ | ⟨y, _⟩
          · exact .cons (a1 _ _ x) y
          · rw [q0] at y; cases y
        · exact (ha (x ▸ F1.hU)).elim
        · exact (hb (x ▸ F1.hU)).elim
    · subst hu
      rw [hla] at hl; cases hl
      refine Or.inr (Or.inl ⟨rfl, ?_⟩)
      rcases (hea v).mp h with q | ⟨q0, q⟩
      · subst q
        rcases hD with ⟨_, m, x, y⟩ | ⟨x, _⟩ | ⟨x, _⟩
        · exact Or.inr ⟨m, a1 _ _ x, y⟩
        · exact (ha (x ▸ F1.hU)).elim
        · exact (hb (x ▸ F1.hU)).elim
      · subst q
        rcases hD with ⟨x, _⟩ | ⟨x, _⟩ | ⟨_, x⟩
        · exact (hb x).elim
        · exact (hab x.symm).elim
        · exact Or.inl ⟨q0, x⟩
    · rw [hu] at h; exact (heb v h).elim
  · have hback : ∀ i j, R1 i j → ∃ k, Pa e lab h1 i t1 k ∧ lab t1 k j := by
      intro i j r
      obtain ⟨k1, p1, l1⟩ := F1.co _ _ r
      exact ⟨k1, p1.mono F1.cl (fun u v hu h => (he1 u v hu).mpr (Or.inl h)) (fun _ _ _ _ h => h) F1.hU, l1⟩
    have hx : ∀ i j, R1 i j → Pa e lab h1 i b j := by
      intro i j r
      obtain ⟨k, p, l⟩ := hback i j r
      exact p.snoc ((he1 _ _ F1.tU).mpr (Or.inr ⟨rfl, Or.inl rfl⟩)) l
    have hst : again = true → ∀ k j, rl_st R1 k j → ∀ i, R1 i k → Pa e lab h1 i b j := by
      intro hg k j r
      induction r using rl_st.ind with
      | nil => exact fun i => hx i _
      | cons r1 _ ih =>
        intro i' r'
        obtain ⟨m, p, l⟩ := hback _ _ r'
        exact (p.snoc ((he1 _ _ F1.tU).mpr (Or.inr ⟨rfl, Or.inr ⟨hg, rfl⟩⟩)) l).trans (ih _ r1)
    intro i j r
    refine ⟨j, ?_, by rw [hlb]; rfl⟩
    rcases r with ⟨q0, q⟩ | ⟨k, r, (⟨q0, y⟩ | ⟨q0, y⟩)⟩
    · subst q; exact .one ((hea b).mpr (Or.inr ⟨q0, rfl⟩)) (by rw [hla]; rfl)
    · exact .cons ((hea h1).mpr (Or.inl rfl)) (by rw [hla]; rfl) (hst q0 k j y i r)
    · subst y; exact .cons ((hea h1).mpr (Or.inl rfl)) (by rw [hla]; rfl) (hx i k r)
/-- the reference's choice of two -/
theorem Fr.alt {e e1 e2 : Nat → Nat → Prop} {lab : Nat → Rl} {U1 U2 U : Nat → Prop} {h1 t1 h2 t2 a b : Nat} {R1 R2 : Rl} (F1 : Fr e1 lab U1 h1 t1 R1) (F2 : Fr e2 lab U2 h2 t2 R2)
    (hd : ∀ u, U1 u → ¬ U2 u) (ha1 : ¬ U1 a) (ha2 : ¬ U2 a) (hb1 : ¬ U1 b) (hb2 : ¬ U2 b) (hab : a ≠ b) (hla : lab a = rl_id) (hlb : lab b = rl_id) (hU : ∀ u, U u ↔ U1 u ∨ U2 u ∨ u = a ∨ u = b)
    (he1 : ∀ u v, U1 u → (e u v ↔ e1 u v ∨ (u = t1 ∧ v = b))) (he2 : ∀ u v, U2 u → (e u v ↔ e2 u v ∨ (u = t2 ∧ v = b))) (hea : ∀ v, e a v ↔ v = h1 ∨ v = h2) (heb : ∀ v, ¬ e b v) :
    Fr e lab U a b (rl_or R1 R2) := by
  obtain ⟨D1, a1, b1, c1⟩ := F1.so
  obtain ⟨D2, a2, b2, c2⟩ := F2.so
  have hUa : U a := (hU _).mpr (Or.inr (Or.inr (Or.inl rfl)))
  have hUb : U b := (hU _).mpr (Or.inr (Or.inr (Or.inr rfl)))
  refine ⟨hUa, hUb, ?_, ⟨fun u i j => (U1 u ∧ D1 u i j) ∨ (U2 u ∧ D2 u i j) ∨ (u = a ∧ rl_or R1 R2 i j) ∨ (u = b ∧ i = j), ?_, ?_, ?_⟩, ?_⟩
  · intro u v hu h
    rcases (hU u).mp hu with hu | hu | hu | hu
    · rcases (he1 u v hu).mp h with h | ⟨_, h⟩
      · exact (hU v).mpr (Or.inl (F1.cl u v hu h))
      · rw [h]; exact hUb
    · rcases (he2 u v hu).mp h with h | ⟨_, h⟩
      · exact (hU v).mpr (Or.inr (Or.inl (F2.cl u v hu h)))
      · rw [h]; exact hUb
    · rw [hu] at h
      rcases (hea v).mp h with h | h
      · rw [h]; exact (hU _).mpr (Or.inl F1.hU)
      · rw [h]; exact (hU _).mpr (Or.inr (Or.inl F2.hU))
    · rw [hu] at h; exact (heb v h).elim
  · rintro i j (⟨h, _⟩ | ⟨h, _⟩ | ⟨_, h⟩ | ⟨h, _⟩)
    · exact (ha1 h).elim
    · exact (ha2 h).elim
    · exact h
    · exact (hab h).elim
  · intro i j h; rw [hlb] at h; exact Or.inr (Or.inr (Or.inr ⟨rfl, h⟩))
  · intro u v i k j hu h hl hD
    rcases (hU u).mp hu with hu | hu | hu | hu
    · refine Or.inl ⟨hu, ?_⟩
      rcases (he1 u v hu).mp h with h | ⟨p, q⟩
      · have hv := F1.cl u v hu h
        rcases hD with ⟨_, x⟩ | ⟨x, _⟩ | ⟨x, _⟩ | ⟨x, _⟩
        · exact c1 u v i k j hu h hl x
        · exact (hd _ hv x).elim
        · exact (ha1 (x ▸ hv)).elim
        · exact (hb1 (x ▸ hv)).elim
      · subst p; subst q
        rcases hD with ⟨x, _⟩ | ⟨x, _⟩ | ⟨x, _⟩ | ⟨_, x⟩
        · exact (hb1 x).elim
        · exact (hb2 x).elim
        · exact (hab x.symm).elim
        · subst x; exact b1 _ _ hl
    · refine Or.inr (Or.inl ⟨hu, ?_⟩)
      rcases (he2 u v hu).mp h with h | ⟨p, q⟩
      · have hv := F2.cl u v hu h
        rcases hD with ⟨x, _⟩ | ⟨_, x⟩ | ⟨x, _⟩ | ⟨x, _⟩
        · exact (hd _ x hv).elim
        · exact c2 u v i k j hu h hl x
        · exact (ha2 (x ▸ hv)).elim
        · exact (hb2 (x ▸ hv)).elim
      · subst p; subst q
        rcases hD with ⟨x, _⟩ | ⟨x, _⟩ | ⟨x, _⟩ | ⟨_, x⟩
        · exact (hb1 x).elim
        · exact (hb2 x).elim
        · exact (hab x.symm).elim
        · subst x; exact b2 _ _ hl
    · subst hu
      rw [hla] at hl; cases hl
      refine Or.inr (Or.inr (Or.inl ⟨rfl, ?_⟩))
      rcases (hea v).mp h with q | q
      · subst q
        rcases hD with ⟨_, x⟩ | ⟨x, _⟩ | ⟨x, _⟩ | ⟨x, _⟩
        · exact Or.inl (a1 _ _ x)
        · exact (hd _ F1.hU x).elim
        · exact (ha1 (x ▸ F1.hU)).elim
        · exact (hb1 (x ▸ F1.hU)).elim
      · subst q
        rcases hD with ⟨x, _⟩ | ⟨_, x⟩ | ⟨x, _⟩ | ⟨x, _⟩
        · exact (hd _ x F2.hU).elim
        · exact Or.inr (a2 _ _ x)
        · exact (ha2 (x ▸ F2.hU)).elim
        · exact (hb2 (x ▸ F2.hU)).elim
    · rw [hu] at h; exact (heb v h).elim
  · rintro i j (r | r)
    · obtain ⟨k1, p1, l1⟩ := F1.co _ _ r
      have q1 : Pa e lab h1 i t1 k1 := p1.mono F1.cl (fun u v hu h => (he1 u v hu).mpr (Or.inl h)) (fun _ _ _ _ h => h) F1.hU
      exact ⟨j, .cons ((hea h1).mpr (Or.inl rfl)) (by rw [hla]; rfl) (q1.snoc ((he1 _ _ F1.tU).mpr (Or.inr ⟨rfl, rfl⟩)) l1), by rw [hlb]; rfl⟩
    · obtain ⟨k1, p1, l1⟩ := F2.co _ _ r
      have q1 : Pa e lab h2 i t2 k1 := p1.mono F2.cl (fun u v hu h => (he2 u v hu).mpr (Or.inl h)) (fun _ _ _ _ h => h) F2.hU
      exact ⟨j, .cons ((hea h2).mpr (Or.inr rfl)) (by rw [hla]; rfl) (q1.snoc ((he2 _ _ F2.tU).mpr (Or.inr ⟨rfl, rfl⟩)) l1), by rw [hlb]; rfl⟩
/-- a fragment whose tail lets pass: its relation is reaching the tail -/
theorem Fr.iff {e : Nat → Nat → Prop} {lab : Nat → Rl} {U : Nat → Prop} {h t : Nat} {R : Rl} (F : Fr e lab U h t R) (hl : lab t = rl_id) (i j : Nat) : R i j ↔ Pa e lab h i t j := by
  constructor
  · intro r
    obtain ⟨k, p, q⟩ := F.co i j r
    rw [hl] at q; cases q; exact p
  · intro p
    obtain ⟨D, a, b, c⟩ := F.so
    apply a
    have key : ∀ u i w j, Pa e lab u i w j → w = t → U u → D u i j := by
      intro u i w j p
      induction p using Pa.ind with
      | nil u i => intro hw _; subst hw; exact b _ _ (by rw [hl]; rfl)
      | cons x y _ ih => intro hw hu; exact c _ _ _ _ _ hu x y (ih hw (F.cl _ _ hu x))
    exact key h i t j p rfl F.hU
-- 31.ch
/-- of a choice what is complete: from its start by its rows to its end, and on to the head of the row that is open -/
abbrev Ch (e : Nat → Nat → Prop) (lab : Nat → Rl) (U : Nat → Prop) (cs rh ce : Nat) (Rc : Rl) : Prop := (¬ U rh) ∧ (¬ U ce) ∧ (rh ≠ ce) ∧ (U cs ∨ cs = rh) ∧ (∀ u v, U u → e u v → U v ∨ v = rh ∨ v = ce) ∧ (∀ L : Rl, ∃ D : Nat → Rl, (∀ i j, D cs i j → Rc i j ∨ L i j) ∧ (∀ i, D ce i i) ∧ (∀ i j, L i j → D rh i j) ∧ ∀ u v i k j, U u → e u v → lab u i k → D v k j → D u i j) ∧ (∀ i j, Rc i j → Pa (fun u v => U u ∧ e u v) lab cs i ce j) ∧ (∀ i, Pa (fun u v => U u ∧ e u v) lab cs i rh i)
theorem Ch.nr {e : Nat → Nat → Prop} {lab : Nat → Rl} {U : Nat → Prop} {cs rh ce : Nat} {Rc : Rl} (h_ : Ch e lab U cs rh ce Rc) : ¬ U rh := h_.1
theorem Ch.nc {e : Nat → Nat → Prop} {lab : Nat → Rl} {U : Nat → Prop} {cs rh ce : Nat} {Rc : Rl} (h_ : Ch e lab U cs rh ce Rc) : ¬ U ce := h_.2.1
theorem Ch.ne {e : Nat → Nat → Prop} {lab : Nat → Rl} {U : Nat → Prop} {cs rh ce : Nat} {Rc : Rl} (h_ : Ch e lab U cs rh ce Rc) : rh ≠ ce := h_.2.2.1
theorem Ch.st {e : Nat → Nat → Prop} {lab : Nat → Rl} {U : Nat → Prop} {cs rh ce : Nat} {Rc : Rl} (h_ : Ch e lab U cs rh ce Rc) : U cs ∨ cs = rh := h_.2.2.2.1
theorem Ch.cl {e : Nat → Nat → Prop} {lab : Nat → Rl} {U : Nat → Prop} {cs rh ce : Nat} {Rc : Rl} (h_ : Ch e lab U cs rh ce Rc) : ∀ u v, U u → e u v → U v ∨ v = rh ∨ v = ce := h_.2.2.2.2.1
theorem Ch.so {e : Nat → Nat → Prop} {lab : Nat → Rl} {U : Nat → Prop} {cs rh ce : Nat} {Rc : Rl} (h_ : Ch e lab U cs rh ce Rc) : ∀ L : Rl, ∃ D : Nat → Rl, (∀ i j, D cs i j → Rc i j ∨ L i j) ∧ (∀ i, D ce i i) ∧ (∀ i j, L i j → D rh i j) ∧ ∀ u v i k j, U u → e u v → lab u i k → D v k j → D u i j := h_.2.2.2.2.2.1
theorem Ch.co {e : Nat → Nat → Prop} {lab : Nat → Rl} {U : Nat → Prop} {cs rh ce : Nat} {Rc : Rl} (h_ : Ch e lab U cs rh ce Rc) : ∀ i j, Rc i j → Pa (fun u v => U u ∧ e u v) lab cs i ce j := h_.2.2.2.2.2.2.1
theorem Ch.cr {e : Nat → Nat → Prop} {lab : Nat → Rl} {U : Nat → Prop} {cs rh ce : Nat} {Rc : Rl} (h_ : Ch e lab U cs rh ce Rc) : ∀ i, Pa (fun u v => U u ∧ e u v) lab cs i rh i := h_.2.2.2.2.2.2.2
theorem Pa.sub {e e' : Nat → Nat → Prop} {lab lab' : Nat → Rl} (he : ∀ u v, e u v → e' u v) (hl : ∀ u v i j, e u v → lab u i j → lab' u i j)
    {u i w j : Nat} (h : Pa e lab u i w j) : Pa e' lab' u i w j := by
  induction h using Pa.ind with
  | nil => exact .nil _ _
  | cons a b _ ih => exact .cons (he _ _ a) (hl _ _ _ _ a b) ih
theorem Ch.congr {e e' : Nat → Nat → Prop} {lab lab' : Nat → Rl} {U U' : Nat → Prop} {cs rh ce : Nat} {R : Rl} (F : Ch e lab U cs rh ce R) (hU : ∀ u, U u ↔ U' u) (he : ∀ u v, U u → (e u v ↔ e' u v)) (hl : ∀ u, U u → lab u = lab' u) : Ch e' lab' U' cs rh ce R := by
  have hUe : U = U' := funext fun u => propext (hU u)
  subst hUe
  refine ⟨F.nr, F.nc, F.ne, F.st, fun u v hu h => F.cl u v hu ((he u v hu).mpr h), fun L => ?_, fun i j h => ?_, fun i => ?_⟩
  · obtain ⟨D, h1, h2, h3, h4⟩ := F.so L
    exact ⟨D, h1, h2, h3, fun u v i k j hu ha hb hd => h4 u v i k j hu ((he u v hu).mpr ha) (by rw [hl u hu]; exact hb) hd⟩
  · exact (F.co i j h).sub (fun u v h => ⟨h.1, (he u v h.1).mp h.2⟩) (fun u v i j h hh => by rw [← hl u h.1]; exact hh)
  · exact (F.cr i).sub (fun u v h => ⟨h.1, (he u v h.1).mp h.2⟩) (fun u v i j h hh => by rw [← hl u h.1]; exact hh)
theorem Ch.nil {e : Nat → Nat → Prop} {lab : Nat → Rl} {U : Nat → Prop} {rh ce : Nat} (hU : ∀ u, ¬ U u) (hn : rh ≠ ce) : Ch e lab U rh rh ce rl_no := by
  refine ⟨hU _, hU _, hn, Or.inr rfl, fun u v hu => (hU u hu).elim, fun L => ⟨fun u i j => (u = rh ∧ L i j) ∨ (u = ce ∧ i = j), ?_, ?_, ?_, fun u v i k j hu => (hU u hu).elim⟩, fun i j h => h.elim, fun i => .nil _ _⟩
  · rintro i j (⟨_, h⟩ | ⟨h, _⟩)
    · exact Or.inr h
    · exact (hn h).elim
  · intro i; exact Or.inr ⟨rfl, rfl⟩
  · intro i j h; exact Or.inl ⟨rfl, h⟩
/-- the open row is complete, another one is begun -/
theorem Ch.bar {e e' er : Nat → Nat → Prop} {lab : Nat → Rl} {U Ur U' : Nat → Prop} {cs rh ce t f : Nat} {Rc Rr : Rl} (C : Ch e lab U cs rh ce Rc) (F : Fr er lab Ur rh t Rr)
    (hno : ∀ u v, Ur u → er u v → v ≠ rh) (hd : ∀ u, U u → ¬ Ur u) (hfU : ¬ U f) (hfr : ¬ Ur f) (hfc : f ≠ ce) (hcr : ¬ Ur ce) (hl : lab rh = rl_id) (hU : ∀ u, U' u ↔ U u ∨ Ur u)
    (he : ∀ u v, U u → (e' u v ↔ e u v)) (her : ∀ u v, Ur u → (e' u v ↔ er u v ∨ (u = t ∧ v = ce) ∨ (u = rh ∧ v = f))) : Ch e' lab U' cs f ce (rl_or Rc Rr) := by
  have hcs : U' cs := by
    rcases C.st with h | h
    · exact (hU _).mpr (Or.inl h)
    · rw [h]; exact (hU _).mpr (Or.inr F.hU)
  refine ⟨fun h => ((hU _).mp h).elim hfU hfr, fun h => ((hU _).mp h).elim C.nc hcr, hfc, Or.inl hcs, ?_, fun L => ?_, ?_, ?_⟩
  · intro u v hu h
    rcases (hU u).mp hu with hu | hu
    · rcases C.cl u v hu ((he u v hu).mp h) with h | h | h
      · exact Or.inl ((hU v).mpr (Or.inl h))
      · rw [h]; exact Or.inl ((hU _).mpr (Or.inr F.hU))
      · exact Or.inr (Or.inr h)
    · rcases (her u v hu).mp h with h | ⟨_, h⟩ | ⟨_, h⟩
      · exact Or.inl ((hU v).mpr (Or.inr (F.cl u v hu h)))
      · exact Or.inr (Or.inr h)
      · exact Or.inr (Or.inl h)
  · obtain ⟨Dc, c1, c2, c3, c4⟩ := C.so (rl_or Rr L)
    obtain ⟨Dr, r1, r2, r3⟩ := F.so
    refine ⟨fun u i j => (U u ∧ Dc u i j) ∨ (Ur u ∧ (Dr u i j ∨ (u = rh ∧ L i j))) ∨ (u = ce ∧ i = j) ∨ (u = f ∧ L i j), ?_, ?_, ?_, ?_⟩
    · intro i j h
      rcases h with ⟨_, h⟩ | ⟨h0, h⟩ | ⟨h, _⟩ | ⟨h, _⟩
      · rcases c1 i j h with h | h | h
        · exact Or.inl (Or.inl h)
        · exact Or.inl (Or.inr h)
        · exact Or.inr h
      · have hcr' : cs = rh := by
          rcases C.st with h | h
          · exact (hd _ h h0).elim
          · exact h
        rcases h with h | ⟨_, h⟩
        · rw [hcr'] at h; exact Or.inl (Or.inr (r1 _ _ h))
        · exact Or.inr h
      · rcases C.st with h1 | h1
        · exact (C.nc (h ▸ h1)).elim
        · exact (C.ne (h1.symm.trans h)).elim
      · exact (((hU _).mp hcs).elim (fun z => hfU (h ▸ z)) (fun z => hfr (h ▸ z))).elim
    · intro i; exact Or.inr (Or.inr (Or.inl ⟨rfl, rfl⟩))
    · intro i j h; exact Or.inr (Or.inr (Or.inr ⟨rfl, h⟩))
    · intro u v i k j hu h hlb hD
      rcases (hU u).mp hu with hu | hu
      · refine Or.inl ⟨hu, ?_⟩
        have h' := (he u v hu).mp h
        rcases C.cl u v hu h' with hv | hv | hv
        · rcases hD with ⟨_, x⟩ | ⟨x, _⟩ | ⟨x, _⟩ | ⟨x, _⟩
          · exact c4 u v i k j hu h' hlb x
          · exact (hd _ hv x).elim
          · exact (C.nc (x ▸ hv)).elim
          · exact (hfU (x ▸ hv)).elim
        · subst hv
          refine c4 u v i k j hu h' hlb (c3 _ _ ?_)
          rcases hD with ⟨x, _⟩ | ⟨_, x | ⟨_, x⟩⟩ | ⟨x, _⟩ | ⟨x, _⟩
          · exact (C.nr x).elim
          · exact Or.inl (r1 _ _ x)
          · exact Or.inr x
          · exact (C.ne x).elim
          · exact (hfr (x ▸ F.hU)).elim
        · subst hv
          rcases hD with ⟨x, _⟩ | ⟨x, _⟩ | ⟨_, x⟩ | ⟨x, _⟩
          · exact (C.nc x).elim
          · exact (hcr x).elim
          · subst x; exact c4 u v i k k hu h' hlb (c2 k)
          · exact (hfc x.symm).elim
      · refine Or.inr (Or.inl ⟨hu, ?_⟩)
        rcases (her u v hu).mp h with h | ⟨p, q⟩ | ⟨p, q⟩
        · have hv := F.cl u v hu h
          have hnr := hno u v hu h
          rcases hD with ⟨x, _⟩ | ⟨_, x | ⟨x, _⟩⟩ | ⟨x, _⟩ | ⟨x, _⟩
          · exact (hd _ x hv).elim
          · exact Or.inl (r3 u v i k j hu h hlb x)
          · exact (hnr x).elim
          · exact (hcr (x ▸ hv)).elim
          · exact (hfr (x ▸ hv)).elim
        · subst p; subst q
          rcases hD with ⟨x, _⟩ | ⟨x, _⟩ | ⟨_, x⟩ | ⟨x, _⟩
          · exact (C.nc x).elim
          · exact (hcr x).elim
          · subst x; exact Or.inl (r2 _ _ hlb)
          · exact (hfc x.symm).elim
        · subst p; subst q
          rw [hl] at hlb; cases hlb
          rcases hD with ⟨x, _⟩ | ⟨x, _⟩ | ⟨x, _⟩ | ⟨_, x⟩
          · exact (hfU x).elim
          · exact (hfr x).elim
          · exact (hfc x).elim
          · exact Or.inr ⟨rfl, x⟩
  · have hsub : ∀ u v, (U u ∧ e u v) → (U' u ∧ e' u v) := fun u v h => ⟨(hU _).mpr (Or.inl h.1), (he u v h.1).mpr h.2⟩
    rintro i j (r | r)
    · exact (C.co i j r).sub hsub (fun _ _ _ _ _ h => h)
    · obtain ⟨k, p, l⟩ := F.co i j r
      have q : Pa (fun u v => U' u ∧ e' u v) lab rh i t k := p.mono F.cl (fun u v hu h => ⟨(hU _).mpr (Or.inr hu), (her u v hu).mpr (Or.inl h)⟩) (fun _ _ _ _ h => h) F.hU
      exact (((C.cr i).sub hsub (fun _ _ _ _ _ h => h)).trans q).snoc ⟨(hU _).mpr (Or.inr F.tU), (her _ _ F.tU).mpr (Or.inr (Or.inl ⟨rfl, rfl⟩))⟩ l
  · intro i
    have hsub : ∀ u v, (U u ∧ e u v) → (U' u ∧ e' u v) := fun u v h => ⟨(hU _).mpr (Or.inl h.1), (he u v h.1).mpr h.2⟩
    exact ((C.cr i).sub hsub (fun _ _ _ _ _ h => h)).snoc ⟨(hU _).mpr (Or.inr F.hU), (her _ _ F.hU).mpr (Or.inr (Or.inr ⟨rfl, rfl⟩))⟩ (by rw [hl]; rfl)
/-- the open row is complete, and the choice with it -/
theorem Ch.close {e e' er : Nat → Nat → Prop} {lab : Nat → Rl} {U Ur U' : Nat → Prop} {cs rh ce t : Nat} {Rc Rr : Rl} (C : Ch e lab U cs rh ce Rc) (F : Fr er lab Ur rh t Rr)
    (hd : ∀ u, U u → ¬ Ur u) (hcr : ¬ Ur ce) (hl : lab ce = rl_id) (hU : ∀ u, U' u ↔ U u ∨ Ur u ∨ u = ce)
    (he : ∀ u v, U u → (e' u v ↔ e u v)) (her : ∀ u v, Ur u → (e' u v ↔ er u v ∨ (u = t ∧ v = ce))) (hec : ∀ v, ¬ e' ce v) : Fr e' lab U' cs ce (rl_or Rc Rr) := by
  have hUc : U' ce := (hU _).mpr (Or.inr (Or.inr rfl))
  have hUr : U' rh := (hU _).mpr (Or.inr (Or.inl F.hU))
  have hcs : U' cs := by
    rcases C.st with h | h
    · exact (hU _).mpr (Or.inl h)
    · rw [h]; exact hUr
  have hsub : ∀ u v, (U u ∧ e u v) → e' u v := fun u v h => (he u v h.1).mpr h.2
  refine ⟨hcs, hUc, ?_, ?_, ?_⟩
  · intro u v hu h
    rcases (hU u).mp hu with hu | hu | hu
    · rcases C.cl u v hu ((he u v hu).mp h) with h | h | h
      · exact (hU v).mpr (Or.inl h)
      · rw [h]; exact hUr
      · rw [h]; exact hUc
    · rcases (her u v hu).mp h with h | ⟨_, h⟩
      · exact (hU v).mpr (Or.inr (Or.inl (F.cl u v hu h)))
      · rw [h]; exact hUc
    · rw [hu] at h; exact (hec v h).elim
  · obtain ⟨Dc, c1, c2, c3, c4⟩ := C.so Rr
    obtain ⟨Dr, r1, r2, r3⟩ := F.so
    refine ⟨fun u i j => (U u ∧ Dc u i j) ∨ (Ur u ∧ Dr u i j) ∨ (u = ce ∧ i = j), ?_, ?_, ?_⟩
    · intro i j h
      rcases h with ⟨_, h⟩ | ⟨h0, h⟩ | ⟨h, _⟩
      · exact c1 i j h
      · have hcr' : cs = rh := by
          rcases C.st with h | h
          · exact (hd _ h h0).elim
          · exact h
        rw [hcr'] at h; exact Or.inr (r1 _ _ h)
      · rcases C.st with h1 | h1
        · exact (C.nc (h ▸ h1)).elim
        · exact (C.ne (h1.symm.trans h)).elim
    · intro i j h; rw [hl] at h; exact Or.inr (Or.inr ⟨rfl, h⟩)
    · intro u v i k j hu h hlb hD
      rcases (hU u).mp hu with hu | hu | hu
      · refine Or.inl ⟨hu, ?_⟩
        have h' := (he u v hu).mp h
        rcases C.cl u v hu h' with hv | hv | hv
        · rcases hD with ⟨_, x⟩ | ⟨x, _⟩ | ⟨x, _⟩
          · exact c4 u v i k j hu h' hlb x
          · exact (hd _ hv x).elim
          · exact (C.nc (x ▸ hv)).elim
        · subst hv
          refine c4 u v i k j hu h' hlb (c3 _ _ ?_)
          rcases hD with ⟨x, _⟩ | ⟨_, x⟩ | ⟨x, _⟩
          · exact (C.nr x).elim
          · exact r1 _ _ x
          · exact (C.ne x).elim
        · subst hv
          rcases hD with ⟨x, _⟩ | ⟨x, _⟩ | ⟨_, x⟩
          · exact (C.nc x).elim
          · exact (hcr x).elim
          · subst x; exact c4 u v i k k hu h' hlb (c2 k)
      · refine Or.inr (Or.inl ⟨hu, ?_⟩)
        rcases (her u v hu).mp h with h | ⟨p, q⟩
        · have hv := F.cl u v hu h
          rcases hD with ⟨x, _⟩ | ⟨_, x⟩ | ⟨x, _⟩
          · exact (hd _ x hv).elim
          · exact r3 u v i k j hu h hlb x
          · exact (hcr (x ▸ hv)).elim
        · subst p; subst q
          rcases hD with ⟨x, _⟩ | ⟨x, _⟩ | ⟨_, x⟩
          · exact (C.nc x).elim
          · exact (hcr x).elim
          · subst x; exact r2 _ _ hlb
      · rw [hu] at h; exact (hec v h).elim
  · rintro i j (r | r)
    · exact ⟨j, (C.co i j r).sub hsub (fun _ _ _ _ _ h => h), by rw [hl]; rfl⟩
    · obtain ⟨k, p, l⟩ := F.co i j r
      have q : Pa e' lab rh i t k := p.mono F.cl (fun u v hu h => (her u v hu).mpr (Or.inl h)) (fun _ _ _ _ h => h) F.hU
      exact ⟨j, (((C.cr i).sub hsub (fun _ _ _ _ _ h => h)).trans q).snoc ((her _ _ F.tU).mpr (Or.inr ⟨rfl, rfl⟩)) l, by rw [hl]; rfl⟩
-- 32.crd
/-- the class's reader, as nodes with ways, and what is open by depth -/
abbrev CR : Type := (Nat) × (Nat → Option Nat) × (Nat → Option Nat) × (Nat → Rl) × (Nat → Nat) × (Nat → Nat) × (Nat → Nat) × (Nat → Nat) × (Nat) × (Nat) × (Option Nat) × (Nat)
def CR.n (r_ : CR) : Nat := r_.1
def CR.nx (r_ : CR) : Nat → Option Nat := r_.2.1
def CR.ot (r_ : CR) : Nat → Option Nat := r_.2.2.1
def CR.lab (r_ : CR) : Nat → Rl := r_.2.2.2.1
def CR.cs (r_ : CR) : Nat → Nat := r_.2.2.2.2.1
def CR.ce (r_ : CR) : Nat → Nat := r_.2.2.2.2.2.1
def CR.rh (r_ : CR) : Nat → Nat := r_.2.2.2.2.2.2.1
def CR.ou (r_ : CR) : Nat → Nat := r_.2.2.2.2.2.2.2.1
def CR.d (r_ : CR) : Nat := r_.2.2.2.2.2.2.2.2.1
def CR.lead (r_ : CR) : Nat := r_.2.2.2.2.2.2.2.2.2.1
def CR.first (r_ : CR) : Option Nat := r_.2.2.2.2.2.2.2.2.2.2.1
def CR.tail (r_ : CR) : Nat := r_.2.2.2.2.2.2.2.2.2.2.2
abbrev CR.mk (n_ : Nat) (nx_ : Nat → Option Nat) (ot_ : Nat → Option Nat) (lab_ : Nat → Rl) (cs_ : Nat → Nat) (ce_ : Nat → Nat) (rh_ : Nat → Nat) (ou_ : Nat → Nat) (d_ : Nat) (lead_ : Nat) (first_ : Option Nat) (tail_ : Nat) : CR := (n_, nx_, ot_, lab_, cs_, ce_, rh_, ou_, d_, lead_, first_, tail_)
def sU {α : Type} (f : Nat → α) (k : Nat) (v : α) : Nat → α := fun j => if j = k then v else f j
theorem sU_self {α : Type} (f : Nat → α) (k : Nat) (v : α) : sU f k v k = v := by simp [sU]
theorem sU_ne {α : Type} (f : Nat → α) {k j : Nat} (v : α) (h : j ≠ k) : sU f k v j = f j := by simp [sU, h]
/-- ways inside a fragment: its tail's first way is not counted -/
def cE (nx ot : Nat → Option Nat) (t u v : Nat) : Prop := (u ≠ t ∧ nx u = some v) ∨ ot u = some v
def cF (nx ot : Nat → Option Nat) (u v : Nat) : Prop := nx u = some v ∨ ot u = some v
abbrev RLv : Type := Option Rl × Rl × Option Rl
def rl_o (x : Option Rl) : Rl := x.getD rl_no
/-- the row with its latest part -/
def rl_row (x : RLv) : Rl := match x.2.2 with
  | none => x.2.1
  | some p => rl_seq x.2.1 p
def st_single (l : Rl) : List RLv → List RLv
  | [] => []
  | x :: s => (x.1, rl_row x, some l) :: s
def st_times (leave again : Bool) : List RLv → List RLv
  | (c, r, some p) :: s => (c, r, some (rl_times leave again p)) :: s
  | s => s
def st_open (s : List RLv) : List RLv := (none, rl_id, none) :: s
def rl_all (x : RLv) : Rl := match x.1 with
  | none => rl_row x
  | some c => rl_or c (rl_row x)
def st_bar : List RLv → List RLv
  | [] => []
  | x :: s => (some (rl_all x), rl_id, none) :: s
def st_close : List RLv → List RLv
  | x :: s => st_single (rl_all x) s
  | [] => []
theorem rl_no_or (a : Rl) : rl_or rl_no a = a := by
  funext i j; apply propext; constructor
  · rintro (h | h)
    · exact h.elim
    · exact h
  · intro h; exact Or.inr h
theorem rl_all_eq (x : RLv) : rl_all x = rl_or (rl_o x.1) (rl_row x) := by
  obtain ⟨c, y⟩ := x
  cases c with
  | none => exact (rl_no_or _).symm
  | some c => rfl
def cU (r : CR) (own : Nat → Nat) (s : Nat) (u : Nat) : Prop := u < r.n ∧ own u = s
abbrev CLev (r : CR) (own : Nat → Nat) (d : Nat) (Rc : Rl) : Prop := (Ch (cF r.nx r.ot) r.lab (cU r own (4 * d)) (r.cs d) (r.rh d) (r.ce d) Rc) ∧ (cU r own (4 * d + 1) (r.rh d)) ∧ (r.lab (r.rh d) = rl_id) ∧ (r.ot (r.rh d) = none) ∧ (∀ u, cU r own (4 * d + 3) u ↔ u = r.ce d) ∧ (r.lab (r.ce d) = rl_id) ∧ (r.ot (r.ce d) = none) ∧ (r.nx (r.ce d) = none)
theorem CLev.ch {r : CR} {own : Nat → Nat} {d : Nat} {Rc : Rl} (h_ : CLev r own d Rc) : Ch (cF r.nx r.ot) r.lab (cU r own (4 * d)) (r.cs d) (r.rh d) (r.ce d) Rc := h_.1
theorem CLev.rhU {r : CR} {own : Nat → Nat} {d : Nat} {Rc : Rl} (h_ : CLev r own d Rc) : cU r own (4 * d + 1) (r.rh d) := h_.2.1
theorem CLev.rhl {r : CR} {own : Nat → Nat} {d : Nat} {Rc : Rl} (h_ : CLev r own d Rc) : r.lab (r.rh d) = rl_id := h_.2.2.1
theorem CLev.rho {r : CR} {own : Nat → Nat} {d : Nat} {Rc : Rl} (h_ : CLev r own d Rc) : r.ot (r.rh d) = none := h_.2.2.2.1
theorem CLev.ceU {r : CR} {own : Nat → Nat} {d : Nat} {Rc : Rl} (h_ : CLev r own d Rc) : ∀ u, cU r own (4 * d + 3) u ↔ u = r.ce d := h_.2.2.2.2.1
theorem CLev.cel {r : CR} {own : Nat → Nat} {d : Nat} {Rc : Rl} (h_ : CLev r own d Rc) : r.lab (r.ce d) = rl_id := h_.2.2.2.2.2.1
theorem CLev.ceo {r : CR} {own : Nat → Nat} {d : Nat} {Rc : Rl} (h_ : CLev r own d Rc) : r.ot (r.ce d) = none := h_.2.2.2.2.2.2.1
theorem CLev.cen {r : CR} {own : Nat → Nat} {d : Nat} {Rc : Rl} (h_ : CLev r own d Rc) : r.nx (r.ce d) = none := h_.2.2.2.2.2.2.2
abbrev CRow (r : CR) (own : Nat → Nat) (s h t : Nat) (R : Rl) : Prop := (Fr (cE r.nx r.ot t) r.lab (cU r own s) h t R) ∧ (∀ u v, cU r own s u → cE r.nx r.ot t u v → v ≠ h)
theorem CRow.fr {r : CR} {own : Nat → Nat} {s h t : Nat} {R : Rl} (h_ : CRow r own s h t R) : Fr (cE r.nx r.ot t) r.lab (cU r own s) h t R := h_.1
theorem CRow.no {r : CR} {own : Nat → Nat} {s h t : Nat} {R : Rl} (h_ : CRow r own s h t R) : ∀ u v, cU r own s u → cE r.nx r.ot t u v → v ≠ h := h_.2
/-- the levels round the open one -/
def COut (r : CR) (own : Nat → Nat) : List RLv → Prop
  | [] => True
  | x :: s => (CLev r own s.length (rl_o x.1) ∧ CRow r own (4 * s.length + 1) (r.rh s.length) (r.ou (s.length + 1)) (rl_row x) ∧ ∀ u, ¬ cU r own (4 * s.length + 2) u) ∧ COut r own s
abbrev CTop (r : CR) (own : Nat → Nat) (d : Nat) (x : RLv) : Prop := (CLev r own d (rl_o x.1)) ∧ (x.2.2 = none → r.first = none ∧ CRow r own (4 * d + 1) (r.rh d) r.tail x.2.1 ∧ ∀ u, ¬ cU r own (4 * d + 2) u) ∧ (∀ p, x.2.2 = some p → ∃ f, r.first = some f ∧ CRow r own (4 * d + 1) (r.rh d) r.lead x.2.1 ∧ Fr (cE r.nx r.ot r.tail) r.lab (cU r own (4 * d + 2)) f r.tail p ∧ r.nx r.lead = some f)
theorem CTop.lev {r : CR} {own : Nat → Nat} {d : Nat} {x : RLv} (h_ : CTop r own d x) : CLev r own d (rl_o x.1) := h_.1
theorem CTop.pn {r : CR} {own : Nat → Nat} {d : Nat} {x : RLv} (h_ : CTop r own d x) : x.2.2 = none → r.first = none ∧ CRow r own (4 * d + 1) (r.rh d) r.tail x.2.1 ∧ ∀ u, ¬ cU r own (4 * d + 2) u := h_.2.1
theorem CTop.ps {r : CR} {own : Nat → Nat} {d : Nat} {x : RLv} (h_ : CTop r own d x) : ∀ p, x.2.2 = some p → ∃ f, r.first = some f ∧ CRow r own (4 * d + 1) (r.rh d) r.lead x.2.1 ∧ Fr (cE r.nx r.ot r.tail) r.lab (cU r own (4 * d + 2)) f r.tail p ∧ r.nx r.lead = some f := h_.2.2
def CInv (r : CR) (own : Nat → Nat) : List RLv → Prop
  | [] => False
  | x :: s => r.d = s.length ∧ CTop r own s.length x ∧ COut r own s ∧ ∀ u, u < r.n → own u < 4 * s.length + 4
/-- what is open at one level with its latest part -/
theorem CTop.merge {r : CR} {own : Nat → Nat} {d : Nat} {x : RLv} (T : CTop r own d x) :
    Fr (cE r.nx r.ot r.tail) r.lab (fun u => cU r own (4 * d + 1) u ∨ cU r own (4 * d + 2) u) (r.rh d) r.tail (rl_row x) ∧ ∀ u v, (cU r own (4 * d + 1) u ∨ cU r own (4 * d + 2) u) → cE r.nx r.ot r.tail u v → v ≠ r.rh d := by
  obtain ⟨c, q, p⟩ := x
  cases p with
  | none =>
    obtain ⟨_, h, hn⟩ := T.pn rfl
    refine ⟨h.fr.congr (fun u => ⟨Or.inl, fun z => z.elim id (fun z => (hn u z).elim)⟩) (fun _ _ _ => Iff.rfl) (fun _ _ => rfl), fun u v hu he => ?_⟩
    rcases hu with hu | hu
    · exact h.no u v hu he
    · exact (hn u hu).elim
  | some p =>
    obtain ⟨f, _, h, hp, hx⟩ := T.ps p rfl
    have hd : ∀ u, cU r own (4 * d + 1) u → ¬ cU r own (4 * d + 2) u := fun u a b => by have := a.2; have := b.2; omega
    have hlt : r.lead ≠ r.tail := fun e => hd _ h.fr.tU (e ▸ hp.tU)
    have he1 : ∀ u v, cU r own (4 * d + 1) u → (cE r.nx r.ot r.tail u v ↔ cE r.nx r.ot r.lead u v ∨ (u = r.lead ∧ v = f)) := by
      intro u v hu
      have hut : u ≠ r.tail := fun e => hd _ hu (e ▸ hp.tU)
      constructor
      · rintro (⟨_, q⟩ | q)
        · by_cases e : u = r.lead
          · rw [e, hx] at q; cases q; exact Or.inr ⟨e, rfl⟩
          · exact Or.inl (Or.inl ⟨e, q⟩)
        · exact Or.inl (Or.inr q)
      · rintro ((⟨_, q⟩ | q) | ⟨e, q⟩)
        · exact Or.inl ⟨hut, q⟩
        · exact Or.inr q
        · rw [e, q]; exact Or.inl ⟨hlt, hx⟩
    refine ⟨Fr.seq h.fr hp hd (fun _ => Iff.rfl) he1 (fun _ _ _ => Iff.rfl), fun u v hu he => ?_⟩
    rcases hu with hu | hu
    · rcases (he1 u v hu).mp he with q | ⟨_, q⟩
      · exact h.no u v hu q
      · intro e; exact hd _ h.fr.hU (e ▸ q ▸ hp.hU)
    · intro e; exact hd _ h.fr.hU (e ▸ hp.cl u v hu he)
/-- nothing below a tag has changed -/
abbrev CSame (r r' : CR) (own own' : Nat → Nat) (b : Nat) : Prop := (∀ u, u < r.n → own u < b → u < r'.n ∧ own' u = own u ∧ r'.nx u = r.nx u ∧ r'.ot u = r.ot u ∧ r'.lab u = r.lab u) ∧ (∀ u, u < r'.n → own' u < b → u < r.n ∧ own u < b)
theorem CSame.up {r r' : CR} {own own' : Nat → Nat} {b : Nat} (h_ : CSame r r' own own' b) : ∀ u, u < r.n → own u < b → u < r'.n ∧ own' u = own u ∧ r'.nx u = r.nx u ∧ r'.ot u = r.ot u ∧ r'.lab u = r.lab u := h_.1
theorem CSame.dn {r r' : CR} {own own' : Nat → Nat} {b : Nat} (h_ : CSame r r' own own' b) : ∀ u, u < r'.n → own' u < b → u < r.n ∧ own u < b := h_.2
theorem CSame.cu {r r' : CR} {own own' : Nat → Nat} {b : Nat} (S : CSame r r' own own' b) {s : Nat} (hs : s < b) (u : Nat) : cU r own s u ↔ cU r' own' s u := by
  constructor
  · rintro ⟨h, e⟩
    obtain ⟨h1, h2, _⟩ := S.up u h (by omega)
    exact ⟨h1, by omega⟩
  · rintro ⟨h, e⟩
    obtain ⟨h1, h2⟩ := S.dn u h (by omega)
    obtain ⟨h3, h4, _⟩ := S.up u h1 h2
    exact ⟨h1, by omega⟩
theorem CSame.of {r r' : CR} {own own' : Nat → Nat} {b : Nat} (S : CSame r r' own own' b) {s : Nat} (hs : s < b) {u : Nat} (h : cU r own s u) : r'.nx u = r.nx u ∧ r'.ot u = r.ot u ∧ r'.lab u = r.lab u := (S.up u h.1 (by have := h.2; omega)).2.2
theorem CLev.same {r r' : CR} {own own' : Nat → Nat} {b d : Nat} {Rc : Rl} (h : CLev r own d Rc) (S : CSame r r' own own' b) (hb : 4 * d + 3 < b) (h1 : r'.cs d = r.cs d) (h2 : r'.ce d = r.ce d) (h3 : r'.rh d = r.rh d) : CLev r' own' d Rc := by
  have hc := (h.ceU (r.ce d)).mpr rfl
  refine ⟨?_, ?_, ?_, ?_, ?_, ?_, ?_, ?_⟩
  · rw [h1, h2, h3]
    exact h.ch.congr (S.cu (by omega)) (fun u v hu => by obtain ⟨a, b, _⟩ := S.of (by omega) hu; simp only [cF, a, b]) (fun u hu => (S.of (by omega) hu).2.2.symm)
  · rw [h3]; exact (S.cu (by omega) _).mp h.rhU
  · rw [h3, (S.of (by omega) h.rhU).2.2]; exact h.rhl
  · rw [h3, (S.of (by omega) h.rhU).2.1]; exact h.rho
  · intro u; rw [h2, ← S.cu (by omega) u]; exact h.ceU u
  · rw [h2, (S.of (by omega) hc).2.2]; exact h.cel
  · rw [h2, (S.of (by omega) hc).2.1]; exact h.ceo
  · rw [h2, (S.of (by omega) hc).1]; exact h.cen
theorem CRow.same {r r' : CR} {own own' : Nat → Nat} {b s h t : Nat} {R : Rl} (F : CRow r own s h t R) (S : CSame r r' own own' b) (hb : s < b) : CRow r' own' s h t R := by
  have he : ∀ u v, cU r own s u → (cE r.nx r.ot t u v ↔ cE r'.nx r'.ot t u v) := fun u v hu => by obtain ⟨a, b, _⟩ := S.of hb hu; simp only [cE, a, b]
  exact ⟨F.fr.congr (S.cu hb) he (fun u hu => (S.of hb hu).2.2.symm), fun u v hu hh => F.no u v ((S.cu hb u).mpr hu) ((he u v ((S.cu hb u).mpr hu)).mpr hh)⟩
theorem COut.same {r r' : CR} {own own' : Nat → Nat} {b : Nat} (S : CSame r r' own own' b) : ∀ (s : List RLv), COut r own s → 4 * s.length ≤ b → (∀ k, k < s.length → r'.cs k = r.cs k ∧ r'.ce k = r.ce k ∧ r'.rh k = r.rh k ∧ r'.ou (k + 1) = r.ou (k + 1)) → COut r' own' s
  | [], _, _, _ => trivial
  | x :: s, h, hb, ho => by
    have hl : (x :: s).length = s.length + 1 := rfl
    obtain ⟨h1, h2, h3, h4⟩ := ho s.length (by omega)
    refine ⟨⟨h.1.1.same S (by omega) h1 h2 h3, ?_, ?_⟩, COut.same S s h.2 (by omega) (fun k hk => ho k (by omega))⟩
    · rw [h3, h4]; exact h.1.2.1.same S (by omega)
    · intro u hu; exact h.1.2.2 u ((S.cu (by omega) u).mpr hu)
theorem CLev.upd {r r' : CR} {own own' : Nat → Nat} {d : Nat} {Rc : Rl} (h : CLev r own d Rc) (hcs : r'.cs d = r.cs d) (hce : r'.ce d = r.ce d) (hrh : r'.rh d = r.rh d)
    (hU : ∀ u, cU r own (4 * d) u ↔ cU r' own' (4 * d) u) (hC : ∀ u, cU r own (4 * d + 3) u ↔ cU r' own' (4 * d + 3) u) (hr : cU r' own' (4 * d + 1) (r.rh d))
    (hl : ∀ u, u < r.n → r'.lab u = r.lab u) (ho : ∀ u, u < r.n → r'.ot u = r.ot u) (hx : ∀ u, cU r own (4 * d) u ∨ cU r own (4 * d + 3) u → r'.nx u = r.nx u) : CLev r' own' d Rc := by
  have hc := (h.ceU (r.ce d)).mpr rfl
  refine ⟨?_, ?_, ?_, ?_, ?_, ?_, ?_, ?_⟩
  · rw [hcs, hce, hrh]
    exact h.ch.congr hU (fun u v hu => by simp only [cF, hx u (Or.inl hu), ho u hu.1]) (fun u hu => (hl u hu.1).symm)
  · rw [hrh]; exact hr
  · rw [hrh, hl _ h.rhU.1]; exact h.rhl
  · rw [hrh, ho _ h.rhU.1]; exact h.rho
  · intro u; rw [hce, ← hC u]; exact h.ceU u
  · rw [hce, hl _ hc.1]; exact h.cel
  · rw [hce, ho _ hc.1]; exact h.ceo
  · rw [hce, hx _ (Or.inr hc)]; exact h.cen
/-- a tail lies in the open level -/
theorem CTop.tailU {r : CR} {own : Nat → Nat} {d : Nat} {x : RLv} (T : CTop r own d x) : r.tail < r.n ∧ (own r.tail = 4 * d + 1 ∨ own r.tail = 4 * d + 2) := by
  rcases T.merge.1.tU with h | h
  · exact ⟨h.1, Or.inl h.2⟩
  · exact ⟨h.1, Or.inr h.2⟩
def c_single (r : CR) (l : Rl) : CR := (CR.mk (r.n + 1) (sU (sU r.nx r.n none) r.tail (some r.n)) (sU r.ot r.n none) (sU r.lab r.n l) r.cs r.ce r.rh r.ou r.d (r.tail) (some r.n) (r.n))
theorem c_single_inv {r : CR} {own : Nat → Nat} {st : List RLv} (h : CInv r own st) (l : Rl) : ∃ own', CInv (c_single r l) own' (st_single l st) := by
  cases st with
  | nil => exact h.elim
  | cons x s =>
    obtain ⟨hd, T, O, hB⟩ := h
    obtain ⟨M, hno⟩ := T.merge
    obtain ⟨htn, hto⟩ := T.tailU
    let d := s.length
    let own' : Nat → Nat := fun u => if u = r.n then 4 * s.length + 2 else if own u = 4 * s.length + 2 then 4 * s.length + 1 else own u
    have ho : ∀ u, u < r.n → own' u = if own u = 4 * s.length + 2 then 4 * s.length + 1 else own u := fun u hu => by simp only [own']; rw [if_neg (by omega)]
    have hon : own' r.n = 4 * s.length + 2 := by simp only [own', if_true]
    have hlab : ∀ u, u < r.n → (c_single r l).lab u = r.lab u := fun u hu => sU_ne _ _ (by omega)
    have hot : ∀ u, u < r.n → (c_single r l).ot u = r.ot u := fun u hu => sU_ne _ _ (by omega)
    have hnx : ∀ u, u < r.n → u ≠ r.tail → (c_single r l).nx u = r.nx u := fun u hu hne => by
      show sU _ _ _ u = _
      rw [sU_ne _ _ hne, sU_ne _ _ (by omega)]
    have hn : (c_single r l).n = r.n + 1 := rfl
    have hcu : ∀ k, k ≠ 4 * s.length + 1 → k ≠ 4 * s.length + 2 → ∀ u, cU r own k u ↔ cU (c_single r l) own' k u := by
      intro k h1 h2 u
      constructor
      · rintro ⟨a, b⟩
        refine ⟨by rw [hn]; omega, ?_⟩
        rw [ho u a, if_neg (by omega)]; exact b
      · rintro ⟨a, b⟩
        rw [hn] at a
        by_cases e : u = r.n
        · rw [e, hon] at b; omega
        · have a' : u < r.n := by omega
          rw [ho u a'] at b
          by_cases q : own u = 4 * s.length + 2
          · rw [if_pos q] at b; omega
          · rw [if_neg q] at b; exact ⟨a', b⟩
    have hS : CSame r (c_single r l) own own' (4 * s.length) := by
      refine ⟨fun u hu hb => ⟨by rw [hn]; omega, by rw [ho u hu, if_neg (by omega)], hnx u hu (fun e => by rw [e] at hb; omega), hot u hu, hlab u hu⟩, fun u hu hb => ?_⟩
      rw [hn] at hu
      by_cases e : u = r.n
      · rw [e, hon] at hb; omega
      · have a' : u < r.n := by omega
        rw [ho u a'] at hb
        by_cases q : own u = 4 * s.length + 2
        · rw [if_pos q] at hb; omega
        · rw [if_neg q] at hb; exact ⟨a', hb⟩
    have hrow : ∀ u, (cU r own (4 * s.length + 1) u ∨ cU r own (4 * s.length + 2) u) ↔ cU (c_single r l) own' (4 * s.length + 1) u := by
      intro u
      constructor
      · rintro (⟨a, b⟩ | ⟨a, b⟩)
        · exact ⟨by rw [hn]; omega, by rw [ho u a, if_neg (by omega)]; exact b⟩
        · exact ⟨by rw [hn]; omega, by rw [ho u a, if_pos b]⟩
      · rintro ⟨a, b⟩
        rw [hn] at a
        by_cases e : u = r.n
        · rw [e, hon] at b; omega
        · have a' : u < r.n := by omega
          rw [ho u a'] at b
          by_cases q : own u = 4 * s.length + 2
          · exact Or.inr ⟨a', q⟩
          · rw [if_neg q] at b; exact Or.inl ⟨a', b⟩
    have he : ∀ u v, (cU r own (4 * s.length + 1) u ∨ cU r own (4 * s.length + 2) u) → (cE r.nx r.ot r.tail u v ↔ cE (c_single r l).nx (c_single r l).ot r.tail u v) := by
      intro u v hu
      have a : u < r.n := hu.elim (fun z => z.1) (fun z => z.1)
      simp only [cE, hot u a]
      constructor
      · rintro (⟨p, q⟩ | q)
        · exact Or.inl ⟨p, by rw [hnx u a p]; exact q⟩
        · exact Or.inr q
      · rintro (⟨p, q⟩ | q)
        · exact Or.inl ⟨p, by rw [hnx u a p] at q; exact q⟩
        · exact Or.inr q
    refine ⟨own', hd, ⟨?_, ?_, ?_⟩, ?_, ?_⟩
    · refine T.lev.upd rfl rfl rfl (hcu _ (by omega) (by omega)) (hcu _ (by omega) (by omega)) ((hrow _).mp (Or.inl T.lev.rhU)) hlab hot (fun u hu => hnx u (hu.elim (fun z => z.1) (fun z => z.1)) (fun e => by rcases hu with hu | hu <;> (have := hu.2; rw [e] at this; omega)))
    · intro e; cases e
    · intro p e
      have e' : l = p := Option.some.inj e
      refine ⟨r.n, rfl, ⟨M.congr hrow he (fun u hu => (hlab u (hu.elim (fun z => z.1) (fun z => z.1))).symm), ?_⟩, ?_, ?_⟩
      · intro u v hu hh
        exact hno u v ((hrow u).mpr hu) ((he u v ((hrow u).mpr hu)).mpr hh)
      · have hlab' : (c_single r l).lab r.n = p := by rw [← e']; exact sU_self _ _ _
        rw [← hlab']
        refine Fr.node (fun u => ?_) (fun v hv => ?_)
        · constructor
          · rintro ⟨a, b⟩
            by_cases e : u = r.n
            · exact e
            · have a' : u < r.n := by rw [hn] at a; omega
              rw [ho u a'] at b
              by_cases q : own u = 4 * s.length + 2
              · rw [if_pos q] at b; omega
              · rw [if_neg q] at b; exact (q b).elim
          · intro e; rw [e]; exact ⟨by rw [hn]; omega, hon⟩
        · rcases hv with ⟨a, _⟩ | b
          · exact a rfl
          · rw [show (c_single r l).ot r.n = none from sU_self _ _ _] at b; cases b
      · exact sU_self _ _ _
    · exact COut.same hS s O (Nat.le_refl _) (fun k _ => ⟨rfl, rfl, rfl, rfl⟩)
    · intro u hu
      rw [hn] at hu
      by_cases e : u = r.n
      · rw [e, hon]; omega
      · have a' : u < r.n := by omega
        have := hB u a'
        rw [ho u a']
        split <;> omega
/-- the latest part is put in the place of another one -/
theorem CInv.rep {r r' : CR} {own own' : Nat → Nat} {c : Option Rl} {q p p' : Rl} {s : List RLv} (h : CInv r own ((c, q, some p) :: s)) (hn : r.n ≤ r'.n)
    (ho : ∀ u, u < r.n → own' u = own u) (hon : ∀ u, r.n ≤ u → u < r'.n → own' u = 4 * s.length + 2)
    (hlab : ∀ u, u < r.n → r'.lab u = r.lab u) (hot : ∀ u, u < r.n → r'.ot u = r.ot u) (hnx : ∀ u, u < r.n → u ≠ r.tail → u ≠ r.lead → r'.nx u = r.nx u)
    (h1 : r'.cs = r.cs) (h2 : r'.ce = r.ce) (h3 : r'.rh = r.rh) (h4 : r'.ou = r.ou) (h5 : r'.d = r.d) (h6 : r'.lead = r.lead) {f' : Nat} (hf : r'.first = some f') (hx : r'.nx r.lead = some f')
    (hF : Fr (cE r'.nx r'.ot r'.tail) r'.lab (cU r' own' (4 * s.length + 2)) f' r'.tail p') : CInv r' own' ((c, q, some p') :: s) := by
  obtain ⟨hd, T, O, hB⟩ := h
  obtain ⟨htn, hto⟩ := T.tailU
  obtain ⟨f, hf0, hrow, hpart, hlx⟩ := T.ps p rfl
  have htU := hpart.tU
  have hlU := hrow.fr.tU
  have hcu : ∀ k, k ≠ 4 * s.length + 2 → ∀ u, cU r own k u ↔ cU r' own' k u := by
    intro k hk u
    constructor
    · rintro ⟨a, b⟩; exact ⟨by omega, by rw [ho u a]; exact b⟩
    · rintro ⟨a, b⟩
      by_cases e : u < r.n
      · exact ⟨e, by rw [ho u e] at b; exact b⟩
      · rw [hon u (by omega) a] at b; exact (hk b.symm).elim
  have hS : CSame r r' own own' (4 * s.length) := by
    refine ⟨fun u hu hb => ⟨by omega, ho u hu, hnx u hu (fun e => by have := htU.2; rw [e] at hb; omega) (fun e => by have := hlU.2; rw [e] at hb; omega), hot u hu, hlab u hu⟩, fun u hu hb => ?_⟩
    by_cases e : u < r.n
    · exact ⟨e, by rw [ho u e] at hb; exact hb⟩
    · rw [hon u (by omega) hu] at hb; omega
  have he : ∀ u v, cU r own (4 * s.length + 1) u → (cE r.nx r.ot r.lead u v ↔ cE r'.nx r'.ot r.lead u v) := by
    intro u v hu
    have hut : u ≠ r.tail := fun e => by have := htU.2; have := hu.2; rw [e] at this; omega
    simp only [cE, hot u hu.1]
    constructor
    · rintro (⟨a, b⟩ | b)
      · exact Or.inl ⟨a, by rw [hnx u hu.1 hut a]; exact b⟩
      · exact Or.inr b
    · rintro (⟨a, b⟩ | b)
      · exact Or.inl ⟨a, by rw [hnx u hu.1 hut a] at b; exact b⟩
      · exact Or.inr b
  refine ⟨by rw [h5]; exact hd, ⟨?_, ?_, ?_⟩, ?_, ?_⟩
  · refine T.lev.upd (by rw [h1]) (by rw [h2]) (by rw [h3]) (hcu _ (by omega)) (hcu _ (by omega)) ((hcu _ (by omega) _).mp T.lev.rhU) hlab hot (fun u hu => hnx u (hu.elim (fun z => z.1) (fun z => z.1)) (fun e => ?_) (fun e => ?_))
    · have := htU.2; rcases hu with hu | hu <;> (have := hu.2; rw [e] at this; omega)
    · have := hlU.2; rcases hu with hu | hu <;> (have := hu.2; rw [e] at this; omega)
  · intro e; cases e
  · intro p2 e
    have e' : p' = p2 := Option.some.inj e
    subst e'
    refine ⟨f', hf, ⟨?_, ?_⟩, hF, by rw [h6]; exact hx⟩
    · rw [h3, h6]
      exact hrow.fr.congr (hcu _ (by omega)) he (fun u hu => (hlab u hu.1).symm)
    · intro u v hu hh
      rw [h6] at hh
      rw [h3]
      exact hrow.no u v ((hcu _ (by omega) u).mpr hu) ((he u v ((hcu _ (by omega) u).mpr hu)).mpr hh)
  · exact COut.same hS s O (Nat.le_refl _) (fun k _ => ⟨by rw [h1], by rw [h2], by rw [h3], by rw [h4]⟩)
  · intro u hu
    by_cases e : u < r.n
    · rw [ho u e]; exact hB u e
    · rw [hon u (by omega) hu]; omega
def c_loop (r : CR) (f : Nat) (star : Bool) : CR := (CR.mk (r.n + 1) (if star then sU (sU (sU r.nx r.n none) r.tail (some r.n)) r.lead (some r.n) else sU (sU r.nx r.n none) r.tail (some r.n)) (sU r.ot r.n (some f)) (sU r.lab r.n rl_id) r.cs r.ce r.rh r.ou r.d r.lead (if star then some r.n else some f) (r.n))
theorem c_loop_inv {r : CR} {own : Nat → Nat} {c : Option Rl} {q p : Rl} {s : List RLv} (h : CInv r own ((c, q, some p) :: s)) {f : Nat} (hf : r.first = some f) (star : Bool) : ∃ own', CInv (c_loop r f star) own' (st_times star true ((c, q, some p) :: s)) := by
  have T := h.2.1
  obtain ⟨f0, hf0, hrow, hpart, hlx⟩ := T.ps p rfl
  have hff : f0 = f := by rw [hf] at hf0; exact (Option.some.inj hf0).symm
  subst hff
  have htU := hpart.tU
  have hlU := hrow.fr.tU
  have htl : r.tail ≠ r.lead := fun e => by have := htU.2; have := hlU.2; rw [e] at *; omega
  have htn := htU.1
  have hln := hlU.1
  refine ⟨fun u => if u = r.n then 4 * s.length + 2 else own u, ?_⟩
  have ho : ∀ u, u < r.n → (if u = r.n then 4 * s.length + 2 else own u) = own u := fun u hu => if_neg (by omega)
  have hlab : ∀ u, u < r.n → (c_loop r f0 star).lab u = r.lab u := fun u hu => sU_ne _ _ (by omega)
  have hot : ∀ u, u < r.n → (c_loop r f0 star).ot u = r.ot u := fun u hu => sU_ne _ _ (by omega)
  have hnx : ∀ u, u < r.n → u ≠ r.tail → u ≠ r.lead → (c_loop r f0 star).nx u = r.nx u := fun u hu h1 h2 => by
    cases star
    · show sU _ _ _ u = _
      rw [sU_ne _ _ h1, sU_ne _ _ (by omega)]
    · show sU _ _ _ u = _
      rw [sU_ne _ _ h2, sU_ne _ _ h1, sU_ne _ _ (by omega)]
  have hnt : (c_loop r f0 star).nx r.tail = some r.n := by
    cases star
    · exact sU_self _ _ _
    · show sU _ _ _ _ = _
      rw [sU_ne _ _ htl, sU_self]
  have hcu : ∀ u, cU (c_loop r f0 star) (fun u => if u = r.n then 4 * s.length + 2 else own u) (4 * s.length + 2) u ↔ cU r own (4 * s.length + 2) u ∨ u = r.n := by
    intro u
    constructor
    · rintro ⟨a, b⟩
      by_cases e : u = r.n
      · exact Or.inr e
      · have a' : u < r.n + 1 := a
        refine Or.inl ⟨by omega, ?_⟩
        simp only [if_neg e] at b; exact b
    · rintro (⟨a, b⟩ | e)
      · exact ⟨show u < r.n + 1 by omega, by simp only; rw [ho u a]; exact b⟩
      · exact ⟨show u < r.n + 1 by omega, by simp only; rw [if_pos e]⟩
  have hpart' : Fr (cE r.nx r.ot r.tail) (c_loop r f0 star).lab (cU r own (4 * s.length + 2)) f0 r.tail p := hpart.congr (fun _ => Iff.rfl) (fun _ _ _ => Iff.rfl) (fun u hu => (hlab u hu.1).symm)
  have hL := Fr.loop (e := cE (c_loop r f0 star).nx (c_loop r f0 star).ot r.n) (U := cU (c_loop r f0 star) (fun u => if u = r.n then 4 * s.length + 2 else own u) (4 * s.length + 2)) (f := r.n) hpart' (fun z => by have := z.1; omega) (sU_self _ _ _) hcu
    (fun u v hu => by
      have hul : u ≠ r.lead := fun e => by have := hlU.2; have := hu.2; rw [e] at this; omega
      have hun : u ≠ r.n := by have := hu.1; omega
      simp only [cE, hot u hu.1]
      by_cases e : u = r.tail
      · subst e
        constructor
        · rintro (⟨_, b⟩ | b)
          · rw [hnt] at b; exact Or.inr ⟨rfl, (Option.some.inj b).symm⟩
          · exact Or.inl (Or.inr b)
        · rintro ((⟨a, _⟩ | b) | ⟨_, b⟩)
          · exact (a rfl).elim
          · exact Or.inr b
          · rw [b]; exact Or.inl ⟨hun, hnt⟩
      · rw [hnx u hu.1 e hul]
        constructor
        · rintro (⟨_, b⟩ | b)
          · exact Or.inl (Or.inl ⟨e, b⟩)
          · exact Or.inl (Or.inr b)
        · rintro ((⟨_, b⟩ | b) | ⟨b, _⟩)
          · exact Or.inl ⟨hun, b⟩
          · exact Or.inr b
          · exact (e b).elim)
    (fun v => by
      have hon : (c_loop r f0 star).ot r.n = some f0 := sU_self _ _ _
      simp only [cE, hon]
      constructor
      · rintro (⟨a, _⟩ | b)
        · exact (a rfl).elim
        · exact (Option.some.inj b).symm
      · intro e; rw [e]; exact Or.inr rfl)
  cases star
  · refine CInv.rep h (show r.n ≤ r.n + 1 by omega) ho (fun u h1 h2 => ?_) hlab hot hnx rfl rfl rfl rfl rfl rfl rfl ?_ ?_
    · have h2' : u < r.n + 1 := h2
      have e : u = r.n := by omega
      rw [if_pos e]
    · show sU _ _ _ _ = _
      rw [sU_ne _ _ (fun e => htl e.symm), sU_ne _ _ (by omega)]; exact hlx
    · rw [rl_times_plus]; exact hL.2
  · refine CInv.rep h (show r.n ≤ r.n + 1 by omega) ho (fun u h1 h2 => ?_) hlab hot hnx rfl rfl rfl rfl rfl rfl rfl ?_ ?_
    · have h2' : u < r.n + 1 := h2
      have e : u = r.n := by omega
      rw [if_pos e]
    · exact sU_self _ _ _
    · rw [rl_times_star]; exact hL.1
def c_opt (r : CR) (f : Nat) : CR := (CR.mk (r.n + 2) (sU (sU (sU (sU (sU r.nx r.n none) (r.n + 1) none) r.n (some (r.n + 1))) r.tail (some (r.n + 1))) r.lead (some r.n)) (sU (sU r.ot r.n (some f)) (r.n + 1) none) (sU (sU r.lab r.n rl_id) (r.n + 1) rl_id) r.cs r.ce r.rh r.ou r.d r.lead (some r.n) (r.n + 1))
theorem c_opt_inv {r : CR} {own : Nat → Nat} {c : Option Rl} {q p : Rl} {s : List RLv} (h : CInv r own ((c, q, some p) :: s)) {f : Nat} (hf : r.first = some f) : ∃ own', CInv (c_opt r f) own' (st_times true false ((c, q, some p) :: s)) := by
  have T := h.2.1
  obtain ⟨f0, hf0, hrow, hpart, hlx⟩ := T.ps p rfl
  have hff : f0 = f := by rw [hf] at hf0; exact (Option.some.inj hf0).symm
  subst hff
  have htU := hpart.tU
  have hlU := hrow.fr.tU
  have htl : r.tail ≠ r.lead := fun e => by have := htU.2; have := hlU.2; rw [e] at *; omega
  have htn := htU.1
  have hln := hlU.1
  refine ⟨fun u => if r.n ≤ u then 4 * s.length + 2 else own u, ?_⟩
  have ho : ∀ u, u < r.n → (if r.n ≤ u then 4 * s.length + 2 else own u) = own u := fun u hu => if_neg (by omega)
  have hlab : ∀ u, u < r.n → (c_opt r f0).lab u = r.lab u := fun u hu => by
    show sU _ _ _ u = _
    rw [sU_ne _ _ (by omega), sU_ne _ _ (by omega)]
  have hot : ∀ u, u < r.n → (c_opt r f0).ot u = r.ot u := fun u hu => by
    show sU _ _ _ u = _
    rw [sU_ne _ _ (by omega), sU_ne _ _ (by omega)]
  have hnx : ∀ u, u < r.n → u ≠ r.tail → u ≠ r.lead → (c_opt r f0).nx u = r.nx u := fun u hu h1 h2 => by
    show sU _ _ _ u = _
    rw [sU_ne _ _ h2, sU_ne _ _ h1, sU_ne _ _ (by omega), sU_ne _ _ (by omega), sU_ne _ _ (by omega)]
  have hnt : (c_opt r f0).nx r.tail = some (r.n + 1) := by
    show sU _ _ _ _ = _
    rw [sU_ne _ _ htl, sU_self]
  have hnn : (c_opt r f0).nx r.n = some (r.n + 1) := by
    show sU _ _ _ _ = _
    rw [sU_ne _ _ (by omega), sU_ne _ _ (by omega), sU_self]
  have hon : (c_opt r f0).ot r.n = some f0 := by
    show sU _ _ _ _ = _
    rw [sU_ne _ _ (by omega), sU_self]
  have hox : (c_opt r f0).ot (r.n + 1) = none := sU_self _ _ _
  have hcu : ∀ u, cU (c_opt r f0) (fun u => if r.n ≤ u then 4 * s.length + 2 else own u) (4 * s.length + 2) u ↔ cU r own (4 * s.length + 2) u ∨ u = r.n ∨ u = r.n + 1 := by
    intro u
    constructor
    · rintro ⟨a, b⟩
      have a' : u < r.n + 2 := a
      by_cases e : r.n ≤ u
      · exact Or.inr (by omega)
      · refine Or.inl ⟨by omega, ?_⟩
        simp only [if_neg e] at b; exact b
    · rintro (⟨a, b⟩ | e)
      · exact ⟨show u < r.n + 2 by omega, by simp only; rw [ho u a]; exact b⟩
      · exact ⟨show u < r.n + 2 by omega, by simp only; rw [if_pos (by omega)]⟩
  have hpart' : Fr (cE r.nx r.ot r.tail) (c_opt r f0).lab (cU r own (4 * s.length + 2)) f0 r.tail p := hpart.congr (fun _ => Iff.rfl) (fun _ _ _ => Iff.rfl) (fun u hu => (hlab u hu.1).symm)
  have hL := Fr.around (e := cE (c_opt r f0).nx (c_opt r f0).ot (r.n + 1)) (U := cU (c_opt r f0) (fun u => if r.n ≤ u then 4 * s.length + 2 else own u) (4 * s.length + 2)) (a := r.n) (b := r.n + 1) hpart' true false (fun z => by have := z.1; omega) (fun z => by have := z.1; omega) (by omega)
    (by show sU _ _ _ _ = _; rw [sU_ne _ _ (by omega), sU_self]) (sU_self _ _ _) hcu
    (fun u v hu => by
      have hul : u ≠ r.lead := fun e => by have := hlU.2; have := hu.2; rw [e] at this; omega
      have hun : u ≠ r.n + 1 := by have := hu.1; omega
      simp only [cE, hot u hu.1]
      by_cases e : u = r.tail
      · subst e
        constructor
        · rintro (⟨_, b⟩ | b)
          · rw [hnt] at b; exact Or.inr ⟨rfl, Or.inl (Option.some.inj b).symm⟩
          · exact Or.inl (Or.inr b)
        · rintro ((⟨a, _⟩ | b) | ⟨_, b | ⟨b, _⟩⟩)
          · exact (a rfl).elim
          · exact Or.inr b
          · rw [b]; exact Or.inl ⟨hun, hnt⟩
          · cases b
      · rw [hnx u hu.1 e hul]
        constructor
        · rintro (⟨_, b⟩ | b)
          · exact Or.inl (Or.inl ⟨e, b⟩)
          · exact Or.inl (Or.inr b)
        · rintro ((⟨_, b⟩ | b) | ⟨b, _⟩)
          · exact Or.inl ⟨hun, b⟩
          · exact Or.inr b
          · exact (e b).elim)
    (fun v => by
      simp only [cE, hon, hnn]
      constructor
      · rintro (⟨_, b⟩ | b)
        · exact Or.inr ⟨trivial, (Option.some.inj b).symm⟩
        · exact Or.inl (Option.some.inj b).symm
      · rintro (e | ⟨_, e⟩)
        · rw [e]; exact Or.inr rfl
        · rw [e]; exact Or.inl ⟨by omega, rfl⟩)
    (fun v hv => by
      rcases hv with ⟨a, _⟩ | b
      · exact a rfl
      · rw [hox] at b; cases b)
  refine CInv.rep h (show r.n ≤ r.n + 2 by omega) ho (fun u h1 h2 => ?_) hlab hot hnx rfl rfl rfl rfl rfl rfl rfl ?_ ?_
  · rw [if_pos h1]
  · exact sU_self _ _ _
  · exact hL
def c_open (r : CR) : CR := (CR.mk (r.n + 2) (sU (sU r.nx r.n none) (r.n + 1) none) (sU (sU r.ot r.n none) (r.n + 1) none) (sU (sU r.lab r.n rl_id) (r.n + 1) rl_id) (sU r.cs (r.d + 1) r.n) (sU r.ce (r.d + 1) (r.n + 1)) (sU r.rh (r.d + 1) r.n) (sU r.ou (r.d + 1) r.tail) (r.d + 1) r.lead (none) (r.n))
/-- a level that has just been opened -/
theorem CTop.fresh {r : CR} {own : Nat → Nat} {d a : Nat} (hn : r.n = a + 2) (hcs : r.cs d = a) (hce : r.ce d = a + 1) (hrh : r.rh d = a) (ht : r.tail = a) (hf : r.first = none)
    (hlo : ∀ u, u < a → own u < 4 * d) (h1 : own a = 4 * d + 1) (h2 : own (a + 1) = 4 * d + 3) (hl1 : r.lab a = rl_id) (hl2 : r.lab (a + 1) = rl_id) (ho1 : r.ot a = none) (ho2 : r.ot (a + 1) = none) (hx2 : r.nx (a + 1) = none) : CTop r own d (none, rl_id, none) := by
  have hcu : ∀ k u, 4 * d ≤ k → cU r own k u → (u = a ∧ k = 4 * d + 1) ∨ (u = a + 1 ∧ k = 4 * d + 3) := by
    rintro k u hk ⟨p, q⟩
    by_cases e : u < a
    · have := hlo u e; omega
    · by_cases e1 : u = a
      · subst e1; left; exact ⟨rfl, by omega⟩
      · have e2 : u = a + 1 := by omega
        subst e2; right; exact ⟨rfl, by omega⟩
  refine ⟨⟨?_, ?_, ?_, ?_, ?_, ?_, ?_, ?_⟩, ?_, ?_⟩
  · rw [hcs, hrh, hce]
    exact Ch.nil (fun u hu => by rcases hcu _ u (Nat.le_refl _) hu with ⟨_, h⟩ | ⟨_, h⟩ <;> omega) (by omega)
  · rw [hrh]; exact ⟨by omega, h1⟩
  · rw [hrh]; exact hl1
  · rw [hrh]; exact ho1
  · intro u; rw [hce]
    constructor
    · intro hu; rcases hcu _ u (by omega) hu with ⟨_, h⟩ | ⟨h, _⟩
      · omega
      · exact h
    · intro e; rw [e]; exact ⟨by omega, h2⟩
  · rw [hce]; exact hl2
  · rw [hce]; exact ho2
  · rw [hce]; exact hx2
  · intro _
    have hno : ∀ v, ¬ cE r.nx r.ot r.tail a v := by
      rintro v (⟨p, _⟩ | q)
      · exact p ht.symm
      · rw [ho1] at q; cases q
    refine ⟨hf, ⟨?_, ?_⟩, fun u hu => by rcases hcu _ u (by omega) hu with ⟨_, h⟩ | ⟨_, h⟩ <;> omega⟩
    · have hh : Fr (cE r.nx r.ot r.tail) r.lab (cU r own (4 * d + 1)) a a (r.lab a) := Fr.node (fun u => ⟨fun hu => by rcases hcu _ u (by omega) hu with ⟨h, _⟩ | ⟨_, h⟩ <;> omega, fun e => by rw [e]; exact ⟨by omega, h1⟩⟩) hno
      rw [hl1] at hh
      rw [hrh, ht]
      rw [ht] at hh
      exact hh
    · intro u v hu he
      have e : u = a := by rcases hcu _ u (by omega) hu with ⟨h, _⟩ | ⟨_, h⟩ <;> omega
      rw [e] at he
      exact (hno v he).elim
  · intro p e; cases e
theorem c_open_inv {r : CR} {own : Nat → Nat} {st : List RLv} (h : CInv r own st) : ∃ own', CInv (c_open r) own' (st_open st) := by
  cases st with
  | nil => exact h.elim
  | cons x s =>
    obtain ⟨hd, T, O, hB⟩ := h
    obtain ⟨M, hno⟩ := T.merge
    obtain ⟨htn, hto⟩ := T.tailU
    let own' : Nat → Nat := fun u => if u = r.n then 4 * (s.length + 1) + 1 else if u = r.n + 1 then 4 * (s.length + 1) + 3 else if own u = 4 * s.length + 2 then 4 * s.length + 1 else own u
    have ho : ∀ u, u < r.n → own' u = if own u = 4 * s.length + 2 then 4 * s.length + 1 else own u := fun u hu => by simp only [own']; rw [if_neg (by omega), if_neg (by omega)]
    have hon : own' r.n = 4 * (s.length + 1) + 1 := by simp only [own', if_true]
    have hon1 : own' (r.n + 1) = 4 * (s.length + 1) + 3 := by simp only [own']; rw [if_neg (by omega), if_pos trivial]
    have hn : (c_open r).n = r.n + 2 := rfl
    have hlab : ∀ u, u < r.n → (c_open r).lab u = r.lab u := fun u hu => by
      show sU _ _ _ u = _
      rw [sU_ne _ _ (by omega), sU_ne _ _ (by omega)]
    have hot : ∀ u, u < r.n → (c_open r).ot u = r.ot u := fun u hu => by
      show sU _ _ _ u = _
      rw [sU_ne _ _ (by omega), sU_ne _ _ (by omega)]
    have hnx : ∀ u, u < r.n → (c_open r).nx u = r.nx u := fun u hu => by
      show sU _ _ _ u = _
      rw [sU_ne _ _ (by omega), sU_ne _ _ (by omega)]
    have hbig : ∀ u, u < (c_open r).n → own' u < 4 * (s.length + 1) → u < r.n := by
      intro u hu hb
      rw [hn] at hu
      by_cases e : u = r.n
      · rw [e, hon] at hb; omega
      · by_cases e1 : u = r.n + 1
        · rw [e1, hon1] at hb; omega
        · omega
    have hcu : ∀ k, k < 4 * (s.length + 1) → k ≠ 4 * s.length + 1 → k ≠ 4 * s.length + 2 → ∀ u, cU r own k u ↔ cU (c_open r) own' k u := by
      intro k h0 h1 h2 u
      constructor
      · rintro ⟨a, b⟩
        exact ⟨by rw [hn]; omega, by rw [ho u a, if_neg (by omega)]; exact b⟩
      · rintro ⟨a, b⟩
        have a' := hbig u a (by omega)
        rw [ho u a'] at b
        by_cases q : own u = 4 * s.length + 2
        · rw [if_pos q] at b; omega
        · rw [if_neg q] at b; exact ⟨a', b⟩
    have hrow : ∀ u, (cU r own (4 * s.length + 1) u ∨ cU r own (4 * s.length + 2) u) ↔ cU (c_open r) own' (4 * s.length + 1) u := by
      intro u
      constructor
      · rintro (⟨a, b⟩ | ⟨a, b⟩)
        · exact ⟨by rw [hn]; omega, by rw [ho u a, if_neg (by omega)]; exact b⟩
        · exact ⟨by rw [hn]; omega, by rw [ho u a, if_pos b]⟩
      · rintro ⟨a, b⟩
        have a' := hbig u a (by omega)
        rw [ho u a'] at b
        by_cases q : own u = 4 * s.length + 2
        · exact Or.inr ⟨a', q⟩
        · rw [if_neg q] at b; exact Or.inl ⟨a', b⟩
    have hS : CSame r (c_open r) own own' (4 * s.length) := by
      refine ⟨fun u hu hb => ⟨by rw [hn]; omega, by rw [ho u hu, if_neg (by omega)], hnx u hu, hot u hu, hlab u hu⟩, fun u hu hb => ?_⟩
      have a' := hbig u hu (by omega)
      rw [ho u a'] at hb
      by_cases q : own u = 4 * s.length + 2
      · rw [if_pos q] at hb; omega
      · rw [if_neg q] at hb; exact ⟨a', hb⟩
    have he : ∀ u v, (cU r own (4 * s.length + 1) u ∨ cU r own (4 * s.length + 2) u) → (cE r.nx r.ot r.tail u v ↔ cE (c_open r).nx (c_open r).ot r.tail u v) := by
      intro u v hu
      have a : u < r.n := hu.elim (fun z => z.1) (fun z => z.1)
      simp only [cE, hot u a, hnx u a]
    have hsd : ∀ f : Nat → Nat, ∀ v, sU f (r.d + 1) v s.length = f s.length := fun f v => sU_ne _ _ (by omega)
    have hls : (x :: s).length = s.length + 1 := rfl
    have hdd : r.d + 1 = s.length + 1 := by omega
    refine ⟨own', show r.d + 1 = s.length + 1 by omega, ?_, ⟨⟨?_, ⟨?_, ?_⟩, ?_⟩, ?_⟩, ?_⟩
    · rw [hls]
      refine CTop.fresh (a := r.n) rfl ?_ ?_ ?_ rfl rfl ?_ hon hon1 ?_ (sU_self _ _ _) ?_ (sU_self _ _ _) (sU_self _ _ _)
      · show sU _ _ _ _ = _; rw [← hdd, sU_self]
      · show sU _ _ _ _ = _; rw [← hdd, sU_self]
      · show sU _ _ _ _ = _; rw [← hdd, sU_self]
      · intro u hu; have := hB u hu; rw [ho u hu]; split <;> omega
      · show sU _ _ _ _ = _; rw [sU_ne _ _ (by omega), sU_self]
      · show sU _ _ _ _ = _; rw [sU_ne _ _ (by omega), sU_self]
    · refine T.lev.upd (hsd _ _) (hsd _ _) (hsd _ _) (hcu _ (by omega) (by omega) (by omega)) (hcu _ (by omega) (by omega) (by omega)) ((hrow _).mp (Or.inl T.lev.rhU)) hlab hot (fun u hu => hnx u (hu.elim (fun z => z.1) (fun z => z.1)))
    · have e1 : (c_open r).rh s.length = r.rh s.length := hsd _ _
      have e2 : (c_open r).ou (s.length + 1) = r.tail := by show sU _ _ _ _ = _; rw [← hdd, sU_self]
      rw [e1, e2]
      exact M.congr hrow he (fun u hu => (hlab u (hu.elim (fun z => z.1) (fun z => z.1))).symm)
    · intro u v hu hh
      have e1 : (c_open r).rh s.length = r.rh s.length := hsd _ _
      have e2 : (c_open r).ou (s.length + 1) = r.tail := by show sU _ _ _ _ = _; rw [← hdd, sU_self]
      rw [e1]; rw [e2] at hh
      exact hno u v ((hrow u).mpr hu) ((he u v ((hrow u).mpr hu)).mpr hh)
    · rintro u ⟨a, b⟩
      have a' := hbig u a (by omega)
      rw [ho u a'] at b
      by_cases q : own u = 4 * s.length + 2
      · rw [if_pos q] at b; omega
      · rw [if_neg q] at b; exact q b
    · exact COut.same hS s O (Nat.le_refl _) (fun k hk => ⟨sU_ne _ _ (by omega), sU_ne _ _ (by omega), sU_ne _ _ (by omega), sU_ne _ _ (by omega)⟩)
    · intro u hu
      rw [hls]
      rw [hn] at hu
      by_cases e : u < r.n
      · have := hB u e; rw [ho u e]; split <;> omega
      · by_cases e1 : u = r.n
        · rw [e1, hon]; omega
        · have e2 : u = r.n + 1 := by omega
          rw [e2, hon1]; omega
def c_bar (r : CR) : CR := (CR.mk (r.n + 1) (sU (sU r.nx r.tail (some (r.ce r.d))) r.n none) (sU (sU r.ot r.n none) (r.rh r.d) (some r.n)) (sU r.lab r.n rl_id) r.cs r.ce (sU r.rh r.d r.n) r.ou r.d r.lead (none) (r.n))
theorem c_bar_inv {r : CR} {own : Nat → Nat} {st : List RLv} (h : CInv r own st) : ∃ own', CInv (c_bar r) own' (st_bar st) := by
  cases st with
  | nil => exact h.elim
  | cons x s =>
    obtain ⟨hd, T, O, hB⟩ := h
    obtain ⟨M, hno⟩ := T.merge
    obtain ⟨htn, hto⟩ := T.tailU
    have hrh := T.lev.rhU
    have hce := (T.lev.ceU _).mpr rfl
    let own' : Nat → Nat := fun u => if u = r.n then 4 * s.length + 1 else if own u = 4 * s.length + 1 ∨ own u = 4 * s.length + 2 then 4 * s.length else own u
    have ho : ∀ u, u < r.n → own' u = if own u = 4 * s.length + 1 ∨ own u = 4 * s.length + 2 then 4 * s.length else own u := fun u hu => by simp only [own']; rw [if_neg (by omega)]
    have hon : own' r.n = 4 * s.length + 1 := by simp only [own', if_true]
    have hn : (c_bar r).n = r.n + 1 := rfl
    have hrd : r.rh r.d = r.rh s.length := by rw [hd]
    have hcd : r.ce r.d = r.ce s.length := by rw [hd]
    have hrn := hrh.1
    have hlab : ∀ u, u < r.n → (c_bar r).lab u = r.lab u := fun u hu => sU_ne _ _ (by omega)
    have hot : ∀ u, u < r.n → u ≠ r.rh s.length → (c_bar r).ot u = r.ot u := fun u hu h1 => by
      show sU _ _ _ u = _
      rw [sU_ne _ _ (by rw [hrd]; exact h1), sU_ne _ _ (by omega)]
    have hotr : (c_bar r).ot (r.rh s.length) = some r.n := by
      show sU _ _ _ _ = _
      rw [hrd, sU_self]
    have hnx : ∀ u, u < r.n → u ≠ r.tail → (c_bar r).nx u = r.nx u := fun u hu h1 => by
      show sU _ _ _ u = _
      rw [sU_ne _ _ (by omega), sU_ne _ _ h1]
    have hnt : (c_bar r).nx r.tail = some (r.ce s.length) := by
      show sU _ _ _ _ = _
      rw [sU_ne _ _ (by omega), sU_self, hcd]
    have hnn : (c_bar r).nx r.n = none := sU_self _ _ _
    have hotn : (c_bar r).ot r.n = none := by
      show sU _ _ _ _ = _
      rw [sU_ne _ _ (by rw [hrd]; omega), sU_self]
    have hS : CSame r (c_bar r) own own' (4 * s.length) := by
      refine ⟨fun u hu hb => ⟨by rw [hn]; omega, by rw [ho u hu, if_neg (by omega)], hnx u hu (fun e => by rw [e] at hb; omega), hot u hu (fun e => by have := hrh.2; rw [e] at hb; omega), hlab u hu⟩, fun u hu hb => ?_⟩
      rw [hn] at hu
      by_cases e : u = r.n
      · rw [e, hon] at hb; omega
      · have a' : u < r.n := by omega
        rw [ho u a'] at hb
        by_cases q : own u = 4 * s.length + 1 ∨ own u = 4 * s.length + 2
        · rw [if_pos q] at hb; omega
        · rw [if_neg q] at hb; exact ⟨a', hb⟩
    have hU : ∀ u, cU (c_bar r) own' (4 * s.length) u ↔ cU r own (4 * s.length) u ∨ (cU r own (4 * s.length + 1) u ∨ cU r own (4 * s.length + 2) u) := by
      intro u
      constructor
      · rintro ⟨a, b⟩
        rw [hn] at a
        by_cases e : u = r.n
        · rw [e, hon] at b; omega
        · have a' : u < r.n := by omega
          rw [ho u a'] at b
          by_cases q : own u = 4 * s.length + 1 ∨ own u = 4 * s.length + 2
          · exact Or.inr (q.elim (fun z => Or.inl ⟨a', z⟩) (fun z => Or.inr ⟨a', z⟩))
          · rw [if_neg q] at b; exact Or.inl ⟨a', b⟩
      · rintro (⟨a, b⟩ | ⟨a, b⟩ | ⟨a, b⟩)
        · exact ⟨by rw [hn]; omega, by rw [ho u a, if_neg (by omega)]; exact b⟩
        · exact ⟨by rw [hn]; omega, by rw [ho u a, if_pos (Or.inl b)]⟩
        · exact ⟨by rw [hn]; omega, by rw [ho u a, if_pos (Or.inr b)]⟩
    have hcs' : (c_bar r).cs s.length = r.cs s.length := rfl
    have hce' : (c_bar r).ce s.length = r.ce s.length := rfl
    have hrh' : (c_bar r).rh s.length = r.n := by show sU _ _ _ _ = _; rw [hd, sU_self]
    have hclab : Ch (cF r.nx r.ot) (c_bar r).lab (cU r own (4 * s.length)) (r.cs s.length) (r.rh s.length) (r.ce s.length) (rl_o x.1) := T.lev.ch.congr (fun _ => Iff.rfl) (fun _ _ _ => Iff.rfl) (fun u hu => (hlab u hu.1).symm)
    have hM : Fr (cE r.nx r.ot r.tail) (c_bar r).lab (fun u => cU r own (4 * s.length + 1) u ∨ cU r own (4 * s.length + 2) u) (r.rh s.length) r.tail (rl_row x) := M.congr (fun _ => Iff.rfl) (fun _ _ _ => Iff.rfl) (fun u hu => (hlab u (hu.elim (fun z => z.1) (fun z => z.1))).symm)
    have hB' := Ch.bar (e' := cF (c_bar r).nx (c_bar r).ot) (U' := cU (c_bar r) own' (4 * s.length)) (f := r.n) hclab hM hno (fun u a b => by have := a.2; rcases b with b | b <;> (have := b.2; omega)) (fun z => by have := z.1; omega) (fun z => by rcases z with z | z <;> (have := z.1; omega)) (fun e => by have := hce.1; omega)
      (fun z => by have := hce.2; rcases z with z | z <;> (have := z.2; omega)) (by rw [hlab _ hrh.1]; exact T.lev.rhl) hU
      (fun u v hu => by
        have h1 : u ≠ r.rh s.length := fun e => by have := hu.2; have := hrh.2; rw [e] at *; omega
        have h2 : u ≠ r.tail := fun e => by have := hu.2; rw [e] at *; omega
        simp only [cF, hot u hu.1 h1, hnx u hu.1 h2])
      (fun u v hu => by
        have a : u < r.n := hu.elim (fun z => z.1) (fun z => z.1)
        have ho1 : (c_bar r).ot u = some v ↔ (r.ot u = some v ∨ (u = r.rh s.length ∧ v = r.n)) := by
          by_cases e : u = r.rh s.length
          · subst e
            rw [hotr, T.lev.rho]
            constructor
            · intro q; exact Or.inr ⟨rfl, (Option.some.inj q).symm⟩
            · rintro (q | ⟨_, q⟩)
              · cases q
              · rw [q]
          · rw [hot u a e]
            constructor
            · exact Or.inl
            · rintro (q | ⟨q, _⟩)
              · exact q
              · exact (e q).elim
        have hn1 : (c_bar r).nx u = some v ↔ ((u ≠ r.tail ∧ r.nx u = some v) ∨ (u = r.tail ∧ v = r.ce s.length)) := by
          by_cases e : u = r.tail
          · subst e
            rw [hnt]
            constructor
            · intro q; exact Or.inr ⟨rfl, (Option.some.inj q).symm⟩
            · rintro (⟨q, _⟩ | ⟨_, q⟩)
              · exact (q rfl).elim
              · rw [q]
          · rw [hnx u a e]
            constructor
            · intro q; exact Or.inl ⟨e, q⟩
            · rintro (⟨_, q⟩ | ⟨q, _⟩)
              · exact q
              · exact (e q).elim
        simp only [cF, cE]
        rw [hn1, ho1]
        constructor
        · rintro ((q | q) | q | q)
          · exact Or.inl (Or.inl q)
          · exact Or.inr (Or.inl q)
          · exact Or.inl (Or.inr q)
          · exact Or.inr (Or.inr q)
        · rintro ((q | q) | q | q)
          · exact Or.inl (Or.inl q)
          · exact Or.inr (Or.inl q)
          · exact Or.inl (Or.inr q)
          · exact Or.inr (Or.inr q))
    have hcl : cU (c_bar r) own' (4 * s.length + 3) (r.ce s.length) := ⟨by rw [hn]; have := hce.1; omega, by rw [ho _ hce.1, if_neg (by have := hce.2; omega)]; exact hce.2⟩
    have hcer : r.ce s.length ≠ r.rh s.length := fun e => by have h1 := hce.2; have h2 := hrh.2; rw [e] at h1; omega
    have hcet : r.ce s.length ≠ r.tail := fun e => by have h1 := hce.2; rw [e] at h1; omega
    have hone : ∀ u, cU (c_bar r) own' (4 * s.length + 1) u ↔ u = r.n := by
      intro u
      constructor
      · rintro ⟨a, b⟩
        rw [hn] at a
        by_cases e : u = r.n
        · exact e
        · have a' : u < r.n := by omega
          rw [ho u a'] at b
          by_cases q : own u = 4 * s.length + 1 ∨ own u = 4 * s.length + 2
          · rw [if_pos q] at b; omega
          · rw [if_neg q] at b; exact (q (Or.inl b)).elim
      · intro e; rw [e]; exact ⟨by rw [hn]; omega, hon⟩
    have hedge : ∀ v, ¬ cE (c_bar r).nx (c_bar r).ot r.n r.n v := by
      rintro v (⟨p, _⟩ | q)
      · exact p rfl
      · rw [hotn] at q; cases q
    refine ⟨own', hd, ⟨⟨?_, ?_, ?_, ?_, ?_, ?_, ?_, ?_⟩, ?_, ?_⟩, ?_, ?_⟩
    · rw [hcs', hce', hrh']
      show Ch _ _ _ _ _ _ (rl_all x)
      rw [rl_all_eq]
      exact hB'
    · rw [hrh']; exact (hone _).mpr rfl
    · rw [hrh']; exact sU_self _ _ _
    · rw [hrh']; exact hotn
    · intro u
      rw [hce']
      constructor
      · rintro ⟨a, b⟩
        rw [hn] at a
        by_cases e : u = r.n
        · rw [e, hon] at b; omega
        · have a' : u < r.n := by omega
          rw [ho u a'] at b
          by_cases q : own u = 4 * s.length + 1 ∨ own u = 4 * s.length + 2
          · rw [if_pos q] at b; omega
          · rw [if_neg q] at b; exact (T.lev.ceU u).mp ⟨a', b⟩
      · intro e; rw [e]; exact hcl
    · rw [hce', hlab _ hce.1]; exact T.lev.cel
    · rw [hce', hot _ hce.1 hcer]; exact T.lev.ceo
    · rw [hce', hnx _ hce.1 hcet]; exact T.lev.cen
    · intro _
      refine ⟨rfl, ⟨?_, ?_⟩, ?_⟩
      · rw [hrh']
        have hh : Fr (cE (c_bar r).nx (c_bar r).ot r.n) (c_bar r).lab (cU (c_bar r) own' (4 * s.length + 1)) r.n r.n ((c_bar r).lab r.n) := Fr.node hone hedge
        have e : (c_bar r).lab r.n = rl_id := sU_self _ _ _
        rw [e] at hh
        exact hh
      · intro u v hu he
        rw [(hone u).mp hu] at he
        exact (hedge v he).elim
      · rintro u ⟨a, b⟩
        rw [hn] at a
        by_cases e : u = r.n
        · rw [e, hon] at b; omega
        · have a' : u < r.n := by omega
          rw [ho u a'] at b
          by_cases q : own u = 4 * s.length + 1 ∨ own u = 4 * s.length + 2
          · rw [if_pos q] at b; omega
          · rw [if_neg q] at b; exact q (Or.inr b)
    · intro p e; cases e
    · exact COut.same hS s O (Nat.le_refl _) (fun k hk => ⟨rfl, rfl, sU_ne _ _ (by omega), rfl⟩)
    · intro u hu
      rw [hn] at hu
      by_cases e : u = r.n
      · rw [e, hon]; omega
      · have a' : u < r.n := by omega
        have := hB u a'
        rw [ho u a']; split <;> omega
def c_close (r : CR) : CR := (CR.mk r.n (sU (sU r.nx r.tail (some (r.ce r.d))) (r.ou r.d) (some (r.cs r.d))) r.ot r.lab r.cs r.ce r.rh r.ou (r.d - 1) (r.ou r.d) (some (r.cs r.d)) (r.ce r.d))
/-- the whole of an open level, once its row leads to its end -/
theorem CTop.whole {r r' : CR} {own : Nat → Nat} {d : Nat} {x : RLv} (T : CTop r own d x) {U : Nat → Prop} (hU : ∀ u, U u ↔ u < r.n ∧ (own u = 4 * d ∨ own u = 4 * d + 1 ∨ own u = 4 * d + 2 ∨ own u = 4 * d + 3))
    (hot : ∀ u, U u → r'.ot u = r.ot u) (hlab : ∀ u, U u → r'.lab u = r.lab u) (hnx : ∀ u, U u → u ≠ r.tail → r'.nx u = r.nx u) (hnt : r'.nx r.tail = some (r.ce d)) :
    Fr (cE r'.nx r'.ot (r.ce d)) r'.lab U (r.cs d) (r.ce d) (rl_all x) := by
  obtain ⟨M, hno⟩ := T.merge
  obtain ⟨htn, hto⟩ := T.tailU
  have hce := (T.lev.ceU _).mpr rfl
  have hU0 : ∀ u, cU r own (4 * d) u → U u := fun u h => (hU u).mpr ⟨h.1, Or.inl h.2⟩
  have hU1 : ∀ u, (cU r own (4 * d + 1) u ∨ cU r own (4 * d + 2) u) → U u := fun u h => by
    rcases h with h | h
    · exact (hU u).mpr ⟨h.1, Or.inr (Or.inl h.2)⟩
    · exact (hU u).mpr ⟨h.1, Or.inr (Or.inr (Or.inl h.2))⟩
  have hUc : U (r.ce d) := (hU _).mpr ⟨hce.1, Or.inr (Or.inr (Or.inr hce.2))⟩
  have hC : Ch (cF r.nx r.ot) r'.lab (cU r own (4 * d)) (r.cs d) (r.rh d) (r.ce d) (rl_o x.1) := T.lev.ch.congr (fun _ => Iff.rfl) (fun _ _ _ => Iff.rfl) (fun u hu => (hlab u (hU0 u hu)).symm)
  have hM : Fr (cE r.nx r.ot r.tail) r'.lab (fun u => cU r own (4 * d + 1) u ∨ cU r own (4 * d + 2) u) (r.rh d) r.tail (rl_row x) := M.congr (fun _ => Iff.rfl) (fun _ _ _ => Iff.rfl) (fun u hu => (hlab u (hU1 u hu)).symm)
  rw [rl_all_eq]
  refine Ch.close hC hM (fun u a b => by have := a.2; rcases b with b | b <;> (have := b.2; omega)) (fun z => by have := hce.2; rcases z with z | z <;> (have := z.2; omega)) (by rw [hlab _ hUc]; exact T.lev.cel) (fun u => ?_) (fun u v hu => ?_) (fun u v hu => ?_) (fun v hv => ?_)
  · constructor
    · intro h
      rcases (hU u).mp h with ⟨a, b | b | b | b⟩
      · exact Or.inl ⟨a, b⟩
      · exact Or.inr (Or.inl (Or.inl ⟨a, b⟩))
      · exact Or.inr (Or.inl (Or.inr ⟨a, b⟩))
      · exact Or.inr (Or.inr ((T.lev.ceU u).mp ⟨a, b⟩))
    · rintro (h | h | h)
      · exact hU0 u h
      · exact hU1 u h
      · rw [h]; exact hUc
  · have h1 : u ≠ r.ce d := fun e => by have h1 := hu.2; have h2 := hce.2; rw [e] at h1; omega
    have h2 : u ≠ r.tail := fun e => by have h1 := hu.2; rw [e] at h1; omega
    simp only [cE, cF, hot u (hU0 u hu), hnx u (hU0 u hu) h2]
    constructor
    · rintro (⟨_, q⟩ | q)
      · exact Or.inl q
      · exact Or.inr q
    · rintro (q | q)
      · exact Or.inl ⟨h1, q⟩
      · exact Or.inr q
  · have h1 : u ≠ r.ce d := fun e => by have h2 := hce.2; rcases hu with hu | hu <;> (have h1 := hu.2; rw [e] at h1; omega)
    simp only [cE, hot u (hU1 u hu)]
    by_cases e : u = r.tail
    · subst e
      rw [hnt]
      constructor
      · rintro (⟨_, q⟩ | q)
        · exact Or.inr ⟨rfl, (Option.some.inj q).symm⟩
        · exact Or.inl (Or.inr q)
      · rintro ((⟨q, _⟩ | q) | ⟨_, q⟩)
        · exact (q rfl).elim
        · exact Or.inr q
        · rw [q]; exact Or.inl ⟨h1, rfl⟩
    · rw [hnx u (hU1 u hu) e]
      constructor
      · rintro (⟨_, q⟩ | q)
        · exact Or.inl (Or.inl ⟨e, q⟩)
        · exact Or.inl (Or.inr q)
      · rintro ((⟨_, q⟩ | q) | ⟨q, _⟩)
        · exact Or.inl ⟨h1, q⟩
        · exact Or.inr q
        · exact (e q).elim
  · rcases hv with ⟨q, _⟩ | q
    · exact q rfl
    · rw [hot _ hUc, T.lev.ceo] at q; cases q
theorem c_close_inv {r : CR} {own : Nat → Nat} {x y : RLv} {s : List RLv} (h : CInv r own (x :: y :: s)) : ∃ own', CInv (c_close r) own' (st_close (x :: y :: s)) := by
  obtain ⟨hd, T, ⟨⟨L, R, E⟩, O⟩, hB⟩ := h
  have hls : (y :: s).length = s.length + 1 := rfl
  rw [hls] at hd T hB
  obtain ⟨htn, hto⟩ := T.tailU
  have hce := (T.lev.ceU _).mpr rfl
  have houU := R.fr.tU
  let own' : Nat → Nat := fun u => if 4 * (s.length + 1) ≤ own u then 4 * s.length + 2 else own u
  have hsm : ∀ u, own u < 4 * (s.length + 1) → own' u = own u := fun u hu => if_neg (by omega)
  have hbg : ∀ u, 4 * (s.length + 1) ≤ own u → own' u = 4 * s.length + 2 := fun u hu => if_pos hu
  have hon := houU.1
  have hoo := houU.2
  have hto' : r.tail ≠ r.ou (s.length + 1) := fun e => by rw [← e] at hoo; omega
  have hnx : ∀ u, u ≠ r.tail → u ≠ r.ou (s.length + 1) → (c_close r).nx u = r.nx u := fun u h1 h2 => by
    show sU _ _ _ u = _
    rw [sU_ne _ _ (by rw [hd]; exact h2), sU_ne _ _ h1]
  have hnt : (c_close r).nx r.tail = some (r.ce (s.length + 1)) := by
    show sU _ _ _ _ = _
    rw [sU_ne _ _ (by rw [hd]; exact hto'), sU_self, hd]
  have hno' : (c_close r).nx (r.ou (s.length + 1)) = some (r.cs (s.length + 1)) := by
    show sU _ _ _ _ = _
    rw [hd, sU_self]
  have hcu : ∀ k, k < 4 * (s.length + 1) → k ≠ 4 * s.length + 2 → ∀ u, cU r own k u ↔ cU (c_close r) own' k u := by
    intro k h1 h2 u
    constructor
    · rintro ⟨a, b⟩; exact ⟨a, by rw [hsm u (by omega)]; exact b⟩
    · rintro ⟨a, b⟩
      by_cases e : 4 * (s.length + 1) ≤ own u
      · rw [hbg u e] at b; omega
      · rw [hsm u (by omega)] at b; exact ⟨a, b⟩
  have hS : CSame r (c_close r) own own' (4 * s.length) := by
    refine ⟨fun u hu hb => ⟨hu, hsm u (by omega), hnx u (fun e => by rw [e] at hb; omega) (fun e => by rw [e] at hb; omega), rfl, rfl⟩, fun u hu hb => ⟨hu, ?_⟩⟩
    by_cases e : 4 * (s.length + 1) ≤ own u
    · rw [hbg u e] at hb; omega
    · rw [hsm u (by omega)] at hb; exact hb
  have he : ∀ u v, cU r own (4 * s.length + 1) u → (cE r.nx r.ot (r.ou (s.length + 1)) u v ↔ cE (c_close r).nx (c_close r).ot (r.ou (s.length + 1)) u v) := by
    intro u v hu
    have h1 : u ≠ r.tail := fun e => by have h1 := hu.2; rw [e] at h1; omega
    simp only [cE, show (c_close r).ot = r.ot from rfl]
    constructor
    · rintro (⟨p, q⟩ | q)
      · exact Or.inl ⟨p, by rw [hnx u h1 p]; exact q⟩
      · exact Or.inr q
    · rintro (⟨p, q⟩ | q)
      · exact Or.inl ⟨p, by rw [hnx u h1 p] at q; exact q⟩
      · exact Or.inr q
  have hlead : (c_close r).lead = r.ou (s.length + 1) := by show r.ou r.d = _; rw [hd]
  have htail : (c_close r).tail = r.ce (s.length + 1) := by show r.ce r.d = _; rw [hd]
  have hfirst : (c_close r).first = some (r.cs (s.length + 1)) := by show some (r.cs r.d) = _; rw [hd]
  refine ⟨own', show r.d - 1 = s.length by omega, ⟨?_, ?_, ?_⟩, ?_, ?_⟩
  · refine L.upd rfl rfl rfl (hcu _ (by omega) (by omega)) (hcu _ (by omega) (by omega)) ((hcu _ (by omega) (by omega) _).mp L.rhU) (fun _ _ => rfl) (fun _ _ => rfl) (fun u hu => hnx u (fun e => ?_) (fun e => ?_))
    · rcases hu with hu | hu <;> (have h1 := hu.2; rw [e] at h1; omega)
    · rcases hu with hu | hu <;> (have h1 := hu.2; rw [e] at h1; omega)
  · intro e; cases e
  · intro p e
    have e' : rl_all x = p := Option.some.inj e
    subst e'
    refine ⟨r.cs (s.length + 1), hfirst, ⟨?_, ?_⟩, ?_, by rw [hlead]; exact hno'⟩
    · rw [hlead]; exact R.fr.congr (hcu _ (by omega) (by omega)) he (fun _ _ => rfl)
    · intro u v hu hh
      rw [hlead] at hh
      exact R.no u v ((hcu _ (by omega) (by omega) u).mpr hu) ((he u v ((hcu _ (by omega) (by omega) u).mpr hu)).mpr hh)
    · rw [htail]
      refine T.whole (r' := c_close r) (fun u => ?_) (fun _ _ => rfl) (fun _ _ => rfl) (fun u hu h1 => hnx u h1 (fun e => ?_)) hnt
      · constructor
        · rintro ⟨a, b⟩
          refine ⟨a, ?_⟩
          have := hB u a
          by_cases e : 4 * (s.length + 1) ≤ own u
          · omega
          · rw [hsm u (by omega)] at b
            exact (E u ⟨a, b⟩).elim
        · rintro ⟨a, b⟩
          exact ⟨a, hbg u (by omega)⟩
      · have a := hu.2
        rw [e, hsm _ (by omega)] at a
        omega
  · exact COut.same hS s O (Nat.le_refl _) (fun k hk => ⟨rfl, rfl, rfl, rfl⟩)
  · intro u hu
    by_cases e : 4 * (s.length + 1) ≤ own u
    · rw [hbg u e]; omega
    · rw [hsm u (by omega)]; omega
/-- the end of the reading -/
theorem c_fin_inv {r : CR} {own : Nat → Nat} {x : RLv} (h : CInv r own [x]) : Fr (cF (sU r.nx r.tail (some (r.ce 0))) r.ot) r.lab (fun u => u < r.n) (r.cs 0) (r.ce 0) (rl_all x) ∧ r.lab (r.ce 0) = rl_id := by
  obtain ⟨hd, T, _, hB⟩ := h
  have hls : ([] : List RLv).length = 0 := rfl
  rw [hls] at hd T hB
  obtain ⟨htn, hto⟩ := T.tailU
  have hce := (T.lev.ceU _).mpr rfl
  refine ⟨?_, T.lev.cel⟩
  have hh := T.whole (r' := (CR.mk r.n (sU r.nx r.tail (some (r.ce 0))) r.ot r.lab r.cs r.ce r.rh r.ou r.d r.lead r.first r.tail)) (U := fun u => u < r.n) (fun u => ?_) (fun _ _ => rfl) (fun _ _ => rfl) (fun u hu h1 => sU_ne _ _ h1) (sU_self _ _ _)
  · refine hh.congr (fun _ => Iff.rfl) (fun u v hu => ?_) (fun _ _ => rfl)
    simp only [cE, cF]
    constructor
    · rintro (⟨_, q⟩ | q)
      · exact Or.inl q
      · exact Or.inr q
    · rintro (q | q)
      · refine Or.inl ⟨fun e => ?_, q⟩
        have h1 : r.ce 0 ≠ r.tail := fun e => by have h2 := hce.2; rw [e] at h2; omega
        rw [e, sU_ne _ _ h1, T.lev.cen] at q; cases q
      · exact Or.inr q
  · have := hB u
    constructor
    · intro a; have := this a; exact ⟨a, by omega⟩
    · exact fun a => a.1
/-- the beginning: two nodes -/
theorem c_start_inv {r : CR} (hn : r.n = 2) (hd : r.d = 0) (hcs : r.cs 0 = 0) (hce : r.ce 0 = 1) (hrh : r.rh 0 = 0) (ht : r.tail = 0) (hf : r.first = none) (hl1 : r.lab 0 = rl_id) (hl2 : r.lab 1 = rl_id) (ho1 : r.ot 0 = none) (ho2 : r.ot 1 = none) (hx2 : r.nx 1 = none) :
    ∃ own, CInv r own (st_open []) := by
  refine ⟨fun u => if u = 0 then 1 else 3, hd, ?_, trivial, ?_⟩
  · refine CTop.fresh (a := 0) hn hcs hce hrh ht hf (fun u hu => by omega) rfl rfl hl1 hl2 ho1 ho2 hx2
  · intro u hu
    show (if u = 0 then 1 else 3) < 4
    split <;> omega
-- 33.rrd
/-- the reference's builder, as nodes with ways, pieces, and what is open by depth -/
abbrev RR : Type := (Nat) × (Nat → Option Nat) × (Nat → Option Nat) × (Nat → Rl) × (Nat) × (Nat → Nat) × (Nat → Nat) × (Nat) × (Nat → Option Nat) × (Nat → Nat) × (Nat → Option Nat)
def RR.n (r_ : RR) : Nat := r_.1
def RR.on (r_ : RR) : Nat → Option Nat := r_.2.1
def RR.tw (r_ : RR) : Nat → Option Nat := r_.2.2.1
def RR.lab (r_ : RR) : Nat → Rl := r_.2.2.2.1
def RR.np (r_ : RR) : Nat := r_.2.2.2.2.1
def RR.hd (r_ : RR) : Nat → Nat := r_.2.2.2.2.2.1
def RR.tl (r_ : RR) : Nat → Nat := r_.2.2.2.2.2.2.1
def RR.k (r_ : RR) : Nat := r_.2.2.2.2.2.2.2.1
def RR.ch (r_ : RR) : Nat → Option Nat := r_.2.2.2.2.2.2.2.2.1
def RR.rw (r_ : RR) : Nat → Nat := r_.2.2.2.2.2.2.2.2.2.1
def RR.pt (r_ : RR) : Nat → Option Nat := r_.2.2.2.2.2.2.2.2.2.2
abbrev RR.mk (n_ : Nat) (on_ : Nat → Option Nat) (tw_ : Nat → Option Nat) (lab_ : Nat → Rl) (np_ : Nat) (hd_ : Nat → Nat) (tl_ : Nat → Nat) (k_ : Nat) (ch_ : Nat → Option Nat) (rw_ : Nat → Nat) (pt_ : Nat → Option Nat) : RR := (n_, on_, tw_, lab_, np_, hd_, tl_, k_, ch_, rw_, pt_)
abbrev RP (r : RR) (U : Nat → Prop) (p : Nat) (R : Rl) : Prop := (Fr (cF r.on r.tw) r.lab U (r.hd p) (r.tl p) R) ∧ (r.on (r.tl p) = none) ∧ (r.tw (r.tl p) = none) ∧ (r.lab (r.tl p) = rl_id) ∧ (∀ u, U u → u < r.n) ∧ (p < r.np)
theorem RP.fr {r : RR} {U : Nat → Prop} {p : Nat} {R : Rl} (h_ : RP r U p R) : Fr (cF r.on r.tw) r.lab U (r.hd p) (r.tl p) R := h_.1
theorem RP.tn {r : RR} {U : Nat → Prop} {p : Nat} {R : Rl} (h_ : RP r U p R) : r.on (r.tl p) = none := h_.2.1
theorem RP.tt {r : RR} {U : Nat → Prop} {p : Nat} {R : Rl} (h_ : RP r U p R) : r.tw (r.tl p) = none := h_.2.2.1
theorem RP.tl {r : RR} {U : Nat → Prop} {p : Nat} {R : Rl} (h_ : RP r U p R) : r.lab (r.tl p) = rl_id := h_.2.2.2.1
theorem RP.un {r : RR} {U : Nat → Prop} {p : Nat} {R : Rl} (h_ : RP r U p R) : ∀ u, U u → u < r.n := h_.2.2.2.2.1
theorem RP.lt {r : RR} {U : Nat → Prop} {p : Nat} {R : Rl} (h_ : RP r U p R) : p < r.np := h_.2.2.2.2.2
/-- what has not changed on a set of nodes -/
abbrev RFr (r r' : RR) (V : Nat → Prop) : Prop := (∀ u, V u → r'.on u = r.on u ∧ r'.tw u = r.tw u ∧ r'.lab u = r.lab u) ∧ (∀ p, p < r.np → r'.hd p = r.hd p ∧ r'.tl p = r.tl p) ∧ (r.n ≤ r'.n) ∧ (r.np ≤ r'.np)
theorem RFr.nd {r r' : RR} {V : Nat → Prop} (h_ : RFr r r' V) : ∀ u, V u → r'.on u = r.on u ∧ r'.tw u = r.tw u ∧ r'.lab u = r.lab u := h_.1
theorem RFr.pc {r r' : RR} {V : Nat → Prop} (h_ : RFr r r' V) : ∀ p, p < r.np → r'.hd p = r.hd p ∧ r'.tl p = r.tl p := h_.2.1
theorem RFr.n {r r' : RR} {V : Nat → Prop} (h_ : RFr r r' V) : r.n ≤ r'.n := h_.2.2.1
theorem RFr.np {r r' : RR} {V : Nat → Prop} (h_ : RFr r r' V) : r.np ≤ r'.np := h_.2.2.2
theorem RFr.trans {r r' r'' : RR} {V : Nat → Prop} (h : RFr r r' V) (h' : RFr r' r'' V) : RFr r r'' V :=
  ⟨fun u hu => ⟨(h'.nd u hu).1.trans (h.nd u hu).1, (h'.nd u hu).2.1.trans (h.nd u hu).2.1, (h'.nd u hu).2.2.trans (h.nd u hu).2.2⟩,
   fun p hp => ⟨(h'.pc p (by have := h.np; omega)).1.trans (h.pc p hp).1, (h'.pc p (by have := h.np; omega)).2.trans (h.pc p hp).2⟩, Nat.le_trans h.n h'.n, Nat.le_trans h.np h'.np⟩
theorem RFr.sub {r r' : RR} {V V' : Nat → Prop} (h : RFr r r' V) (hs : ∀ u, V' u → V u) : RFr r r' V' := ⟨fun u hu => h.nd u (hs u hu), h.pc, h.n, h.np⟩
theorem RP.frame {r r' : RR} {U U' V : Nat → Prop} {p : Nat} {R : Rl} (h : RP r U p R) (hF : RFr r r' V) (hV : ∀ u, U u → V u) (hU : ∀ u, U u ↔ U' u) : RP r' U' p R := by
  obtain ⟨e1, e2⟩ := hF.pc p h.lt
  have ht := hF.nd _ (hV _ h.fr.tU)
  refine ⟨?_, ?_, ?_, ?_, fun u hu => Nat.lt_of_lt_of_le (h.un u ((hU u).mpr hu)) hF.n, Nat.lt_of_lt_of_le h.lt hF.np⟩
  · rw [e1, e2]
    exact h.fr.congr hU (fun u v hu => by obtain ⟨a, b, _⟩ := hF.nd u (hV u hu); simp only [cF, a, b]) (fun u hu => (hF.nd u (hV u hu)).2.2.symm)
  · rw [e2, ht.1]; exact h.tn
  · rw [e2, ht.2.1]; exact h.tt
  · rw [e2, ht.2.2]; exact h.tl
def r_single (r : RR) (l : Rl) : RR := (RR.mk (r.n + 2) (sU (sU (sU r.on r.n none) (r.n + 1) none) r.n (some (r.n + 1))) (sU (sU r.tw r.n none) (r.n + 1) none) (sU (sU r.lab r.n l) (r.n + 1) rl_id) (r.np + 1) (sU r.hd r.np r.n) (sU r.tl r.np (r.n + 1)) r.k r.ch r.rw r.pt)
theorem r_single_fr (r : RR) (l : Rl) : RFr r (r_single r l) (fun u => u < r.n) := by
  refine ⟨fun u hu => ⟨?_, ?_, ?_⟩, fun p hp => ⟨sU_ne _ _ (by omega), sU_ne _ _ (by omega)⟩, by show r.n ≤ r.n + 2; omega, by show r.np ≤ r.np + 1; omega⟩
  · show sU _ _ _ u = _; rw [sU_ne _ _ (by omega), sU_ne _ _ (by omega), sU_ne _ _ (by omega)]
  · show sU _ _ _ u = _; rw [sU_ne _ _ (by omega), sU_ne _ _ (by omega)]
  · show sU _ _ _ u = _; rw [sU_ne _ _ (by omega), sU_ne _ _ (by omega)]
theorem r_single_rp (r : RR) (l : Rl) : RP (r_single r l) (fun u => u = r.n ∨ u = r.n + 1) r.np l := by
  have h1 : (r_single r l).hd r.np = r.n := sU_self _ _ _
  have h2 : (r_single r l).tl r.np = r.n + 1 := sU_self _ _ _
  have o1 : (r_single r l).on r.n = some (r.n + 1) := sU_self _ _ _
  have o2 : (r_single r l).on (r.n + 1) = none := by show sU _ _ _ _ = _; rw [sU_ne _ _ (by omega), sU_self]
  have t1 : (r_single r l).tw r.n = none := by show sU _ _ _ _ = _; rw [sU_ne _ _ (by omega), sU_self]
  have t2 : (r_single r l).tw (r.n + 1) = none := sU_self _ _ _
  have l1 : (r_single r l).lab r.n = l := by show sU _ _ _ _ = _; rw [sU_ne _ _ (by omega), sU_self]
  have l2 : (r_single r l).lab (r.n + 1) = rl_id := sU_self _ _ _
  have F1 : Fr (fun _ _ => False) (r_single r l).lab (fun u => u = r.n) r.n r.n ((r_single r l).lab r.n) := Fr.node (fun _ => Iff.rfl) (fun _ h => h)
  have F2 : Fr (fun _ _ => False) (r_single r l).lab (fun u => u = r.n + 1) (r.n + 1) (r.n + 1) ((r_single r l).lab (r.n + 1)) := Fr.node (fun _ => Iff.rfl) (fun _ h => h)
  rw [l1] at F1; rw [l2] at F2
  refine ⟨?_, by rw [h2]; exact o2, by rw [h2]; exact t2, by rw [h2]; exact l2, ?_, by show r.np < r.np + 1; omega⟩
  · rw [h1, h2]
    have hh := Fr.seq (e := cF (r_single r l).on (r_single r l).tw) (U := fun u => u = r.n ∨ u = r.n + 1) F1 F2 (fun u a b => by omega) (fun _ => Iff.rfl) (fun u v hu => ?_) (fun u v hu => ?_)
    · rw [rl_seq_id] at hh; exact hh
    · subst hu
      simp only [cF, o1, t1]
      constructor
      · rintro (q | q)
        · exact Or.inr ⟨trivial, (Option.some.inj q).symm⟩
        · cases q
      · rintro (q | ⟨_, q⟩)
        · exact q.elim
        · rw [q]; exact Or.inl rfl
    · subst hu
      simp only [cF, o2, t2]
      constructor
      · rintro (q | q) <;> cases q
      · intro q; exact q.elim
  · intro u hu; show u < r.n + 2; omega
def r_nothing (r : RR) : RR := (RR.mk (r.n + 1) (sU r.on r.n none) (sU r.tw r.n none) (sU r.lab r.n rl_id) (r.np + 1) (sU r.hd r.np r.n) (sU r.tl r.np r.n) r.k r.ch r.rw r.pt)
theorem r_nothing_fr (r : RR) : RFr r (r_nothing r) (fun u => u < r.n) := by
  refine ⟨fun u hu => ⟨sU_ne _ _ (by omega), sU_ne _ _ (by omega), sU_ne _ _ (by omega)⟩, fun p hp => ⟨sU_ne _ _ (by omega), sU_ne _ _ (by omega)⟩, by show r.n ≤ r.n + 1; omega, by show r.np ≤ r.np + 1; omega⟩
theorem r_nothing_rp (r : RR) : RP (r_nothing r) (fun u => u = r.n) r.np rl_id := by
  have h1 : (r_nothing r).hd r.np = r.n := sU_self _ _ _
  have h2 : (r_nothing r).tl r.np = r.n := sU_self _ _ _
  have o1 : (r_nothing r).on r.n = none := sU_self _ _ _
  have t1 : (r_nothing r).tw r.n = none := sU_self _ _ _
  have l1 : (r_nothing r).lab r.n = rl_id := sU_self _ _ _
  refine ⟨?_, by rw [h2]; exact o1, by rw [h2]; exact t1, by rw [h2]; exact l1, ?_, by show r.np < r.np + 1; omega⟩
  · rw [h1, h2]
    have F1 : Fr (cF (r_nothing r).on (r_nothing r).tw) (r_nothing r).lab (fun u => u = r.n) r.n r.n ((r_nothing r).lab r.n) := Fr.node (fun _ => Iff.rfl) (fun v h => by
      rcases h with h | h
      · rw [o1] at h; cases h
      · rw [t1] at h; cases h)
    rw [l1] at F1; exact F1
  · intro u hu; show u < r.n + 1; omega
/-- a way from a tail on -/
def r_link (r : RR) (a b : Nat) : RR := (RR.mk r.n (sU r.on a (some b)) r.tw r.lab r.np r.hd r.tl r.k r.ch r.rw r.pt)
def r_piece (r : RR) (a b : Nat) : RR := (RR.mk r.n r.on r.tw r.lab (r.np + 1) (sU r.hd r.np a) (sU r.tl r.np b) r.k r.ch r.rw r.pt)
def r_seq (r : RR) (p q : Nat) : RR := r_piece (r_link r (r.tl p) (r.hd q)) (r.hd p) (r.tl q)
theorem r_seq_fr {r : RR} {U1 : Nat → Prop} {p q : Nat} {R1 : Rl} (h1 : RP r U1 p R1) : RFr r (r_seq r p q) (fun u => ¬ U1 u) := by
  refine ⟨fun u hu => ⟨sU_ne _ _ (fun e => hu (e ▸ h1.fr.tU)), rfl, rfl⟩, fun x hx => ⟨sU_ne _ _ (show x ≠ r.np by omega), sU_ne _ _ (show x ≠ r.np by omega)⟩, Nat.le_refl _, by show r.np ≤ r.np + 1; omega⟩
theorem r_seq_rp {r : RR} {U1 U2 U : Nat → Prop} {p q : Nat} {R1 R2 : Rl} (h1 : RP r U1 p R1) (h2 : RP r U2 q R2) (hd : ∀ u, U1 u → ¬ U2 u) (hU : ∀ u, U u ↔ U1 u ∨ U2 u) : RP (r_seq r p q) U r.np (rl_seq R1 R2) := by
  have e1 : (r_seq r p q).hd r.np = r.hd p := sU_self _ _ _
  have e2 : (r_seq r p q).tl r.np = r.tl q := sU_self _ _ _
  have hne : r.tl q ≠ r.tl p := fun e => hd _ h1.fr.tU (e ▸ h2.fr.tU)
  have on1 : ∀ u, u ≠ r.tl p → (r_seq r p q).on u = r.on u := fun u hu => sU_ne _ _ hu
  have on2 : (r_seq r p q).on (r.tl p) = some (r.hd q) := sU_self _ _ _
  refine ⟨?_, by rw [e2, on1 _ hne]; exact h2.tn, by rw [e2]; exact h2.tt, by rw [e2]; exact h2.tl, fun u hu => ((hU u).mp hu).elim (h1.un u) (h2.un u), by show r.np < r.np + 1; omega⟩
  rw [e1, e2]
  refine Fr.seq (e1 := cF r.on r.tw) (e2 := cF r.on r.tw) h1.fr h2.fr hd hU (fun u v hu => ?_) (fun u v hu => ?_)
  · simp only [cF, show (r_seq r p q).tw = r.tw from rfl]
    by_cases e : u = r.tl p
    · subst e
      rw [on2, h1.tn, h1.tt]
      constructor
      · rintro (z | z)
        · exact Or.inr ⟨rfl, (Option.some.inj z).symm⟩
        · cases z
      · rintro ((z | z) | ⟨_, z⟩)
        · cases z
        · cases z
        · rw [z]; exact Or.inl rfl
    · rw [on1 u e]
      constructor
      · exact Or.inl
      · rintro (z | ⟨z, _⟩)
        · exact z
        · exact (e z).elim
  · have : u ≠ r.tl p := fun e => hd _ h1.fr.tU (e ▸ hu)
    simp only [cF, on1 u this, show (r_seq r p q).tw = r.tw from rfl]
def r_alt (r : RR) (p q : Nat) : RR :=
  (RR.mk (r.n + 2) (sU (sU (sU (sU (sU r.on r.n none) (r.n + 1) none) r.n (some (r.hd p))) (r.tl p) (some (r.n + 1))) (r.tl q) (some (r.n + 1))) (sU (sU (sU r.tw r.n none) (r.n + 1) none) r.n (some (r.hd q))) (sU (sU r.lab r.n rl_id) (r.n + 1) rl_id) (r.np + 1) (sU r.hd r.np r.n) (sU r.tl r.np (r.n + 1)) r.k r.ch r.rw r.pt)
theorem r_alt_fr {r : RR} {U1 U2 : Nat → Prop} {p q : Nat} {R1 R2 : Rl} (h1 : RP r U1 p R1) (h2 : RP r U2 q R2) : RFr r (r_alt r p q) (fun u => u < r.n ∧ ¬ U1 u ∧ ¬ U2 u) := by
  refine ⟨fun u hu => ⟨?_, ?_, ?_⟩, fun x hx => ⟨sU_ne _ _ (by omega), sU_ne _ _ (by omega)⟩, by show r.n ≤ r.n + 2; omega, by show r.np ≤ r.np + 1; omega⟩
  · have a : u ≠ r.tl p := fun e => hu.2.1 (e ▸ h1.fr.tU)
    have b : u ≠ r.tl q := fun e => hu.2.2 (e ▸ h2.fr.tU)
    have c := hu.1
    show sU _ _ _ u = _
    rw [sU_ne _ _ b, sU_ne _ _ a, sU_ne _ _ (by omega), sU_ne _ _ (by omega), sU_ne _ _ (by omega)]
  · have c := hu.1
    show sU _ _ _ u = _
    rw [sU_ne _ _ (by omega), sU_ne _ _ (by omega), sU_ne _ _ (by omega)]
  · have c := hu.1
    show sU _ _ _ u = _
    rw [sU_ne _ _ (by omega), sU_ne _ _ (by omega)]
theorem r_alt_rp {r : RR} {U1 U2 U : Nat → Prop} {p q : Nat} {R1 R2 : Rl} (h1 : RP r U1 p R1) (h2 : RP r U2 q R2) (hd : ∀ u, U1 u → ¬ U2 u) (hU : ∀ u, U u ↔ U1 u ∨ U2 u ∨ u = r.n ∨ u = r.n + 1) : RP (r_alt r p q) U r.np (rl_or R1 R2) := by
  have e1 : (r_alt r p q).hd r.np = r.n := sU_self _ _ _
  have e2 : (r_alt r p q).tl r.np = r.n + 1 := sU_self _ _ _
  have tp := h1.un _ h1.fr.tU
  have tq := h2.un _ h2.fr.tU
  have hpq : r.tl p ≠ r.tl q := fun e => hd _ h1.fr.tU (e ▸ h2.fr.tU)
  have onp : (r_alt r p q).on (r.tl p) = some (r.n + 1) := by show sU _ _ _ _ = _; rw [sU_ne _ _ hpq, sU_self]
  have onq : (r_alt r p q).on (r.tl q) = some (r.n + 1) := sU_self _ _ _
  have ona : (r_alt r p q).on r.n = some (r.hd p) := by show sU _ _ _ _ = _; rw [sU_ne _ _ (by omega), sU_ne _ _ (by omega), sU_self]
  have onb : (r_alt r p q).on (r.n + 1) = none := by show sU _ _ _ _ = _; rw [sU_ne _ _ (by omega), sU_ne _ _ (by omega), sU_ne _ _ (by omega), sU_self]
  have twa : (r_alt r p q).tw r.n = some (r.hd q) := sU_self _ _ _
  have twb : (r_alt r p q).tw (r.n + 1) = none := by show sU _ _ _ _ = _; rw [sU_ne _ _ (by omega), sU_self]
  have la : (r_alt r p q).lab r.n = rl_id := by show sU _ _ _ _ = _; rw [sU_ne _ _ (by omega), sU_self]
  have lb : (r_alt r p q).lab (r.n + 1) = rl_id := sU_self _ _ _
  have on1 : ∀ u, u < r.n → u ≠ r.tl p → u ≠ r.tl q → (r_alt r p q).on u = r.on u := fun u hu a b => by
    show sU _ _ _ u = _
    rw [sU_ne _ _ b, sU_ne _ _ a, sU_ne _ _ (by omega), sU_ne _ _ (by omega), sU_ne _ _ (by omega)]
  have tw1 : ∀ u, u < r.n → (r_alt r p q).tw u = r.tw u := fun u hu => by
    show sU _ _ _ u = _
    rw [sU_ne _ _ (by omega), sU_ne _ _ (by omega), sU_ne _ _ (by omega)]
  have lb1 : ∀ u, u < r.n → (r_alt r p q).lab u = r.lab u := fun u hu => by
    show sU _ _ _ u = _
    rw [sU_ne _ _ (by omega), sU_ne _ _ (by omega)]
  refine ⟨?_, by rw [e2]; exact onb, by rw [e2]; exact twb, by rw [e2]; exact lb, ?_, by show r.np < r.np + 1; omega⟩
  · rw [e1, e2]
    have F1 : Fr (cF r.on r.tw) (r_alt r p q).lab U1 (r.hd p) (r.tl p) R1 := h1.fr.congr (fun _ => Iff.rfl) (fun _ _ _ => Iff.rfl) (fun u hu => (lb1 u (h1.un u hu)).symm)
    have F2 : Fr (cF r.on r.tw) (r_alt r p q).lab U2 (r.hd q) (r.tl q) R2 := h2.fr.congr (fun _ => Iff.rfl) (fun _ _ _ => Iff.rfl) (fun u hu => (lb1 u (h2.un u hu)).symm)
    refine Fr.alt F1 F2 hd (fun z => by have := h1.un _ z; omega) (fun z => by have := h2.un _ z; omega) (fun z => by have := h1.un _ z; omega) (fun z => by have := h2.un _ z; omega) (by omega) la lb hU (fun u v hu => ?_) (fun u v hu => ?_) (fun v => ?_) (fun v => ?_)
    · have hun := h1.un u hu
      simp only [cF, tw1 u hun]
      by_cases e : u = r.tl p
      · subst e
        rw [onp, h1.tn, h1.tt]
        constructor
        · rintro (z | z)
          · exact Or.inr ⟨rfl, (Option.some.inj z).symm⟩
          · cases z
        · rintro ((z | z) | ⟨_, z⟩)
          · cases z
          · cases z
          · rw [z]; exact Or.inl rfl
      · rw [on1 u hun e (fun z => hd _ hu (z ▸ h2.fr.tU))]
        constructor
        · exact Or.inl
        · rintro (z | ⟨z, _⟩)
          · exact z
          · exact (e z).elim
    · have hun := h2.un u hu
      simp only [cF, tw1 u hun]
      by_cases e : u = r.tl q
      · subst e
        rw [onq, h2.tn, h2.tt]
        constructor
        · rintro (z | z)
          · exact Or.inr ⟨rfl, (Option.some.inj z).symm⟩
          · cases z
        · rintro ((z | z) | ⟨_, z⟩)
          · cases z
          · cases z
          · rw [z]; exact Or.inl rfl
      · rw [on1 u hun (fun z => hd _ h1.fr.tU (z ▸ hu)) e]
        constructor
        · exact Or.inl
        · rintro (z | ⟨z, _⟩)
          · exact z
          · exact (e z).elim
    · simp only [cF, ona, twa]
      constructor
      · rintro (z | z)
        · exact Or.inl (Option.some.inj z).symm
        · exact Or.inr (Option.some.inj z).symm
      · rintro (z | z)
        · rw [z]; exact Or.inl rfl
        · rw [z]; exact Or.inr rfl
    · simp only [cF, onb, twb]
      rintro (z | z) <;> cases z
  · intro u hu
    show u < r.n + 2
    rcases (hU u).mp hu with h | h | h | h
    · have := h1.un u h; omega
    · have := h2.un u h; omega
    · omega
    · omega
def r_times (r : RR) (p : Nat) (leave again : Bool) : RR :=
  (RR.mk (r.n + 2) (sU (sU (sU (sU r.on r.n none) (r.n + 1) none) r.n (some (r.hd p))) (r.tl p) (some (r.n + 1))) (if leave then (if again then sU (sU (sU (sU r.tw r.n none) (r.n + 1) none) r.n (some (r.n + 1))) (r.tl p) (some (r.hd p)) else sU (sU (sU r.tw r.n none) (r.n + 1) none) r.n (some (r.n + 1))) else (if again then sU (sU (sU r.tw r.n none) (r.n + 1) none) (r.tl p) (some (r.hd p)) else sU (sU r.tw r.n none) (r.n + 1) none)) (sU (sU r.lab r.n rl_id) (r.n + 1) rl_id) (r.np + 1) (sU r.hd r.np r.n) (sU r.tl r.np (r.n + 1)) r.k r.ch r.rw r.pt)
theorem r_times_tw1 {r : RR} {p : Nat} (leave again : Bool) {u : Nat} (h : u < r.n) (ht : u ≠ r.tl p) : (r_times r p leave again).tw u = r.tw u := by
  cases leave <;> cases again <;> (show sU _ _ _ u = _) <;> simp only [sU, if_neg ht, if_neg (show u ≠ r.n by omega), if_neg (show u ≠ r.n + 1 by omega)]
theorem r_times_fr {r : RR} {U1 : Nat → Prop} {p : Nat} {R1 : Rl} (h1 : RP r U1 p R1) (leave again : Bool) : RFr r (r_times r p leave again) (fun u => u < r.n ∧ ¬ U1 u) := by
  refine ⟨fun u hu => ⟨?_, ?_, ?_⟩, fun x hx => ⟨sU_ne _ _ (by omega), sU_ne _ _ (by omega)⟩, by show r.n ≤ r.n + 2; omega, by show r.np ≤ r.np + 1; omega⟩
  · have a : u ≠ r.tl p := fun e => hu.2 (e ▸ h1.fr.tU)
    have c := hu.1
    show sU _ _ _ u = _
    rw [sU_ne _ _ a, sU_ne _ _ (by omega), sU_ne _ _ (by omega), sU_ne _ _ (by omega)]
  · exact r_times_tw1 leave again hu.1 (fun e => hu.2 (e ▸ h1.fr.tU))
  · have c := hu.1
    show sU _ _ _ u = _
    rw [sU_ne _ _ (by omega), sU_ne _ _ (by omega)]
theorem r_times_rp {r : RR} {U1 U : Nat → Prop} {p : Nat} {R1 : Rl} (h1 : RP r U1 p R1) (leave again : Bool) (hU : ∀ u, U u ↔ U1 u ∨ u = r.n ∨ u = r.n + 1) : RP (r_times r p leave again) U r.np (rl_times leave again R1) := by
  have e1 : (r_times r p leave again).hd r.np = r.n := sU_self _ _ _
  have e2 : (r_times r p leave again).tl r.np = r.n + 1 := sU_self _ _ _
  have tp := h1.un _ h1.fr.tU
  have onp : (r_times r p leave again).on (r.tl p) = some (r.n + 1) := sU_self _ _ _
  have ona : (r_times r p leave again).on r.n = some (r.hd p) := by show sU _ _ _ _ = _; rw [sU_ne _ _ (by omega), sU_self]
  have onb : (r_times r p leave again).on (r.n + 1) = none := by show sU _ _ _ _ = _; rw [sU_ne _ _ (by omega), sU_ne _ _ (by omega), sU_self]
  have twa : (r_times r p leave again).tw r.n = if leave then some (r.n + 1) else none := by
    cases leave <;> cases again <;> (show sU _ _ _ _ = _) <;> simp [sU, show r.n ≠ r.tl p by omega]
  have twb : (r_times r p leave again).tw (r.n + 1) = none := by
    cases leave <;> cases again <;> (show sU _ _ _ _ = _) <;> simp [sU, show r.n + 1 ≠ r.tl p by omega]
  have twp : (r_times r p leave again).tw (r.tl p) = if again then some (r.hd p) else none := by
    have := h1.tt
    cases leave <;> cases again <;> (show sU _ _ _ _ = _) <;> simp [sU, show r.tl p ≠ r.n by omega, show r.tl p ≠ r.n + 1 by omega, this]
  have la : (r_times r p leave again).lab r.n = rl_id := by show sU _ _ _ _ = _; rw [sU_ne _ _ (by omega), sU_self]
  have lb : (r_times r p leave again).lab (r.n + 1) = rl_id := sU_self _ _ _
  have on1 : ∀ u, u < r.n → u ≠ r.tl p → (r_times r p leave again).on u = r.on u := fun u hu a => by
    show sU _ _ _ u = _
    rw [sU_ne _ _ a, sU_ne _ _ (by omega), sU_ne _ _ (by omega), sU_ne _ _ (by omega)]
  have lb1 : ∀ u, u < r.n → (r_times r p leave again).lab u = r.lab u := fun u hu => by
    show sU _ _ _ u = _
    rw [sU_ne _ _ (by omega), sU_ne _ _ (by omega)]
  refine ⟨?_, by rw [e2]; exact onb, by rw [e2]; exact twb, by rw [e2]; exact lb, ?_, by show r.np < r.np + 1; omega⟩
  · rw [e1, e2]
    have F1 : Fr (cF r.on r.tw) (r_times r p leave again).lab U1 (r.hd p) (r.tl p) R1 := h1.fr.congr (fun _ => Iff.rfl) (fun _ _ _ => Iff.rfl) (fun u hu => (lb1 u (h1.un u hu)).symm)
    refine Fr.around F1 leave again (fun z => by have := h1.un _ z; omega) (fun z => by have := h1.un _ z; omega) (by omega) la lb hU (fun u v hu => ?_) (fun v => ?_) (fun v => ?_)
    · have hun := h1.un u hu
      simp only [cF]
      by_cases e : u = r.tl p
      · subst e
        rw [onp, twp, h1.tn, h1.tt]
        constructor
        · rintro (z | z)
          · exact Or.inr ⟨rfl, Or.inl (Option.some.inj z).symm⟩
          · cases again
            · cases z
            · exact Or.inr ⟨rfl, Or.inr ⟨rfl, (Option.some.inj z).symm⟩⟩
        · rintro ((z | z) | ⟨_, z | ⟨z0, z⟩⟩)
          · cases z
          · cases z
          · rw [z]; exact Or.inl rfl
          · subst z0; rw [z]; exact Or.inr rfl
      · rw [on1 u hun e, r_times_tw1 leave again hun e]
        constructor
        · exact Or.inl
        · rintro (z | ⟨z, _⟩)
          · exact z
          · exact (e z).elim
    · simp only [cF, ona, twa]
      constructor
      · rintro (z | z)
        · exact Or.inl (Option.some.inj z).symm
        · cases leave
          · cases z
          · exact Or.inr ⟨rfl, (Option.some.inj z).symm⟩
      · rintro (z | ⟨z0, z⟩)
        · rw [z]; exact Or.inl rfl
        · subst z0; rw [z]; exact Or.inr rfl
    · simp only [cF, onb, twb]
      rintro (z | z) <;> cases z
  · intro u hu
    show u < r.n + 2
    rcases (hU u).mp hu with h | h | h
    · have := h1.un u h; omega
    · omega
    · omega
def rU (r : RR) (own : Nat → Nat) (s : Nat) (u : Nat) : Prop := u < r.n ∧ own u = s
/-- a place of a level that may be empty -/
def ROp (r : RR) (own : Nat → Nat) (s : Nat) (p : Option Nat) : Option Rl → Prop
  | none => p = none ∧ ∀ u, ¬ rU r own s u
  | some R => ∃ q, p = some q ∧ RP r (rU r own s) q R
abbrev RLev (r : RR) (own : Nat → Nat) (k : Nat) (x : RLv) : Prop := (ROp r own (3 * k) (r.ch k) x.1) ∧ (RP r (rU r own (3 * k + 1)) (r.rw k) x.2.1) ∧ (ROp r own (3 * k + 2) (r.pt k) x.2.2)
theorem RLev.c {r : RR} {own : Nat → Nat} {k : Nat} {x : RLv} (h_ : RLev r own k x) : ROp r own (3 * k) (r.ch k) x.1 := h_.1
theorem RLev.w {r : RR} {own : Nat → Nat} {k : Nat} {x : RLv} (h_ : RLev r own k x) : RP r (rU r own (3 * k + 1)) (r.rw k) x.2.1 := h_.2.1
theorem RLev.p {r : RR} {own : Nat → Nat} {k : Nat} {x : RLv} (h_ : RLev r own k x) : ROp r own (3 * k + 2) (r.pt k) x.2.2 := h_.2.2
def RLevs (r : RR) (own : Nat → Nat) : List RLv → Prop
  | [] => True
  | x :: s => RLev r own s.length x ∧ RLevs r own s
abbrev RInv (r : RR) (own : Nat → Nat) (st : List RLv) : Prop := (r.k = st.length) ∧ (RLevs r own st) ∧ (∀ u, u < r.n → own u < 3 * st.length)
theorem RInv.k {r : RR} {own : Nat → Nat} {st : List RLv} (h_ : RInv r own st) : r.k = st.length := h_.1
theorem RInv.l {r : RR} {own : Nat → Nat} {st : List RLv} (h_ : RInv r own st) : RLevs r own st := h_.2.1
theorem RInv.b {r : RR} {own : Nat → Nat} {st : List RLv} (h_ : RInv r own st) : ∀ u, u < r.n → own u < 3 * st.length := h_.2.2
theorem ROp.frame {r r' : RR} {own own' : Nat → Nat} {V : Nat → Prop} {s : Nat} {p : Option Nat} {R : Option Rl} (h : ROp r own s p R) (hF : RFr r r' V) (hV : ∀ u, rU r own s u → V u) (hU : ∀ u, rU r own s u ↔ rU r' own' s u) : ROp r' own' s p R := by
  cases R with
  | none => exact ⟨h.1, fun u hu => h.2 u ((hU u).mpr hu)⟩
  | some R =>
    obtain ⟨q, e, hq⟩ := h
    exact ⟨q, e, hq.frame hF hV hU⟩
theorem RLev.frame {r r' : RR} {own own' : Nat → Nat} {V : Nat → Prop} {k : Nat} {x : RLv} (h : RLev r own k x) (hF : RFr r r' V) (hV : ∀ u, u < r.n → 3 * k ≤ own u → own u < 3 * k + 3 → V u) (hU : ∀ s, 3 * k ≤ s → s < 3 * k + 3 → ∀ u, rU r own s u ↔ rU r' own' s u)
    (h1 : r'.ch k = r.ch k) (h2 : r'.rw k = r.rw k) (h3 : r'.pt k = r.pt k) : RLev r' own' k x := by
  refine ⟨?_, ?_, ?_⟩
  · rw [h1]; exact h.c.frame hF (fun u hu => hV u hu.1 (by have := hu.2; omega) (by have := hu.2; omega)) (hU _ (by omega) (by omega))
  · rw [h2]; exact h.w.frame hF (fun u hu => hV u hu.1 (by have := hu.2; omega) (by have := hu.2; omega)) (hU _ (by omega) (by omega))
  · rw [h3]; exact h.p.frame hF (fun u hu => hV u hu.1 (by have := hu.2; omega) (by have := hu.2; omega)) (hU _ (by omega) (by omega))
theorem RLevs.frame {r r' : RR} {own own' : Nat → Nat} {V : Nat → Prop} (hF : RFr r r' V) : ∀ (st : List RLv), RLevs r own st → (∀ u, u < r.n → own u < 3 * st.length → V u) → (∀ s, s < 3 * st.length → ∀ u, rU r own s u ↔ rU r' own' s u) →
    (∀ k, k < st.length → r'.ch k = r.ch k ∧ r'.rw k = r.rw k ∧ r'.pt k = r.pt k) → RLevs r' own' st
  | [], _, _, _, _ => trivial
  | x :: s, h, hV, hU, hk => by
    have hl : (x :: s).length = s.length + 1 := rfl
    obtain ⟨a, b, c⟩ := hk s.length (by omega)
    exact ⟨h.1.frame hF (fun u hu _ h2 => hV u hu (by omega)) (fun t _ h2 => hU t (by omega)) a b c, RLevs.frame hF s h.2 (fun u hu h2 => hV u hu (by omega)) (fun t ht => hU t (by omega)) (fun k hk' => hk k (by omega))⟩
/-- the row with its latest part -/
def r_behind (r : RR) (p : Nat) (q : Option Nat) : RR × Nat := match q with
  | none => (r, p)
  | some q => (r_seq r p q, r.np)
theorem r_behind_ok {r : RR} {own : Nat → Nat} {k : Nat} {x : RLv} (h : RLev r own k x) {r' : RR} {p' : Nat} (he : r_behind r (r.rw k) (r.pt k) = (r', p')) :
    RP r' (fun u => rU r own (3 * k + 1) u ∨ rU r own (3 * k + 2) u) p' (rl_row x) ∧ RFr r r' (fun u => ¬ rU r own (3 * k + 1) u) ∧ r'.n = r.n ∧ r'.k = r.k ∧ r'.ch = r.ch ∧ r'.rw = r.rw ∧ r'.pt = r.pt := by
  obtain ⟨c, w, p⟩ := x
  cases p with
  | none =>
    obtain ⟨hp, hn⟩ := h.p
    rw [hp] at he
    cases he
    refine ⟨h.w.frame (V := fun _ => True) ⟨fun _ _ => ⟨rfl, rfl, rfl⟩, fun _ _ => ⟨rfl, rfl⟩, Nat.le_refl _, Nat.le_refl _⟩ (fun _ _ => trivial) (fun u => ⟨Or.inl, fun z => z.elim id (fun z => (hn u z).elim)⟩), ⟨fun _ _ => ⟨rfl, rfl, rfl⟩, fun _ _ => ⟨rfl, rfl⟩, Nat.le_refl _, Nat.le_refl _⟩, rfl, rfl, rfl, rfl, rfl⟩
  | some p =>
    obtain ⟨q, hq, hp⟩ := h.p
    rw [hq] at he
    cases he
    exact ⟨r_seq_rp h.w hp (fun u a b => by have := a.2; have := b.2; omega) (fun _ => Iff.rfl), r_seq_fr h.w, rfl, rfl, rfl, rfl, rfl⟩
/-- a piece that belongs to no level yet becomes the latest part -/
def r_newPart (r : RR) (p : Nat) : RR :=
  let z := r_behind r (r.rw (r.k - 1)) (r.pt (r.k - 1))
  (RR.mk (RR.n (z.1)) (RR.on (z.1)) (RR.tw (z.1)) (RR.lab (z.1)) (RR.np (z.1)) (RR.hd (z.1)) (RR.tl (z.1)) (RR.k (z.1)) (RR.ch (z.1)) (sU z.1.rw (r.k - 1) z.2) (sU z.1.pt (r.k - 1) (some p)))
theorem r_newPart_inv {r : RR} {own : Nat → Nat} {x : RLv} {s : List RLv} {p : Nat} {R : Rl} (hk : r.k = s.length + 1) (hl : RLevs r own (x :: s)) (hp : RP r (rU r own (3 * s.length + 3)) p R) (hb : ∀ u, u < r.n → own u < 3 * s.length + 4) :
    ∃ own', RInv (r_newPart r p) own' (st_single R (x :: s)) := by
  obtain ⟨r1, p1, hz⟩ : ∃ r1 p1, r_behind r (r.rw s.length) (r.pt s.length) = (r1, p1) := ⟨_, _, rfl⟩
  obtain ⟨hR, hF, en, ek, ec, ew, ep⟩ := r_behind_ok hl.1 hz
  have hr : r_newPart r p = (RR.mk r1.n r1.on r1.tw r1.lab r1.np r1.hd r1.tl r1.k r1.ch (sU r1.rw s.length p1) (sU r1.pt s.length (some p))) := by
    have e : r.k - 1 = s.length := by omega
    unfold r_newPart
    rw [e, hz]
  let own' : Nat → Nat := fun u => if own u = 3 * s.length + 2 then 3 * s.length + 1 else if own u = 3 * s.length + 3 then 3 * s.length + 2 else own u
  have hcu : ∀ t, t < 3 * s.length + 1 → ∀ u, rU r own t u ↔ rU (r_newPart r p) own' t u := by
    intro t ht u
    have e : (r_newPart r p).n = r.n := by rw [hr]; exact en
    simp only [rU, e, own']
    constructor
    · rintro ⟨a, b⟩; exact ⟨a, by rw [if_neg (by omega), if_neg (by omega)]; exact b⟩
    · rintro ⟨a, b⟩
      refine ⟨a, ?_⟩
      split at b
      · omega
      · split at b
        · omega
        · exact b
  have hrow : ∀ u, (rU r own (3 * s.length + 1) u ∨ rU r own (3 * s.length + 2) u) ↔ rU (r_newPart r p) own' (3 * s.length + 1) u := by
    intro u
    have e : (r_newPart r p).n = r.n := by rw [hr]; exact en
    simp only [rU, e, own']
    constructor
    · rintro (⟨a, b⟩ | ⟨a, b⟩)
      · exact ⟨a, by rw [if_neg (by omega), if_neg (by omega)]; exact b⟩
      · exact ⟨a, by rw [if_pos b]⟩
    · rintro ⟨a, b⟩
      split at b
      · rename_i q; exact Or.inr ⟨a, q⟩
      · split at b
        · omega
        · exact Or.inl ⟨a, b⟩
  have hpart : ∀ u, rU r own (3 * s.length + 3) u ↔ rU (r_newPart r p) own' (3 * s.length + 2) u := by
    intro u
    have e : (r_newPart r p).n = r.n := by rw [hr]; exact en
    simp only [rU, e, own']
    constructor
    · rintro ⟨a, b⟩; exact ⟨a, by rw [if_neg (by omega), if_pos b]⟩
    · rintro ⟨a, b⟩
      split at b
      · omega
      · split at b
        · rename_i q; exact ⟨a, q⟩
        · omega
  have hF2 : RFr r (r_newPart r p) (fun u => ¬ rU r own (3 * s.length + 1) u) := by
    rw [hr]; exact ⟨hF.nd, hF.pc, hF.n, hF.np⟩
  have hF3 : RFr r1 (r_newPart r p) (fun _ => True) := by
    rw [hr]; exact ⟨fun _ _ => ⟨rfl, rfl, rfl⟩, fun _ _ => ⟨rfl, rfl⟩, Nat.le_refl _, Nat.le_refl _⟩
  have e1 : (r_newPart r p).ch = r.ch := by rw [hr]; exact ec
  have e2 : (r_newPart r p).rw = sU r.rw s.length p1 := by rw [hr, ← ew]; rfl
  have e3 : (r_newPart r p).pt = sU r.pt s.length (some p) := by rw [hr, ← ep]; rfl
  refine ⟨own', ?_, ⟨⟨?_, ?_, ?_⟩, ?_⟩, ?_⟩
  · rw [hr]; show r1.k = s.length + 1; rw [ek]; exact hk
  · rw [e1]
    exact hl.1.c.frame hF2 (fun u hu z => by have := hu.2; have := z.2; omega) (hcu _ (by omega))
  · rw [e2, sU_self]
    exact hR.frame hF3 (fun _ _ => trivial) hrow
  · rw [e3, sU_self]
    exact ⟨p, rfl, hp.frame hF2 (fun u hu z => by have := hu.2; have := z.2; omega) hpart⟩
  · refine RLevs.frame hF2 s hl.2 (fun u _ h2 z => by have := z.2; omega) (fun t ht => hcu t (by omega)) (fun k hk' => ⟨by rw [e1], by rw [e2]; exact sU_ne _ _ (by omega), by rw [e3]; exact sU_ne _ _ (by omega)⟩)
  · intro u hu
    have e : (r_newPart r p).n = r.n := by rw [hr]; exact en
    have := hb u (by omega)
    show own' u < 3 * (s.length + 1)
    simp only [own']
    split
    · omega
    · split <;> omega
theorem r_single_inv {r : RR} {own : Nat → Nat} {st : List RLv} (h : RInv r own st) (hne : st ≠ []) (l : Rl) : ∃ own', RInv (r_newPart (r_single r l) r.np) own' (st_single l st) := by
  cases st with
  | nil => exact (hne rfl).elim
  | cons x s =>
    have hls : (x :: s).length = s.length + 1 := rfl
    have hF := r_single_fr r l
    have hn : (r_single r l).n = r.n + 2 := rfl
    let own1 : Nat → Nat := fun u => if r.n ≤ u then 3 * s.length + 3 else own u
    have hcu : ∀ t, t < 3 * (s.length + 1) → ∀ u, rU r own t u ↔ rU (r_single r l) own1 t u := by
      intro t ht u
      simp only [rU, hn, own1]
      constructor
      · rintro ⟨a, b⟩; exact ⟨by omega, by rw [if_neg (by omega)]; exact b⟩
      · rintro ⟨a, b⟩
        split at b
        · omega
        · exact ⟨by omega, b⟩
    refine r_newPart_inv (own := own1) (by show r.k = _; rw [h.k]; rfl) (RLevs.frame hF _ h.l (fun u hu _ => hu) hcu (fun k _ => ⟨rfl, rfl, rfl⟩)) ?_ ?_
    · refine (r_single_rp r l).frame (V := fun _ => True) ⟨fun _ _ => ⟨rfl, rfl, rfl⟩, fun _ _ => ⟨rfl, rfl⟩, Nat.le_refl _, Nat.le_refl _⟩ (fun _ _ => trivial) (fun u => ?_)
      simp only [rU, hn, own1]
      constructor
      · intro a; exact ⟨by omega, if_pos (by omega)⟩
      · rintro ⟨a, b⟩
        split at b
        · omega
        · have := h.b u (by omega); rw [hls] at this; omega
    · intro u hu
      rw [hn] at hu
      show own1 u < _
      simp only [own1]
      split
      · omega
      · have := h.b u (by omega); rw [hls] at this; omega
def r_open (r : RR) : RR := (RR.mk (RR.n (r_nothing r)) (RR.on (r_nothing r)) (RR.tw (r_nothing r)) (RR.lab (r_nothing r)) (RR.np (r_nothing r)) (RR.hd (r_nothing r)) (RR.tl (r_nothing r)) (r.k + 1) (sU r.ch r.k none) (sU r.rw r.k r.np) (sU r.pt r.k none))
theorem r_open_inv {r : RR} {own : Nat → Nat} {st : List RLv} (h : RInv r own st) : ∃ own', RInv (r_open r) own' (st_open st) := by
  have hk := h.k
  have hn : (r_open r).n = r.n + 1 := rfl
  have hF : RFr r (r_open r) (fun u => u < r.n) := ⟨(r_nothing_fr r).nd, (r_nothing_fr r).pc, (r_nothing_fr r).n, (r_nothing_fr r).np⟩
  let own' : Nat → Nat := fun u => if r.n ≤ u then 3 * st.length + 1 else own u
  have hcu : ∀ t, t < 3 * st.length → ∀ u, rU r own t u ↔ rU (r_open r) own' t u := by
    intro t ht u
    simp only [rU, hn, own']
    constructor
    · rintro ⟨a, b⟩; exact ⟨by omega, by rw [if_neg (by omega)]; exact b⟩
    · rintro ⟨a, b⟩
      split at b
      · omega
      · exact ⟨by omega, b⟩
  have hem : ∀ t, 3 * st.length ≤ t → t ≠ 3 * st.length + 1 → ∀ u, ¬ rU (r_open r) own' t u := by
    intro t h1 h2 u
    simp only [rU, hn, own']
    rintro ⟨a, b⟩
    split at b
    · omega
    · have := h.b u (by omega); omega
  refine ⟨own', show r.k + 1 = st.length + 1 by omega, ⟨⟨⟨?_, hem _ (by omega) (by omega)⟩, ?_, ⟨?_, hem _ (by omega) (by omega)⟩⟩, ?_⟩, ?_⟩
  · show sU _ _ _ _ = _; rw [hk, sU_self]
  · have e : (r_open r).rw st.length = r.np := by show sU _ _ _ _ = _; rw [hk, sU_self]
    rw [e]
    refine (r_nothing_rp r).frame (V := fun _ => True) ⟨fun _ _ => ⟨rfl, rfl, rfl⟩, fun _ _ => ⟨rfl, rfl⟩, Nat.le_refl _, Nat.le_refl _⟩ (fun _ _ => trivial) (fun u => ?_)
    simp only [rU, hn, own']
    constructor
    · intro a; exact ⟨by omega, if_pos (by omega)⟩
    · rintro ⟨a, b⟩
      split at b
      · omega
      · have := h.b u (by omega); omega
  · show sU _ _ _ _ = _; rw [hk, sU_self]
  · exact RLevs.frame hF st h.l (fun u hu _ => hu) hcu (fun k hk' => ⟨sU_ne _ _ (by omega), sU_ne _ _ (by omega), sU_ne _ _ (by omega)⟩)
  · intro u hu
    rw [hn] at hu
    show own' u < 3 * (st.length + 1)
    simp only [own']
    split
    · omega
    · have := h.b u (by omega); omega
/-- what is open at the top, as one piece -/
def r_end (r : RR) : RR × Nat :=
  let z := r_behind r (r.rw (r.k - 1)) (r.pt (r.k - 1))
  match r.ch (r.k - 1) with
  | none => z
  | some c => (r_alt z.1 c z.2, z.1.np)
theorem r_end_ok {r : RR} {own : Nat → Nat} {x : RLv} {s : List RLv} (h : RInv r own (x :: s)) {r' : RR} {p' : Nat} (he : r_end r = (r', p')) :
    RP r' (fun u => (u < r.n ∧ 3 * s.length ≤ own u) ∨ (r.n ≤ u ∧ u < r'.n)) p' (rl_all x) ∧ RFr r r' (fun u => u < r.n ∧ own u < 3 * s.length) ∧ r'.k = r.k ∧ r'.ch = r.ch ∧ r'.rw = r.rw ∧ r'.pt = r.pt := by
  have hk : r.k - 1 = s.length := by rw [h.k]; rfl
  obtain ⟨r1, p1, hz⟩ : ∃ r1 p1, r_behind r (r.rw s.length) (r.pt s.length) = (r1, p1) := ⟨_, _, rfl⟩
  obtain ⟨hR, hF, en, ek, ec, ew, ep⟩ := r_behind_ok h.l.1 hz
  have hb : ∀ u, u < r.n → own u < 3 * s.length + 3 := fun u hu => by have := h.b u hu; rw [show (x :: s).length = s.length + 1 from rfl] at this; omega
  unfold r_end at he
  rw [hk, hz] at he
  have hc := h.l.1.c
  obtain ⟨c, y⟩ := x
  cases c with
  | none =>
    obtain ⟨e1, e2⟩ := hc
    rw [e1] at he
    cases he
    refine ⟨?_, hF.sub (fun u hu z => by have := z.2; have := hu.2; omega), ek, ec, ew, ep⟩
    refine hR.frame (V := fun _ => True) ⟨fun _ _ => ⟨rfl, rfl, rfl⟩, fun _ _ => ⟨rfl, rfl⟩, Nat.le_refl _, Nat.le_refl _⟩ (fun _ _ => trivial) (fun u => ?_)
    constructor
    · rintro (⟨a, b⟩ | ⟨a, b⟩)
      · exact Or.inl ⟨a, by omega⟩
      · exact Or.inl ⟨a, by omega⟩
    · rintro (⟨a, b⟩ | ⟨a, b⟩)
      · have h1 := hb u a
        have h2 : own u ≠ 3 * s.length := fun e => e2 u ⟨a, e⟩
        by_cases e : own u = 3 * s.length + 1
        · exact Or.inl ⟨a, e⟩
        · exact Or.inr ⟨a, by omega⟩
      · rw [en] at b; omega
  | some c =>
    obtain ⟨q, e1, e2⟩ := hc
    rw [e1] at he
    cases he
    have hq : RP r1 (rU r own (3 * s.length)) q c := e2.frame hF (fun u a b => by have := a.2; have := b.2; omega) (fun _ => Iff.rfl)
    have hn' : (r_alt r1 q p1).n = r.n + 2 := by show r1.n + 2 = _; rw [en]
    refine ⟨?_, ?_, ek, ec, ew, ep⟩
    · refine r_alt_rp hq hR (fun u a b => by have := a.2; rcases b with b | b <;> (have := b.2; omega)) (fun u => ?_)
      rw [hn', en]
      constructor
      · rintro (⟨a, b⟩ | ⟨a, b⟩)
        · have h1 := hb u a
          by_cases e0 : own u = 3 * s.length
          · exact Or.inl ⟨a, e0⟩
          · by_cases e : own u = 3 * s.length + 1
            · exact Or.inr (Or.inl (Or.inl ⟨a, e⟩))
            · exact Or.inr (Or.inl (Or.inr ⟨a, by omega⟩))
        · exact Or.inr (Or.inr (by omega))
      · rintro (⟨a, b⟩ | (⟨a, b⟩ | ⟨a, b⟩) | e | e)
        · exact Or.inl ⟨a, by omega⟩
        · exact Or.inl ⟨a, by omega⟩
        · exact Or.inl ⟨a, by omega⟩
        · exact Or.inr (by omega)
        · exact Or.inr (by omega)
    · refine (hF.sub (fun u hu z => by have := z.2; have := hu.2; omega)).trans ((r_alt_fr hq hR).sub (fun u hu => ⟨by rw [en]; exact hu.1, fun z => by have := z.2; have := hu.2; omega, fun z => by have := hu.2; rcases z with z | z <;> (have := z.2; omega)⟩))
def r_bar (r : RR) : RR :=
  let z := r_end r
  let r1 : RR := (RR.mk (RR.n (z.1)) (RR.on (z.1)) (RR.tw (z.1)) (RR.lab (z.1)) (RR.np (z.1)) (RR.hd (z.1)) (RR.tl (z.1)) (RR.k (z.1)) (sU z.1.ch (r.k - 1) (some z.2)) (RR.rw (z.1)) (sU z.1.pt (r.k - 1) none))
  (RR.mk (RR.n (r_nothing r1)) (RR.on (r_nothing r1)) (RR.tw (r_nothing r1)) (RR.lab (r_nothing r1)) (RR.np (r_nothing r1)) (RR.hd (r_nothing r1)) (RR.tl (r_nothing r1)) (RR.k (r_nothing r1)) (RR.ch (r_nothing r1)) (sU r1.rw (r.k - 1) r1.np) (RR.pt (r_nothing r1)))
theorem r_bar_inv {r : RR} {own : Nat → Nat} {st : List RLv} (h : RInv r own st) (hne : st ≠ []) : ∃ own', RInv (r_bar r) own' (st_bar st) := by
  cases st with
  | nil => exact (hne rfl).elim
  | cons x s =>
    obtain ⟨r1, p1, hz⟩ : ∃ r1 p1, r_end r = (r1, p1) := ⟨_, _, rfl⟩
    obtain ⟨hR, hF, ek, ec, ew, ep⟩ := r_end_ok h hz
    have hk : r.k - 1 = s.length := by rw [h.k]; rfl
    let r2 : RR := (RR.mk r1.n r1.on r1.tw r1.lab r1.np r1.hd r1.tl r1.k (sU r1.ch s.length (some p1)) r1.rw (sU r1.pt s.length none))
    have hr : r_bar r = (RR.mk (RR.n (r_nothing r2)) (RR.on (r_nothing r2)) (RR.tw (r_nothing r2)) (RR.lab (r_nothing r2)) (RR.np (r_nothing r2)) (RR.hd (r_nothing r2)) (RR.tl (r_nothing r2)) (RR.k (r_nothing r2)) (RR.ch (r_nothing r2)) (sU r2.rw s.length r2.np) (RR.pt (r_nothing r2))) := by
      unfold r_bar
      rw [hk, hz]
    have hb : ∀ u, u < r.n → own u < 3 * s.length + 3 := fun u hu => by have := h.b u hu; rw [show (x :: s).length = s.length + 1 from rfl] at this; omega
    have hn1 := hF.n
    have hn : (r_bar r).n = r1.n + 1 := by rw [hr]; rfl
    have hF2 : RFr r2 (r_bar r) (fun u => u < r1.n) := by
      rw [hr]; exact ⟨(r_nothing_fr r2).nd, (r_nothing_fr r2).pc, (r_nothing_fr r2).n, (r_nothing_fr r2).np⟩
    have hF12 : RFr r1 (r_bar r) (fun u => u < r1.n) := ⟨hF2.nd, hF2.pc, hF2.n, hF2.np⟩
    let own' : Nat → Nat := fun u => if u < r.n then (if 3 * s.length ≤ own u then 3 * s.length else own u) else if u < r1.n then 3 * s.length else 3 * s.length + 1
    have hlow : ∀ t, t < 3 * s.length → ∀ u, rU r own t u ↔ rU (r_bar r) own' t u := by
      intro t ht u
      simp only [rU, hn, own']
      constructor
      · rintro ⟨a, b⟩; exact ⟨by omega, by rw [if_pos a, if_neg (by omega)]; exact b⟩
      · rintro ⟨a, b⟩
        split at b
        · split at b
          · omega
          · rename_i q _; exact ⟨q, b⟩
        · split at b <;> omega
    refine ⟨own', ?_, ⟨⟨?_, ?_, ?_⟩, ?_⟩, ?_⟩
    · rw [hr]; show r1.k = _; rw [ek]; exact h.k
    · refine ⟨p1, ?_, ?_⟩
      · rw [hr]; exact sU_self _ _ _
      · refine hR.frame hF12 (fun u hu => hR.un u hu) (fun u => ?_)
        simp only [rU, hn, own']
        constructor
        · rintro (⟨a, b⟩ | ⟨a, b⟩)
          · exact ⟨by omega, by rw [if_pos a, if_pos b]⟩
          · exact ⟨by omega, by rw [if_neg (by omega), if_pos b]⟩
        · rintro ⟨a, b⟩
          split at b
          · split at b
            · rename_i q1 q2; exact Or.inl ⟨q1, q2⟩
            · rename_i q1 q2; omega
          · split at b
            · exact Or.inr (by omega)
            · omega
    · have e : (r_bar r).rw s.length = r1.np := by rw [hr]; exact sU_self _ _ _
      rw [e]
      have hh := r_nothing_rp r2
      refine hh.frame (r' := r_bar r) (V := fun _ => True) (by rw [hr]; exact ⟨fun _ _ => ⟨rfl, rfl, rfl⟩, fun _ _ => ⟨rfl, rfl⟩, Nat.le_refl _, Nat.le_refl _⟩) (fun _ _ => trivial) (fun u => ?_)
      simp only [rU, hn, own']
      show u = r1.n ↔ _
      constructor
      · intro a; exact ⟨by omega, by rw [if_neg (by omega), if_neg (by omega)]⟩
      · rintro ⟨a, b⟩
        split at b
        · split at b <;> omega
        · split at b <;> omega
    · refine ⟨?_, fun u => ?_⟩
      · rw [hr]; exact sU_self _ _ _
      · simp only [rU, hn, own']
        rintro ⟨a, b⟩
        split at b
        · split at b <;> omega
        · split at b <;> omega
    · refine RLevs.frame (hF.trans (hF12.sub (fun u hu => by have := hu.1; omega))) s h.l.2 (fun u hu h2 => ⟨hu, h2⟩) hlow (fun k hk' => ?_)
      rw [hr]
      exact ⟨by show sU _ _ _ _ = _; rw [sU_ne _ _ (by omega), ec], by show sU _ _ _ _ = _; rw [sU_ne _ _ (by omega)]; show r1.rw k = _; rw [ew], by show sU _ _ _ _ = _; rw [sU_ne _ _ (by omega), ep]⟩
    · intro u hu
      rw [hn] at hu
      show own' u < 3 * (s.length + 1)
      simp only [own']
      split
      · rename_i q; have := hb u q; split <;> omega
      · split <;> omega
def r_close (r : RR) : RR :=
  let z := r_end r
  r_newPart (RR.mk (RR.n (z.1)) (RR.on (z.1)) (RR.tw (z.1)) (RR.lab (z.1)) (RR.np (z.1)) (RR.hd (z.1)) (RR.tl (z.1)) (r.k - 1) (sU z.1.ch (r.k - 1) (some z.2)) (RR.rw (z.1)) (sU z.1.pt (r.k - 1) none)) z.2
theorem r_close_inv {r : RR} {own : Nat → Nat} {x y : RLv} {s : List RLv} (h : RInv r own (x :: y :: s)) : ∃ own', RInv (r_close r) own' (st_close (x :: y :: s)) := by
  obtain ⟨r1, p1, hz⟩ : ∃ r1 p1, r_end r = (r1, p1) := ⟨_, _, rfl⟩
  obtain ⟨hR, hF, ek, ec, ew, ep⟩ := r_end_ok h hz
  have hls : (y :: s).length = s.length + 1 := rfl
  have hk : r.k - 1 = s.length + 1 := by rw [h.k]; rfl
  let r2 : RR := (RR.mk r1.n r1.on r1.tw r1.lab r1.np r1.hd r1.tl (s.length + 1) (sU r1.ch (s.length + 1) (some p1)) r1.rw (sU r1.pt (s.length + 1) none))
  have hr : r_close r = r_newPart r2 p1 := by
    unfold r_close
    rw [hk, hz]
  rw [hr]
  have hb : ∀ u, u < r.n → own u < 3 * s.length + 6 := fun u hu => by have := h.b u hu; rw [show (x :: y :: s).length = s.length + 2 from rfl] at this; omega
  have hn1 := hF.n
  have hF2 : RFr r r2 (fun u => u < r.n ∧ own u < 3 * (y :: s).length) := ⟨hF.nd, hF.pc, hF.n, hF.np⟩
  let own1 : Nat → Nat := fun u => if u < r.n then (if 3 * (s.length + 1) ≤ own u then 3 * s.length + 3 else own u) else 3 * s.length + 3
  have hn : r2.n = r1.n := rfl
  refine r_newPart_inv (own := own1) rfl ?_ ?_ ?_
  · refine RLevs.frame hF2 (y :: s) h.l.2 (fun u hu h2 => ⟨hu, h2⟩) (fun t ht u => ?_) (fun k hk' => ?_)
    · rw [hls] at ht
      simp only [rU, hn, own1]
      constructor
      · rintro ⟨a, b⟩; exact ⟨by omega, by rw [if_pos a, if_neg (by omega)]; exact b⟩
      · rintro ⟨a, b⟩
        split at b
        · split at b
          · omega
          · rename_i q _; exact ⟨q, b⟩
        · omega
    · rw [hls] at hk'
      exact ⟨by show sU _ _ _ _ = _; rw [sU_ne _ _ (by omega), ec], by show r1.rw k = _; rw [ew], by show sU _ _ _ _ = _; rw [sU_ne _ _ (by omega), ep]⟩
  · refine hR.frame (r' := r2) (V := fun _ => True) ⟨fun _ _ => ⟨rfl, rfl, rfl⟩, fun _ _ => ⟨rfl, rfl⟩, Nat.le_refl _, Nat.le_refl _⟩ (fun _ _ => trivial) (fun u => ?_)
    rw [hls]
    simp only [rU, hn, own1]
    constructor
    · rintro (⟨a, b⟩ | ⟨a, b⟩)
      · exact ⟨by omega, by rw [if_pos a, if_pos b]⟩
      · exact ⟨by omega, by rw [if_neg (by omega)]⟩
    · rintro ⟨a, b⟩
      by_cases q : u < r.n
      · rw [if_pos q] at b
        split at b
        · rename_i q2; exact Or.inl ⟨q, q2⟩
        · omega
      · exact Or.inr (by omega)
  · intro u hu
    show own1 u < _
    simp only [own1]
    split
    · split <;> omega
    · omega
def r_rep (r : RR) (p : Nat) (leave again : Bool) : RR := (RR.mk (RR.n (r_times r p leave again)) (RR.on (r_times r p leave again)) (RR.tw (r_times r p leave again)) (RR.lab (r_times r p leave again)) (RR.np (r_times r p leave again)) (RR.hd (r_times r p leave again)) (RR.tl (r_times r p leave again)) (RR.k (r_times r p leave again)) (RR.ch (r_times r p leave again)) (RR.rw (r_times r p leave again)) (sU r.pt (r.k - 1) (some r.np)))
theorem r_rep_inv {r : RR} {own : Nat → Nat} {c : Option Rl} {q pr : Rl} {s : List RLv} (h : RInv r own ((c, q, some pr) :: s)) {p : Nat} (hp : r.pt s.length = some p) (leave again : Bool) :
    ∃ own', RInv (r_rep r p leave again) own' (st_times leave again ((c, q, some pr) :: s)) := by
  obtain ⟨p0, e0, hP⟩ := h.l.1.p
  have hpp : p0 = p := by rw [hp] at e0; exact (Option.some.inj e0).symm
  subst hpp
  have hk : r.k - 1 = s.length := by rw [h.k]; rfl
  have hn : (r_rep r p0 leave again).n = r.n + 2 := rfl
  have hF0 := r_times_fr hP leave again
  have hF : RFr r (r_rep r p0 leave again) (fun u => u < r.n ∧ ¬ rU r own (3 * s.length + 2) u) := ⟨hF0.nd, hF0.pc, hF0.n, hF0.np⟩
  have hb : ∀ u, u < r.n → own u < 3 * s.length + 3 := fun u hu => by have := h.b u hu; rw [show ((c, q, some pr) :: s).length = s.length + 1 from rfl] at this; omega
  let own' : Nat → Nat := fun u => if r.n ≤ u then 3 * s.length + 2 else own u
  have hcu : ∀ t, t ≠ 3 * s.length + 2 → ∀ u, rU r own t u ↔ rU (r_rep r p0 leave again) own' t u := by
    intro t ht u
    simp only [rU, hn, own']
    constructor
    · rintro ⟨a, b⟩; exact ⟨by omega, by rw [if_neg (by omega)]; exact b⟩
    · rintro ⟨a, b⟩
      split at b
      · omega
      · exact ⟨by omega, b⟩
  refine ⟨own', h.k, ⟨⟨?_, ?_, ?_⟩, ?_⟩, ?_⟩
  · exact h.l.1.c.frame hF (fun u hu => ⟨hu.1, fun z => by have := hu.2; have := z.2; omega⟩) (hcu _ (by omega))
  · exact h.l.1.w.frame hF (fun u hu => ⟨hu.1, fun z => by have := hu.2; have := z.2; omega⟩) (hcu _ (by omega))
  · refine ⟨r.np, ?_, ?_⟩
    · show sU _ _ _ _ = _; rw [hk, sU_self]
    · have hh := r_times_rp (U := rU (r_rep r p0 leave again) own' (3 * s.length + 2)) hP leave again (fun u => ?_)
      · exact hh.frame (r' := r_rep r p0 leave again) (V := fun _ => True) ⟨fun _ _ => ⟨rfl, rfl, rfl⟩, fun _ _ => ⟨rfl, rfl⟩, Nat.le_refl _, Nat.le_refl _⟩ (fun _ _ => trivial) (fun _ => Iff.rfl)
      · simp only [rU, hn, own']
        constructor
        · rintro ⟨a, b⟩
          split at b
          · exact Or.inr (by omega)
          · exact Or.inl ⟨by omega, b⟩
        · rintro (⟨a, b⟩ | e)
          · exact ⟨by omega, by rw [if_neg (by omega)]; exact b⟩
          · exact ⟨by omega, if_pos (by omega)⟩
  · exact RLevs.frame hF s h.l.2 (fun u hu h2 => ⟨hu, fun z => by have := z.2; omega⟩) (fun t ht => hcu t (by omega)) (fun k hk' => ⟨rfl, rfl, by show sU _ _ _ _ = _; rw [sU_ne _ _ (by omega)]⟩)
  · intro u hu
    rw [hn] at hu
    show own' u < 3 * (s.length + 1)
    simp only [own']
    split
    · omega
    · have := hb u (by omega); omega
theorem r_fin_inv {r : RR} {own : Nat → Nat} {x : RLv} (h : RInv r own [x]) {r' : RR} {p' : Nat} (he : r_end r = (r', p')) : RP r' (fun u => u < r'.n) p' (rl_all x) := by
  obtain ⟨hR, hF, _⟩ := r_end_ok h he
  refine hR.frame (r' := r') (V := fun _ => True) ⟨fun _ _ => ⟨rfl, rfl, rfl⟩, fun _ _ => ⟨rfl, rfl⟩, Nat.le_refl _, Nat.le_refl _⟩ (fun _ _ => trivial) (fun u => ?_)
  have := hF.n
  constructor
  · rintro (⟨a, _⟩ | ⟨_, b⟩)
    · omega
    · exact b
  · intro a
    by_cases e : u < r.n
    · exact Or.inl ⟨e, by show 3 * 0 ≤ _; omega⟩
    · exact Or.inr ⟨by omega, a⟩
theorem r_start_inv {r : RR} (hn : r.n = 0) (hk : r.k = 0) : ∃ own, RInv r own [] := ⟨fun _ => 0, hk, trivial, fun u hu => by omega⟩
-- 34.num
theorem pn_toInt {n : Nat} (h : n < 2147483648) : (Int32.ofNat n).toInt = (n : Int) := by
  exact Int32.toInt_ofNat_of_lt (by omega)
theorem pn_lt {a b : Nat} (ha : a < 2147483648) (hb : b < 2147483648) : Int32.ofNat a < Int32.ofNat b ↔ a < b := by
  rw [Int32.lt_iff_toInt_lt, pn_toInt ha, pn_toInt hb]; omega
theorem pn_le {a b : Nat} (ha : a < 2147483648) (hb : b < 2147483648) : Int32.ofNat a ≤ Int32.ofNat b ↔ a ≤ b := by
  rw [Int32.le_iff_toInt_le, pn_toInt ha, pn_toInt hb]; omega
theorem pn_eq {a b : Nat} (ha : a < 2147483648) (hb : b < 2147483648) : Int32.ofNat a = Int32.ofNat b ↔ a = b := by
  rw [← Int32.toInt_inj, pn_toInt ha, pn_toInt hb]; omega
theorem pn_nat {a : Nat} (ha : a < 2147483648) : (Int32.ofNat a).toNatClampNeg = a := by
  show (Int32.ofNat a).toInt.toNat = a
  rw [pn_toInt ha]; rfl
theorem pn_add (a b : Nat) : Int32.ofNat a + Int32.ofNat b = Int32.ofNat (a + b) := (Int32.ofNat_add a b).symm
theorem pn_sub {a b : Nat} (h : b ≤ a) : Int32.ofNat a - Int32.ofNat b = Int32.ofNat (a - b) := by
  rw [Int32.ofNat_sub a b h]
theorem pn_mul (a b : Nat) : Int32.ofNat a * Int32.ofNat b = Int32.ofNat (a * b) := (Int32.ofNat_mul a b).symm
theorem pn_nneg {a : Nat} (ha : a < 2147483648) : ¬ Int32.ofNat a < 0 := by
  rw [Int32.lt_iff_toInt_lt, pn_toInt ha, Int32.toInt_zero]; omega
theorem pn_0le {a : Nat} (ha : a < 2147483648) : (0 : Int32) ≤ Int32.ofNat a := by
  rw [Int32.le_iff_toInt_le, pn_toInt ha, Int32.toInt_zero]; omega
theorem pn_inb {a n : Nat} (ha : a < 2147483648) : wk_inb (Int32.ofNat a) n = true ↔ a < n := by
  simp only [wk_inb, pn_nat ha, decide_eq_false (pn_nneg ha), Bool.not_false, Bool.true_and, decide_eq_true_eq]
theorem pn_m1 : (-1 : Int32).toInt = -1 := by decide
theorem pn_ne1 {a : Nat} (ha : a < 2147483648) : Int32.ofNat a ≠ -1 := fun e => by
  have h := congrArg Int32.toInt e
  rw [pn_toInt ha, pn_m1] at h; omega
theorem pn_ofclamp {x : Int32} (h : ¬ x < 0) : Int32.ofNat x.toNatClampNeg = x := by
  rw [Int32.lt_iff_toInt_lt, Int32.toInt_zero] at h
  rw [← Int32.toInt_inj]
  have h2 := Int32.toInt_lt x
  have h1 : x.toNatClampNeg = x.toInt.toNat := rfl
  rw [h1, pn_toInt (by omega)]; omega
theorem pn_clamp_lt (x : Int32) : x.toNatClampNeg < 2147483648 := by
  have h2 := Int32.toInt_lt x
  have h1 : x.toNatClampNeg = x.toInt.toNat := rfl
  rw [h1]; omega
theorem pn_lit (n : Nat) : (OfNat.ofNat n : Int32) = Int32.ofNat n := rfl
theorem pn_succ (n : Nat) : Int32.ofNat n + 1 = Int32.ofNat (n + 1) := pn_add n 1
theorem pn_pred (n : Nat) : Int32.ofNat (n + 1) - 1 = Int32.ofNat n := pn_sub (a := n + 1) (b := 1) (by omega)
theorem pn_eqc {a : Nat} {x : Int32} (l : Nat) (hx : x = Int32.ofNat l) (ha : a < 2147483648) (hl : l < 2147483648) : Int32.ofNat a = x ↔ a = l := by rw [hx]; exact pn_eq ha hl
theorem pn_lec {a : Nat} {x : Int32} (l : Nat) (hx : x = Int32.ofNat l) (ha : a < 2147483648) (hl : l < 2147483648) : Int32.ofNat a ≤ x ↔ a ≤ l := by rw [hx]; exact pn_le ha hl
theorem pn_cle {a : Nat} {x : Int32} (l : Nat) (hx : x = Int32.ofNat l) (ha : a < 2147483648) (hl : l < 2147483648) : x ≤ Int32.ofNat a ↔ l ≤ a := by rw [hx]; exact pn_le hl ha
theorem pn_ltc {a : Nat} {x : Int32} (l : Nat) (hx : x = Int32.ofNat l) (ha : a < 2147483648) (hl : l < 2147483648) : Int32.ofNat a < x ↔ a < l := by rw [hx]; exact pn_lt ha hl
theorem pn_clt {a : Nat} {x : Int32} (l : Nat) (hx : x = Int32.ofNat l) (ha : a < 2147483648) (hl : l < 2147483648) : x < Int32.ofNat a ↔ l < a := by rw [hx]; exact pn_lt hl ha
-- 35.cab
theorem upd_self (f : Nat → Int32) (k : Nat) (v : Int32) : upd f k v k = v := by simp [upd]
theorem upd_ne (f : Nat → Int32) {k j : Nat} (v : Int32) (h : j ≠ k) : upd f k v j = f j := by simp [upd, h]
theorem vpl_self (f : Nat → Int64) (k : Nat) (v : Int64) : vp_updL f k v k = v := by simp [vp_updL]
theorem vpl_ne (f : Nat → Int64) {k j : Nat} (v : Int64) (h : j ≠ k) : vp_updL f k v j = f j := by simp [vp_updL, h]
theorem A_addNode {M : MI} {MB : MA} {L : ML} {n : Nat} (k : Int32) (hn : M 5 = Int32.ofNat n) (h : n < 50) :
    f_A_addNode M MB L k = some (Int32.ofNat n, upd M 5 (Int32.ofNat (n + 1)), va_up (va_up (va_up MB 0 (upd (MB 0) n k)) 1 (upd (MB 1) n (-1))) 2 (upd (MB 2) n (-1)), va_up (va_up L 3 (vp_updL (L 3) n 0)) 4 (vp_updL (L 4) n 0)) := by
  have hi : wk_inb (Int32.ofNat n) 50 = true := (pn_inb (by omega)).mpr h
  have h1 : va_up MB 0 (upd (MB 0) n k) 1 = MB 1 := va_up_ne _ _ (by decide)
  have h2 : va_up (va_up MB 0 (upd (MB 0) n k)) 1 (upd (MB 1) n (-1)) 2 = MB 2 := by rw [va_up_ne _ _ (by decide), va_up_ne _ _ (by decide)]
  have h3 : va_up L 3 (vp_updL (L 3) n 0) 4 = L 4 := va_up_ne _ _ (by decide)
  simp only [f_A_addNode, wk_let, hn, hi, if_true, pn_nat (show n < 2147483648 by omega), h1, h2, h3, pn_succ]
theorem A_addPart {sx : Nat → Int32} {I : MI} {A : MA} {M : MI} {MB : MA} {L : ML} {t : Nat} (a b : Int32) (ht : I 12 = Int32.ofNat t) (h : t < 50) :
    f_P_addPart sx I A M MB L a b = some (0, upd (upd (upd I 10 (Int32.ofNat t)) 11 a) 12 b, A, M, va_up MB 1 (upd (MB 1) t a), L) := by
  have hi : wk_inb (Int32.ofNat t) 50 = true := (pn_inb (by omega)).mpr h
  simp only [f_P_addPart, wk_let, ht, upd_self, hi, if_true, pn_nat (show t < 2147483648 by omega)]
theorem A_addNodeAsPart {sx : Nat → Int32} {I : MI} {A : MA} {M : MI} {MB : MA} {L : ML} {n t : Nat} (k : Int32) (hn : M 5 = Int32.ofNat n) (h : n < 50) (ht : I 12 = Int32.ofNat t) (h' : t < 50) :
    f_P_addNodeAsPart sx I A M MB L k = some (Int32.ofNat n, upd (upd (upd I 10 (Int32.ofNat t)) 11 (Int32.ofNat n)) 12 (Int32.ofNat n), A, upd M 5 (Int32.ofNat (n + 1)),
      va_up (va_up (va_up (va_up MB 0 (upd (MB 0) n k)) 1 (upd (MB 1) n (-1))) 2 (upd (MB 2) n (-1))) 1 (upd (upd (MB 1) n (-1)) t (Int32.ofNat n)), va_up (va_up L 3 (vp_updL (L 3) n 0)) 4 (vp_updL (L 4) n 0)) := by
  have h2 : va_up (va_up (va_up MB 0 (upd (MB 0) n k)) 1 (upd (MB 1) n (-1))) 2 (upd (MB 2) n (-1)) 1 = upd (MB 1) n (-1) := by rw [va_up_ne _ _ (by decide), va_up_self]
  simp only [f_P_addNodeAsPart, A_addNode k hn h, A_addPart _ _ ht h', Option.bind_some, h2]
/-- a number that may be -1, for a node that may be missing -/
def nd (n : Nat) (x : Int32) (o : Option Nat) : Prop := match o with
  | none => x = -1
  | some v => v < n ∧ x = Int32.ofNat v
theorem nd.mono {n n' : Nat} {x : Int32} {o : Option Nat} (h : nd n x o) (hn : n ≤ n') : nd n' x o := by
  cases o with
  | none => exact h
  | some v => exact ⟨Nat.lt_of_lt_of_le h.1 hn, h.2⟩
def tx_beg (tx : Nat → Int32) (i : Nat) : Prop := i = 0 ∨ tx (i - 1) = 10
def tx_end (tn : Nat) (tx : Nat → Int32) (i : Nat) : Prop := i = tn ∨ tx i = 10
def tl_con (tn : Nat) (tx : Nat → Int32) (P : Int32 → Prop) : Rl := fun i j => j = i + 1 ∧ i < tn ∧ P (tx i)
def tl_beg (tx : Nat → Int32) : Rl := fun i j => i = j ∧ tx_beg tx i
def tl_end (tn : Nat) (tx : Nat → Int32) : Rl := fun i j => i = j ∧ tx_end tn tx i
/-- bit k of a long -/
def lb (x : Int64) (k : Nat) : Bool := x.toBitVec.getLsbD k
/-- a consuming node of the class takes this character -/
def c_takes (lo hi : Int64) (c : Int32) : Prop := if c.toNatClampNeg < 64 then lb lo c.toNatClampNeg = true else lb hi (c.toNatClampNeg - 64) = true
def cLab (tn : Nat) (tx : Nat → Int32) (k : Int32) (lo hi : Int64) : Rl :=
  if k = 0 then rl_id else if k = 1 then tl_con tn tx (c_takes lo hi) else if k = 2 then tl_beg tx else if k = 3 then tl_end tn tx else rl_no
/-- the arrays of the reader and of what it makes, and the graph -/
abbrev CAbs (tn : Nat) (tx : Nat → Int32) (I : MI) (A : MA) (M : MI) (MB : MA) (L : ML) (r : CR) : Prop := (M 5 = Int32.ofNat r.n) ∧ (r.n ≤ 50) ∧ (∀ u, u < r.n → nd r.n (MB 1 u) (r.nx u)) ∧ (∀ u, u < r.n → nd r.n (MB 2 u) (r.ot u)) ∧ (∀ u, u < r.n → r.lab u = cLab tn tx (MB 0 u) (L 3 u) (L 4 u)) ∧ (I 8 = Int32.ofNat r.d) ∧ (r.d ≤ 8) ∧ (∀ k, k ≤ r.d → A 0 k = Int32.ofNat (r.cs k) ∧ r.cs k < r.n) ∧ (∀ k, k ≤ r.d → A 1 k = Int32.ofNat (r.ce k) ∧ r.ce k < r.n) ∧ (∀ k, k ≤ r.d → A 2 k = Int32.ofNat (r.rh k) ∧ r.rh k < r.n) ∧ (∀ k, 0 < k → k ≤ r.d → A 3 k = Int32.ofNat (r.ou k) ∧ r.ou k < r.n) ∧ (nd r.n (I 11) r.first) ∧ (r.first ≠ none → I 10 = Int32.ofNat r.lead ∧ r.lead < r.n) ∧ (I 12 = Int32.ofNat r.tail) ∧ (r.tail < r.n) ∧ (∀ u, u < r.n → r.ot u ≠ none → MB 0 u = 0) ∧ (∀ k, k ≤ r.d → MB 0 (r.rh k) = 0)
theorem CAbs.n {tn : Nat} {tx : Nat → Int32} {I : MI} {A : MA} {M : MI} {MB : MA} {L : ML} {r : CR} (h_ : CAbs tn tx I A M MB L r) : M 5 = Int32.ofNat r.n := h_.1
theorem CAbs.nb {tn : Nat} {tx : Nat → Int32} {I : MI} {A : MA} {M : MI} {MB : MA} {L : ML} {r : CR} (h_ : CAbs tn tx I A M MB L r) : r.n ≤ 50 := h_.2.1
theorem CAbs.nx {tn : Nat} {tx : Nat → Int32} {I : MI} {A : MA} {M : MI} {MB : MA} {L : ML} {r : CR} (h_ : CAbs tn tx I A M MB L r) : ∀ u, u < r.n → nd r.n (MB 1 u) (r.nx u) := h_.2.2.1
theorem CAbs.ot {tn : Nat} {tx : Nat → Int32} {I : MI} {A : MA} {M : MI} {MB : MA} {L : ML} {r : CR} (h_ : CAbs tn tx I A M MB L r) : ∀ u, u < r.n → nd r.n (MB 2 u) (r.ot u) := h_.2.2.2.1
theorem CAbs.lab {tn : Nat} {tx : Nat → Int32} {I : MI} {A : MA} {M : MI} {MB : MA} {L : ML} {r : CR} (h_ : CAbs tn tx I A M MB L r) : ∀ u, u < r.n → r.lab u = cLab tn tx (MB 0 u) (L 3 u) (L 4 u) := h_.2.2.2.2.1
theorem CAbs.d {tn : Nat} {tx : Nat → Int32} {I : MI} {A : MA} {M : MI} {MB : MA} {L : ML} {r : CR} (h_ : CAbs tn tx I A M MB L r) : I 8 = Int32.ofNat r.d := h_.2.2.2.2.2.1
theorem CAbs.db {tn : Nat} {tx : Nat → Int32} {I : MI} {A : MA} {M : MI} {MB : MA} {L : ML} {r : CR} (h_ : CAbs tn tx I A M MB L r) : r.d ≤ 8 := h_.2.2.2.2.2.2.1
theorem CAbs.cs {tn : Nat} {tx : Nat → Int32} {I : MI} {A : MA} {M : MI} {MB : MA} {L : ML} {r : CR} (h_ : CAbs tn tx I A M MB L r) : ∀ k, k ≤ r.d → A 0 k = Int32.ofNat (r.cs k) ∧ r.cs k < r.n := h_.2.2.2.2.2.2.2.1
theorem CAbs.ce {tn : Nat} {tx : Nat → Int32} {I : MI} {A : MA} {M : MI} {MB : MA} {L : ML} {r : CR} (h_ : CAbs tn tx I A M MB L r) : ∀ k, k ≤ r.d → A 1 k = Int32.ofNat (r.ce k) ∧ r.ce k < r.n := h_.2.2.2.2.2.2.2.2.1
theorem CAbs.rh {tn : Nat} {tx : Nat → Int32} {I : MI} {A : MA} {M : MI} {MB : MA} {L : ML} {r : CR} (h_ : CAbs tn tx I A M MB L r) : ∀ k, k ≤ r.d → A 2 k = Int32.ofNat (r.rh k) ∧ r.rh k < r.n := h_.2.2.2.2.2.2.2.2.2.1
theorem CAbs.ou {tn : Nat} {tx : Nat → Int32} {I : MI} {A : MA} {M : MI} {MB : MA} {L : ML} {r : CR} (h_ : CAbs tn tx I A M MB L r) : ∀ k, 0 < k → k ≤ r.d → A 3 k = Int32.ofNat (r.ou k) ∧ r.ou k < r.n := h_.2.2.2.2.2.2.2.2.2.2.1
theorem CAbs.fi {tn : Nat} {tx : Nat → Int32} {I : MI} {A : MA} {M : MI} {MB : MA} {L : ML} {r : CR} (h_ : CAbs tn tx I A M MB L r) : nd r.n (I 11) r.first := h_.2.2.2.2.2.2.2.2.2.2.2.1
theorem CAbs.le {tn : Nat} {tx : Nat → Int32} {I : MI} {A : MA} {M : MI} {MB : MA} {L : ML} {r : CR} (h_ : CAbs tn tx I A M MB L r) : r.first ≠ none → I 10 = Int32.ofNat r.lead ∧ r.lead < r.n := h_.2.2.2.2.2.2.2.2.2.2.2.2.1
theorem CAbs.ta {tn : Nat} {tx : Nat → Int32} {I : MI} {A : MA} {M : MI} {MB : MA} {L : ML} {r : CR} (h_ : CAbs tn tx I A M MB L r) : I 12 = Int32.ofNat r.tail := h_.2.2.2.2.2.2.2.2.2.2.2.2.2.1
theorem CAbs.tb {tn : Nat} {tx : Nat → Int32} {I : MI} {A : MA} {M : MI} {MB : MA} {L : ML} {r : CR} (h_ : CAbs tn tx I A M MB L r) : r.tail < r.n := h_.2.2.2.2.2.2.2.2.2.2.2.2.2.2.1
theorem CAbs.of {tn : Nat} {tx : Nat → Int32} {I : MI} {A : MA} {M : MI} {MB : MA} {L : ML} {r : CR} (h_ : CAbs tn tx I A M MB L r) : ∀ u, u < r.n → r.ot u ≠ none → MB 0 u = 0 := h_.2.2.2.2.2.2.2.2.2.2.2.2.2.2.2.1
theorem CAbs.rk {tn : Nat} {tx : Nat → Int32} {I : MI} {A : MA} {M : MI} {MB : MA} {L : ML} {r : CR} (h_ : CAbs tn tx I A M MB L r) : ∀ k, k ≤ r.d → MB 0 (r.rh k) = 0 := h_.2.2.2.2.2.2.2.2.2.2.2.2.2.2.2.2

def Res {α : Type} (o : Option α) (P : α → Prop) : Prop := ∃ z, o = some z ∧ P z
theorem Res.mk {α : Type} {z : α} {P : α → Prop} (h : P z) : Res (some z) P := ⟨z, rfl, h⟩
theorem Res.imp {α : Type} {o : Option α} {P Q : α → Prop} (h : Res o P) (hi : ∀ z, P z → Q z) : Res o Q := by
  obtain ⟨z, e, p⟩ := h; exact ⟨z, e, hi z p⟩
theorem Res.bind {α β : Type} {o : Option α} {f : α → Option β} {P : α → Prop} {Q : β → Prop} (h : Res o P) (hf : ∀ z, P z → Res (f z) Q) : Res (o.bind f) Q := by
  obtain ⟨z, e, p⟩ := h; rw [e]; exact hf z p
theorem nd_upd {N k u : Nat} {f : Nat → Int32} {x : Int32} {g : Nat → Option Nat} {v : Option Nat} (h : u ≠ k → nd N (f u) (g u)) (hx : nd N x v) : nd N (upd f k x u) (sU g k v u) := by
  by_cases e : u = k
  · rw [e, upd_self, sU_self]; exact hx
  · rw [upd_ne _ _ e, sU_ne _ _ e]; exact h e
theorem lab_upd {tn : Nat} {tx : Nat → Int32} {k u : Nat} {lab : Nat → Rl} {f : Nat → Int32} {lo hi : Nat → Int64} {a : Int32} {b c : Int64} (h : u ≠ k → lab u = cLab tn tx (f u) (lo u) (hi u)) :
    sU lab k (cLab tn tx a b c) u = cLab tn tx (upd f k a u) (vp_updL lo k b u) (vp_updL hi k c u) := by
  by_cases e : u = k
  · rw [e, upd_self, sU_self, vpl_self, vpl_self]
  · rw [upd_ne _ _ e, sU_ne _ _ e, vpl_ne _ _ e, vpl_ne _ _ e]; exact h e
theorem cLab0 (tn : Nat) (tx : Nat → Int32) (lo hi : Int64) : cLab tn tx 0 lo hi = rl_id := rfl
theorem lab_upd0 {tn : Nat} {tx : Nat → Int32} {k u : Nat} {lab : Nat → Rl} {f : Nat → Int32} {lo hi : Nat → Int64} {b c : Int64} (h : u ≠ k → lab u = cLab tn tx (f u) (lo u) (hi u)) :
    sU lab k rl_id u = cLab tn tx (upd f k 0 u) (vp_updL lo k b u) (vp_updL hi k c u) := lab_upd (a := 0) h
theorem of_upd {k u N : Nat} {f : Nat → Int32} {g : Nat → Nat} {v : Nat} (h : u ≠ k → f u = Int32.ofNat (g u) ∧ g u < N) (hv : v < N) : upd f k (Int32.ofNat v) u = Int32.ofNat (sU g k v u) ∧ sU g k v u < N := by
  by_cases e : u = k
  · rw [e, upd_self, sU_self]; exact ⟨rfl, hv⟩
  · rw [upd_ne _ _ e, sU_ne _ _ e]; exact h e
theorem kz_upd {k u : Nat} {f : Nat → Int32} {g : Nat → Option Nat} {v : Option Nat} (h : u ≠ k → g u ≠ none → f u = 0) : sU g k v u ≠ none → upd f k 0 u = 0 := by
  by_cases e : u = k
  · intro _; rw [e, upd_self]
  · intro hg; rw [upd_ne _ _ e]; rw [sU_ne _ _ e] at hg; exact h e hg
theorem kz_none {k u : Nat} {f : Nat → Int32} {g : Nat → Option Nat} {a : Int32} (h : u ≠ k → g u ≠ none → f u = 0) : sU g k none u ≠ none → upd f k a u = 0 := by
  by_cases e : u = k
  · intro hg; rw [e, sU_self] at hg; exact (hg rfl).elim
  · intro hg; rw [upd_ne _ _ e]; rw [sU_ne _ _ e] at hg; exact h e hg
/-- what a reader's step leaves: the graph, and its place and its fault as they were -/
def CStep (tn : Nat) (tx : Nat → Int32) (I : MI) (r : CR) (z : Int32 × MI × MA × MI × MA × ML) : Prop := CAbs tn tx z.2.1 z.2.2.1 z.2.2.2.1 z.2.2.2.2.1 z.2.2.2.2.2 r ∧ z.2.1 6 = I 6 ∧ z.2.1 7 = I 7 ∧ z.2.1 9 = I 9
/-- a node is added as a part -/
theorem CAbs.single {tn : Nat} {tx : Nat → Int32} {I : MI} {A : MA} {M : MI} {MB : MA} {L : ML} {r : CR} (h : CAbs tn tx I A M MB L r) (hn : r.n < 50) (k : Int32) (lo hi : Int64) {I' : MI} {M' : MI} {MB' : MA} {L' : ML}
    (hI : I' = upd (upd (upd I 10 (Int32.ofNat r.tail)) 11 (Int32.ofNat r.n)) 12 (Int32.ofNat r.n)) (hM : M' = upd M 5 (Int32.ofNat (r.n + 1)))
    (hMB : MB' = va_up (va_up (va_up (va_up MB 0 (upd (MB 0) r.n k)) 1 (upd (MB 1) r.n (-1))) 2 (upd (MB 2) r.n (-1))) 1 (upd (upd (MB 1) r.n (-1)) r.tail (Int32.ofNat r.n)))
    (hL3 : L' 3 = vp_updL (L 3) r.n lo) (hL4 : L' 4 = vp_updL (L 4) r.n hi) : CAbs tn tx I' A M' MB' L' (c_single r (cLab tn tx k lo hi)) := by
  have m0 : MB' 0 = upd (MB 0) r.n k := by rw [hMB, va_up_ne _ _ (by decide), va_up_ne _ _ (by decide), va_up_ne _ _ (by decide), va_up_self]
  have m1 : MB' 1 = upd (upd (MB 1) r.n (-1)) r.tail (Int32.ofNat r.n) := by rw [hMB, va_up_self]
  have m2 : MB' 2 = upd (MB 2) r.n (-1) := by rw [hMB, va_up_ne _ _ (by decide), va_up_self]
  have htb := h.tb
  have hlt : ∀ u, u < (c_single r (cLab tn tx k lo hi)).n → u ≠ r.n → u < r.n := fun u hu e => by have : u < r.n + 1 := hu; omega
  refine ⟨?_, hn, fun u hu => ?_, fun u hu => ?_, fun u hu => ?_, ?_, h.db, ?_, ?_, ?_, ?_, ?_, ?_, ?_, ?_, fun u hu => ?_, fun k' hk' => ?_⟩
  · rw [hM, upd_self]; rfl
  · rw [m1]; exact nd_upd (fun _ => nd_upd (fun e => (h.nx u (hlt u hu e)).mono (Nat.le_succ _)) rfl) ⟨Nat.lt_succ_self _, rfl⟩
  · rw [m2]; exact nd_upd (fun e => (h.ot u (hlt u hu e)).mono (Nat.le_succ _)) rfl
  · rw [m0, hL3, hL4]; exact lab_upd (fun e => h.lab u (hlt u hu e))
  · rw [hI, upd_ne _ _ (by decide), upd_ne _ _ (by decide), upd_ne _ _ (by decide)]; exact h.d
  · intro k hk; exact ⟨(h.cs k hk).1, Nat.lt_succ_of_lt (h.cs k hk).2⟩
  · intro k hk; exact ⟨(h.ce k hk).1, Nat.lt_succ_of_lt (h.ce k hk).2⟩
  · intro k hk; exact ⟨(h.rh k hk).1, Nat.lt_succ_of_lt (h.rh k hk).2⟩
  · intro k hk hk'; exact ⟨(h.ou k hk hk').1, Nat.lt_succ_of_lt (h.ou k hk hk').2⟩
  · show nd (r.n + 1) _ (some r.n)
    rw [hI, upd_ne _ _ (by decide), upd_self]; exact ⟨by omega, rfl⟩
  · intro _
    rw [hI, upd_ne _ _ (by decide), upd_ne _ _ (by decide), upd_self]
    exact ⟨rfl, by show r.tail < r.n + 1; omega⟩
  · rw [hI, upd_self]; rfl
  · show r.n < r.n + 1; omega
  · rw [m0]; exact kz_none (fun e => h.of u (hlt u hu e))
  · rw [m0, upd_ne _ _ (by have := (h.rh k' hk').2; show r.rh k' ≠ r.n; omega)]; exact h.rk k' hk'
theorem pn_i50 {n : Nat} (h : n < 50) : wk_inb (Int32.ofNat n) 50 = true := (pn_inb (by omega)).mpr h
theorem pn_i9 {n : Nat} (h : n ≤ 8) : wk_inb (Int32.ofNat n) 9 = true := (pn_inb (by omega)).mpr (by omega)
theorem CAbs.loop {tn : Nat} {tx : Nat → Int32} {sx : Nat → Int32} {I : MI} {A : MA} {M : MI} {MB : MA} {L : ML} {r : CR} (h : CAbs tn tx I A M MB L r) (hn : r.n < 50) {f : Nat} (hf : r.first = some f) (k : Int32) (hk : k ≠ 63) :
    Res (f_P_repeatPart sx I A M MB L k) (CStep tn tx I (c_loop r f (decide (k ≠ 43)))) := by
  have hfi := h.fi
  rw [hf] at hfi
  obtain ⟨hfn, hfi⟩ := hfi
  obtain ⟨hle, hlb⟩ := h.le (by rw [hf]; exact fun e => by cases e)
  have htb := h.tb
  have hff : ¬ Int32.ofNat f = -1 := pn_ne1 (by omega)
  have hl' : upd I 12 (Int32.ofNat r.n) 10 = Int32.ofNat r.lead := by rw [upd_ne _ _ (by decide), hle]
  have x1 : upd (upd (upd (fun _ => (0 : Int32)) 1 k) 2 (Int32.ofNat r.n)) 3 (Int32.ofNat r.n) 1 = k := by rw [upd_ne _ _ (by decide), upd_ne _ _ (by decide), upd_self]
  have x2 : upd (upd (upd (fun _ => (0 : Int32)) 1 k) 2 (Int32.ofNat r.n)) 3 (Int32.ofNat r.n) 2 = Int32.ofNat r.n := by rw [upd_ne _ _ (by decide), upd_self]
  have x3 : upd (upd (upd (fun _ => (0 : Int32)) 1 k) 2 (Int32.ofNat r.n)) 3 (Int32.ofNat r.n) 3 = Int32.ofNat r.n := by rw [upd_self]
  have n1 : (Int32.ofNat r.n).toNatClampNeg = r.n := pn_nat (by omega)
  have n2 : (Int32.ofNat r.tail).toNatClampNeg = r.tail := pn_nat (by omega)
  have n3 : (Int32.ofNat r.lead).toNatClampNeg = r.lead := pn_nat (by omega)
  by_cases e : k = 43
  · simp only [f_P_repeatPart, hfi, if_neg hff, A_addNode 0 h.n hn, Option.bind_some, pn_i50 hn, if_true, wk_let, if_neg hk, f_P_repeatPart_66, f_P_repeatPart_108, h.ta, pn_i50 (show r.tail < 50 by omega), x1, x2, x3, if_pos e, n1, n2]
    have hd : decide (k ≠ 43) = false := by simp [e]
    rw [hd]
    have hlt : ∀ u, u < (c_loop r f false).n → u ≠ r.n → u < r.n := fun u hu e => by have : u < r.n + 1 := hu; omega
    refine Res.mk ⟨⟨?_, hn, fun u hu => ?_, fun u hu => ?_, fun u hu => ?_, ?_, h.db, ?_, ?_, ?_, ?_, ?_, ?_, ?_, ?_, fun u hu => ?_, fun k' hk' => ?_⟩, ?_, ?_, ?_⟩
    · simp only [upd_self]; rfl
    · simp only [va_up, if_true, if_false, Nat.reduceEqDiff]; exact nd_upd (fun _ => nd_upd (fun e => (h.nx u (hlt u hu e)).mono (Nat.le_succ _)) rfl) ⟨Nat.lt_succ_self _, rfl⟩
    · simp only [va_up, if_true, if_false, Nat.reduceEqDiff]
      show nd _ _ (sU r.ot r.n (some f) u)
      exact nd_upd (fun e => by rw [upd_ne _ _ e]; exact (h.ot u (hlt u hu e)).mono (Nat.le_succ _)) ⟨Nat.lt_succ_of_lt hfn, rfl⟩
    · simp only [va_up, if_true, if_false, Nat.reduceEqDiff]; exact lab_upd0 (fun e => h.lab u (hlt u hu e))
    · simp only [upd, if_true, if_false, Nat.reduceEqDiff]; exact h.d
    · intro k hk; exact ⟨(h.cs k hk).1, Nat.lt_succ_of_lt (h.cs k hk).2⟩
    · intro k hk; exact ⟨(h.ce k hk).1, Nat.lt_succ_of_lt (h.ce k hk).2⟩
    · intro k hk; exact ⟨(h.rh k hk).1, Nat.lt_succ_of_lt (h.rh k hk).2⟩
    · intro k hk hk'; exact ⟨(h.ou k hk hk').1, Nat.lt_succ_of_lt (h.ou k hk hk').2⟩
    · simp only [upd, if_true, if_false, Nat.reduceEqDiff]; exact ⟨Nat.lt_succ_of_lt hfn, hfi⟩
    · intro _; simp only [upd, if_true, if_false, Nat.reduceEqDiff]; exact ⟨hle, Nat.lt_succ_of_lt hlb⟩
    · simp only [upd_self]; rfl
    · exact Nat.lt_succ_self _
    · simp only [va_up, if_true, if_false, Nat.reduceEqDiff]; exact kz_upd (fun e => h.of u (hlt u hu e))
    · simp only [va_up, if_true, if_false, Nat.reduceEqDiff]; rw [upd_ne _ _ (by have := (h.rh k' hk').2; show r.rh k' ≠ r.n; omega)]; exact h.rk k' hk'
    · simp only [upd, if_true, if_false, Nat.reduceEqDiff]
    · simp only [upd, if_true, if_false, Nat.reduceEqDiff]
    · simp only [upd, if_true, if_false, Nat.reduceEqDiff]
  · simp only [f_P_repeatPart, hfi, if_neg hff, A_addNode 0 h.n hn, Option.bind_some, pn_i50 hn, if_true, wk_let, if_neg hk, f_P_repeatPart_66, f_P_repeatPart_108, h.ta, pn_i50 (show r.tail < 50 by omega), x1, x2, x3, if_neg e, hl', pn_i50 (show r.lead < 50 by omega), n1, n2, n3]
    have hd : decide (k ≠ 43) = true := by simp [e]
    rw [hd]
    have hlt : ∀ u, u < (c_loop r f true).n → u ≠ r.n → u < r.n := fun u hu e => by have : u < r.n + 1 := hu; omega
    refine Res.mk ⟨⟨?_, hn, fun u hu => ?_, fun u hu => ?_, fun u hu => ?_, ?_, h.db, ?_, ?_, ?_, ?_, ?_, ?_, ?_, ?_, fun u hu => ?_, fun k' hk' => ?_⟩, ?_, ?_, ?_⟩
    · simp only [upd_self]; rfl
    · simp only [va_up, if_true, if_false, Nat.reduceEqDiff]; exact nd_upd (fun _ => nd_upd (fun _ => nd_upd (fun e => (h.nx u (hlt u hu e)).mono (Nat.le_succ _)) rfl) ⟨Nat.lt_succ_self _, rfl⟩) ⟨Nat.lt_succ_self _, rfl⟩
    · simp only [va_up, if_true, if_false, Nat.reduceEqDiff]
      show nd _ _ (sU r.ot r.n (some f) u)
      exact nd_upd (fun e => by rw [upd_ne _ _ e]; exact (h.ot u (hlt u hu e)).mono (Nat.le_succ _)) ⟨Nat.lt_succ_of_lt hfn, rfl⟩
    · simp only [va_up, if_true, if_false, Nat.reduceEqDiff]; exact lab_upd0 (fun e => h.lab u (hlt u hu e))
    · simp only [upd, if_true, if_false, Nat.reduceEqDiff]; exact h.d
    · intro k hk; exact ⟨(h.cs k hk).1, Nat.lt_succ_of_lt (h.cs k hk).2⟩
    · intro k hk; exact ⟨(h.ce k hk).1, Nat.lt_succ_of_lt (h.ce k hk).2⟩
    · intro k hk; exact ⟨(h.rh k hk).1, Nat.lt_succ_of_lt (h.rh k hk).2⟩
    · intro k hk hk'; exact ⟨(h.ou k hk hk').1, Nat.lt_succ_of_lt (h.ou k hk hk').2⟩
    · simp only [upd, if_true, if_false, Nat.reduceEqDiff]; exact ⟨Nat.lt_succ_self _, rfl⟩
    · intro _; simp only [upd, if_true, if_false, Nat.reduceEqDiff]; exact ⟨hle, Nat.lt_succ_of_lt hlb⟩
    · simp only [upd, if_true, if_false, Nat.reduceEqDiff]; rfl
    · exact Nat.lt_succ_self _
    · simp only [va_up, if_true, if_false, Nat.reduceEqDiff]; exact kz_upd (fun e => h.of u (hlt u hu e))
    · simp only [va_up, if_true, if_false, Nat.reduceEqDiff]; rw [upd_ne _ _ (by have := (h.rh k' hk').2; show r.rh k' ≠ r.n; omega)]; exact h.rk k' hk'
    · simp only [upd, if_true, if_false, Nat.reduceEqDiff]
    · simp only [upd, if_true, if_false, Nat.reduceEqDiff]
    · simp only [upd, if_true, if_false, Nat.reduceEqDiff]
/-- '?' -/
theorem CAbs.opt {tn : Nat} {tx : Nat → Int32} {sx : Nat → Int32} {I : MI} {A : MA} {M : MI} {MB : MA} {L : ML} {r : CR} (h : CAbs tn tx I A M MB L r) (hn : r.n + 1 < 50) {f : Nat} (hf : r.first = some f) :
    Res (f_P_repeatPart sx I A M MB L 63) (CStep tn tx I (c_opt r f)) := by
  have hfi := h.fi
  rw [hf] at hfi
  obtain ⟨hfn, hfi⟩ := hfi
  obtain ⟨hle, hlb⟩ := h.le (by rw [hf]; exact fun e => by cases e)
  have htb := h.tb
  have hff : ¬ Int32.ofNat f = -1 := pn_ne1 (by omega)
  have hl' : upd I 12 (Int32.ofNat (r.n + 1)) 10 = Int32.ofNat r.lead := by rw [upd_ne _ _ (by decide), hle]
  have x1 : upd (upd (upd (fun _ => (0 : Int32)) 1 63) 2 (Int32.ofNat r.n)) 3 (Int32.ofNat (r.n + 1)) 1 = 63 := by rw [upd_ne _ _ (by decide), upd_ne _ _ (by decide), upd_self]
  have x2 : upd (upd (upd (fun _ => (0 : Int32)) 1 63) 2 (Int32.ofNat r.n)) 3 (Int32.ofNat (r.n + 1)) 2 = Int32.ofNat r.n := by rw [upd_ne _ _ (by decide), upd_self]
  have x3 : upd (upd (upd (fun _ => (0 : Int32)) 1 63) 2 (Int32.ofNat r.n)) 3 (Int32.ofNat (r.n + 1)) 3 = Int32.ofNat (r.n + 1) := by rw [upd_self]
  have n1 : (Int32.ofNat r.n).toNatClampNeg = r.n := pn_nat (by omega)
  have n2 : (Int32.ofNat r.tail).toNatClampNeg = r.tail := pn_nat (by omega)
  have n3 : (Int32.ofNat r.lead).toNatClampNeg = r.lead := pn_nat (by omega)
  have hM1 : upd M 5 (Int32.ofNat (r.n + 1)) 5 = Int32.ofNat (r.n + 1) := upd_self _ _ _
  have h43 : ¬ (63 : Int32) = 43 := by decide
  simp only [f_P_repeatPart, hfi, if_neg hff, A_addNode 0 h.n (show r.n < 50 by omega), A_addNode 0 hM1 hn, Option.bind_some, pn_i50 (show r.n < 50 by omega), if_true, wk_let, f_P_repeatPart_66, f_P_repeatPart_108, h.ta, pn_i50 (show r.tail < 50 by omega), x1, x2, x3, if_neg h43, hl', pn_i50 (show r.lead < 50 by omega), n1, n2, n3]
  have hlt : ∀ u, u < (c_opt r f).n → u ≠ r.n → u ≠ r.n + 1 → u < r.n := fun u hu e e' => by have : u < r.n + 2 := hu; omega
  have hm : r.n ≤ (c_opt r f).n := by show r.n ≤ r.n + 2; omega
  have hm1 : r.n < (c_opt r f).n := by show r.n < r.n + 2; omega
  have hm2 : r.n + 1 < (c_opt r f).n := by show r.n + 1 < r.n + 2; omega
  refine Res.mk ⟨⟨?_, hn, fun u hu => ?_, fun u hu => ?_, fun u hu => ?_, ?_, h.db, ?_, ?_, ?_, ?_, ?_, ?_, ?_, ?_, fun u hu => ?_, fun k' hk' => ?_⟩, ?_, ?_, ?_⟩
  · simp only [upd_self]; rfl
  · simp only [va_up, if_true, if_false, Nat.reduceEqDiff]
    exact nd_upd (fun _ => nd_upd (fun _ => nd_upd (fun _ => nd_upd (fun e1 => nd_upd (fun e => (h.nx u (hlt u hu e e1)).mono hm) rfl) rfl) ⟨hm2, rfl⟩) ⟨hm2, rfl⟩) ⟨hm1, rfl⟩
  · simp only [va_up, if_true, if_false, Nat.reduceEqDiff]
    exact nd_upd (fun e1 => nd_upd (fun e => by rw [upd_ne _ _ e]; exact (h.ot u (hlt u hu e e1)).mono hm) ⟨Nat.lt_of_lt_of_le hfn hm, rfl⟩) rfl
  · simp only [va_up, if_true, if_false, Nat.reduceEqDiff]
    exact lab_upd0 (fun e1 => lab_upd0 (fun e => h.lab u (hlt u hu e e1)))
  · simp only [upd, if_true, if_false, Nat.reduceEqDiff]; exact h.d
  · intro k hk; exact ⟨(h.cs k hk).1, Nat.lt_of_lt_of_le (h.cs k hk).2 hm⟩
  · intro k hk; exact ⟨(h.ce k hk).1, Nat.lt_of_lt_of_le (h.ce k hk).2 hm⟩
  · intro k hk; exact ⟨(h.rh k hk).1, Nat.lt_of_lt_of_le (h.rh k hk).2 hm⟩
  · intro k hk hk'; exact ⟨(h.ou k hk hk').1, Nat.lt_of_lt_of_le (h.ou k hk hk').2 hm⟩
  · simp only [upd, if_true, if_false, Nat.reduceEqDiff]; exact ⟨hm1, rfl⟩
  · intro _; simp only [upd, if_true, if_false, Nat.reduceEqDiff]; exact ⟨hle, Nat.lt_of_lt_of_le hlb hm⟩
  · simp only [upd, if_true, if_false, Nat.reduceEqDiff]; rfl
  · exact hm2
  · simp only [va_up, if_true, if_false, Nat.reduceEqDiff]; exact kz_upd (fun e1 => kz_upd (fun e => h.of u (hlt u hu e e1)))
  · simp only [va_up, if_true, if_false, Nat.reduceEqDiff]
    have := (h.rh k' hk').2
    rw [upd_ne _ _ (show (c_opt r f).rh k' ≠ r.n + 1 by show r.rh k' ≠ r.n + 1; omega), upd_ne _ _ (show (c_opt r f).rh k' ≠ r.n by show r.rh k' ≠ r.n; omega)]; exact h.rk k' hk'
  · simp only [upd, if_true, if_false, Nat.reduceEqDiff]
  · simp only [upd, if_true, if_false, Nat.reduceEqDiff]
  · simp only [upd, if_true, if_false, Nat.reduceEqDiff]
theorem A_beginRow {sx : Nat → Int32} {I : MI} {A : MA} {M : MI} {MB : MA} {L : ML} {d : Nat} (k : Int32) (hd : I 8 = Int32.ofNat d) (h : d ≤ 8) :
    f_P_beginRow sx I A M MB L k = some (0, upd (upd (upd I 10 (-1)) 11 (-1)) 12 k, va_up A 2 (upd (A 2) d k), M, MB, L) := by
  simp only [f_P_beginRow, wk_let, hd, pn_i9 h, if_true, pn_nat (show d < 2147483648 by omega)]
/-- a choice is begun at a depth -/
theorem A_openChoice {sx : Nat → Int32} {I : MI} {A : MA} {M : MI} {MB : MA} {L : ML} {d n : Nat} (k : Int32) (hd : I 8 = Int32.ofNat d) (h : d ≤ 8) (hn : M 5 = Int32.ofNat n) (h' : n + 1 < 50) :
    Res (f_P_openChoice sx I A M MB L k) (fun z => z.2.1 = upd (upd (upd I 10 (-1)) 11 (-1)) 12 (Int32.ofNat n) ∧ z.2.2.1 0 = upd (A 0) d (Int32.ofNat n) ∧ z.2.2.1 1 = upd (A 1) d (Int32.ofNat (n + 1)) ∧ z.2.2.1 2 = upd (A 2) d (Int32.ofNat n) ∧ z.2.2.1 3 = upd (A 3) d k ∧
      z.2.2.2.1 5 = Int32.ofNat (n + 2) ∧ z.2.2.2.2.1 0 = upd (upd (MB 0) n 0) (n + 1) 0 ∧ z.2.2.2.2.1 1 = upd (upd (MB 1) n (-1)) (n + 1) (-1) ∧ z.2.2.2.2.1 2 = upd (upd (MB 2) n (-1)) (n + 1) (-1) ∧ z.2.2.2.2.2 3 = vp_updL (vp_updL (L 3) n 0) (n + 1) 0 ∧ z.2.2.2.2.2 4 = vp_updL (vp_updL (L 4) n 0) (n + 1) 0) := by
  have hM1 : upd M 5 (Int32.ofNat (n + 1)) 5 = Int32.ofNat (n + 1) := upd_self _ _ _
  simp only [f_P_openChoice, A_addNode 0 hn (show n < 50 by omega), A_addNode 0 hM1 h', Option.bind_some, hd, pn_i9 h, if_true, wk_let, A_beginRow _ hd h, pn_nat (show d < 2147483648 by omega)]
  refine Res.mk ⟨rfl, ?_, ?_, ?_, ?_, ?_, ?_, ?_, ?_, ?_, ?_⟩
  all_goals simp only [va_up, upd_self, if_true, if_false, Nat.reduceEqDiff]
theorem CAbs.openG {tn : Nat} {tx : Nat → Int32} {sx : Nat → Int32} {I : MI} {A : MA} {M : MI} {MB : MA} {L : ML} {r : CR} (h : CAbs tn tx I A M MB L r) (hn : r.n + 1 < 50) (hd : r.d < 8) :
    Res (f_P_openGroup sx I A M MB L) (CStep tn tx I (c_open r)) := by
  have hd8 : ¬ Int32.ofNat r.d = 8 := fun e => by have := (pn_eq (a := r.d) (b := 8) (by omega) (by omega)).mp e; omega
  have htb := h.tb
  have e8 : upd I 8 (Int32.ofNat (r.d + 1)) 8 = Int32.ofNat (r.d + 1) := upd_self _ _ _
  have e12 : upd I 8 (Int32.ofNat (r.d + 1)) 12 = Int32.ofNat r.tail := by rw [upd_ne _ _ (by decide)]; exact h.ta
  have hC := A_openChoice (sx := sx) (A := A) (M := M) (MB := MB) (L := L) (Int32.ofNat r.tail) e8 (show r.d + 1 ≤ 8 by omega) h.n hn
  simp only [f_P_openGroup, h.d, if_neg hd8, wk_let, pn_succ, e12]
  obtain ⟨⟨z0, I', A', M', MB', L'⟩, he, hI, h0, h1, h2, h3, hM, m0, m1, m2, l3, l4⟩ := hC
  simp only at hI h0 h1 h2 h3 hM m0 m1 m2 l3 l4
  rw [he]
  simp only [Option.bind_some]
  have hlt : ∀ u, u < (c_open r).n → u ≠ r.n → u ≠ r.n + 1 → u < r.n := fun u hu e e' => by have : u < r.n + 2 := hu; omega
  have hm : r.n ≤ (c_open r).n := by show r.n ≤ r.n + 2; omega
  have hm1 : r.n < (c_open r).n := by show r.n < r.n + 2; omega
  have hm2 : r.n + 1 < (c_open r).n := by show r.n + 1 < r.n + 2; omega
  have hk : ∀ k, k ≤ (c_open r).d → k ≠ r.d + 1 → k ≤ r.d := fun k hk e => by have : k ≤ r.d + 1 := hk; omega
  refine Res.mk ⟨⟨hM, hn, fun u hu => ?_, fun u hu => ?_, fun u hu => ?_, ?_, hd, fun k hk' => ?_, fun k hk' => ?_, fun k hk' => ?_, fun k hk0 hk' => ?_, ?_, ?_, ?_, ?_, fun u hu => ?_, fun k hk' => ?_⟩, ?_, ?_, ?_⟩
  · simp only [m1]; exact nd_upd (fun e1 => nd_upd (fun e => (h.nx u (hlt u hu e e1)).mono hm) rfl) rfl
  · simp only [m2]; exact nd_upd (fun e1 => nd_upd (fun e => (h.ot u (hlt u hu e e1)).mono hm) rfl) rfl
  · simp only [m0, l3, l4]; exact lab_upd0 (fun e1 => lab_upd0 (fun e => h.lab u (hlt u hu e e1)))
  · simp only [hI, upd, if_true, if_false, Nat.reduceEqDiff]; rfl
  · simp only [h0]; exact of_upd (fun e => ⟨(h.cs k (hk k hk' e)).1, Nat.lt_of_lt_of_le (h.cs k (hk k hk' e)).2 hm⟩) hm1
  · simp only [h1]; exact of_upd (fun e => ⟨(h.ce k (hk k hk' e)).1, Nat.lt_of_lt_of_le (h.ce k (hk k hk' e)).2 hm⟩) hm2
  · simp only [h2]; exact of_upd (fun e => ⟨(h.rh k (hk k hk' e)).1, Nat.lt_of_lt_of_le (h.rh k (hk k hk' e)).2 hm⟩) hm1
  · simp only [h3]; exact of_upd (fun e => ⟨(h.ou k hk0 (hk k hk' e)).1, Nat.lt_of_lt_of_le (h.ou k hk0 (hk k hk' e)).2 hm⟩) (Nat.lt_of_lt_of_le htb hm)
  · simp only [hI, upd, if_true, if_false, Nat.reduceEqDiff]; rfl
  · intro q; exact (q rfl).elim
  · simp only [hI, upd, if_true, if_false, Nat.reduceEqDiff]; rfl
  · exact hm1
  · simp only [m0]; exact kz_upd (fun e1 => kz_upd (fun e => h.of u (hlt u hu e e1)))
  · simp only [m0]
    by_cases e : k = r.d + 1
    · have e2 : (c_open r).rh k = r.n := by show sU _ _ _ _ = _; rw [e, sU_self]
      rw [e2, upd_ne _ _ (by omega), upd_self]
    · have e2 : (c_open r).rh k = r.rh k := sU_ne _ _ e
      have := (h.rh k (hk k hk' e)).2
      rw [e2, upd_ne _ _ (by omega), upd_ne _ _ (by omega)]; exact h.rk k (hk k hk' e)
  · simp only [hI, upd, if_true, if_false, Nat.reduceEqDiff]
  · simp only [hI, upd, if_true, if_false, Nat.reduceEqDiff]
  · simp only [hI, upd, if_true, if_false, Nat.reduceEqDiff]
/-- '|' -/
theorem CAbs.bar {tn : Nat} {tx : Nat → Int32} {sx : Nat → Int32} {I : MI} {A : MA} {M : MI} {MB : MA} {L : ML} {r : CR} (h : CAbs tn tx I A M MB L r) (hn : r.n < 50) :
    Res (f_P_openRow sx I A M MB L) (CStep tn tx I (c_bar r)) := by
  have htb := h.tb
  obtain ⟨ec, hc⟩ := h.ce r.d (Nat.le_refl _)
  obtain ⟨eh, hh⟩ := h.rh r.d (Nat.le_refl _)
  have hdb := h.db
  have n1 : (Int32.ofNat r.d).toNatClampNeg = r.d := pn_nat (by omega)
  have n2 : (Int32.ofNat r.tail).toNatClampNeg = r.tail := pn_nat (by omega)
  have n3 : (Int32.ofNat (r.rh r.d)).toNatClampNeg = r.rh r.d := pn_nat (by omega)
  simp only [f_P_openRow, h.d, pn_i9 h.db, if_true, h.ta, pn_i50 (show r.tail < 50 by omega), wk_let, n1, n2, ec, A_addNode 0 h.n hn, Option.bind_some, eh, pn_i50 (show r.rh r.d < 50 by omega), n3, A_beginRow _ h.d h.db]
  have hlt : ∀ u, u < (c_bar r).n → u ≠ r.n → u < r.n := fun u hu e => by have : u < r.n + 1 := hu; omega
  have hm : r.n ≤ (c_bar r).n := by show r.n ≤ r.n + 1; omega
  have hm1 : r.n < (c_bar r).n := by show r.n < r.n + 1; omega
  refine Res.mk ⟨⟨?_, hn, fun u hu => ?_, fun u hu => ?_, fun u hu => ?_, ?_, h.db, ?_, ?_, fun k hk => ?_, ?_, ?_, ?_, ?_, ?_, fun u hu hne => ?_, fun k hk => ?_⟩, ?_, ?_, ?_⟩
  · simp only [upd_self]; rfl
  · simp only [va_up, if_true, if_false, Nat.reduceEqDiff]
    exact nd_upd (fun e => nd_upd (fun _ => (h.nx u (hlt u hu e)).mono hm) ⟨Nat.lt_of_lt_of_le hc hm, rfl⟩) rfl
  · simp only [va_up, if_true, if_false, Nat.reduceEqDiff]
    exact nd_upd (fun _ => nd_upd (fun e => (h.ot u (hlt u hu e)).mono hm) rfl) ⟨hm1, rfl⟩
  · simp only [va_up, if_true, if_false, Nat.reduceEqDiff]
    exact lab_upd0 (fun e => h.lab u (hlt u hu e))
  · simp only [upd, if_true, if_false, Nat.reduceEqDiff]; exact h.d
  · intro k hk; simp only [va_up, if_true, if_false, Nat.reduceEqDiff]; exact ⟨(h.cs k hk).1, Nat.lt_of_lt_of_le (h.cs k hk).2 hm⟩
  · intro k hk; simp only [va_up, if_true, if_false, Nat.reduceEqDiff]; exact ⟨(h.ce k hk).1, Nat.lt_of_lt_of_le (h.ce k hk).2 hm⟩
  · simp only [va_up, if_true, if_false, Nat.reduceEqDiff]
    exact of_upd (fun e => ⟨(h.rh k hk).1, Nat.lt_of_lt_of_le (h.rh k hk).2 hm⟩) hm1
  · intro k hk hk'; simp only [va_up, if_true, if_false, Nat.reduceEqDiff]; exact ⟨(h.ou k hk hk').1, Nat.lt_of_lt_of_le (h.ou k hk hk').2 hm⟩
  · simp only [upd, if_true, if_false, Nat.reduceEqDiff]; rfl
  · intro q; exact (q rfl).elim
  · simp only [upd, if_true, if_false, Nat.reduceEqDiff]; rfl
  · exact hm1
  · simp only [va_up, if_true, if_false, Nat.reduceEqDiff]
    by_cases e : u = r.n
    · rw [e, upd_self]
    · rw [upd_ne _ _ e]
      by_cases e2 : u = r.rh r.d
      · rw [e2]; exact h.rk _ (Nat.le_refl _)
      · have hne' : sU (sU r.ot r.n none) (r.rh r.d) (some r.n) u ≠ none := hne
        rw [sU_ne _ _ e2, sU_ne _ _ e] at hne'
        exact h.of u (hlt u hu e) hne'
  · simp only [va_up, if_true, if_false, Nat.reduceEqDiff]
    by_cases e : k = r.d
    · have e2 : (c_bar r).rh k = r.n := by show sU _ _ _ _ = _; rw [e, sU_self]
      rw [e2, upd_self]
    · have e2 : (c_bar r).rh k = r.rh k := sU_ne _ _ e
      have := (h.rh k hk).2
      rw [e2, upd_ne _ _ (by omega)]; exact h.rk k hk
  · simp only [upd, if_true, if_false, Nat.reduceEqDiff]
  · simp only [upd, if_true, if_false, Nat.reduceEqDiff]
  · simp only [upd, if_true, if_false, Nat.reduceEqDiff]
/-- ')' -/
theorem CAbs.closeG {tn : Nat} {tx : Nat → Int32} {sx : Nat → Int32} {I : MI} {A : MA} {M : MI} {MB : MA} {L : ML} {r : CR} (h : CAbs tn tx I A M MB L r) (hd : 0 < r.d) :
    Res (f_P_closeGroup sx I A M MB L) (CStep tn tx I (c_close r)) := by
  have htb := h.tb
  have hnb := h.nb
  have hdb := h.db
  obtain ⟨es, hs⟩ := h.cs r.d (Nat.le_refl _)
  obtain ⟨ec, hc⟩ := h.ce r.d (Nat.le_refl _)
  obtain ⟨eo, ho⟩ := h.ou r.d hd (Nat.le_refl _)
  have hd0 : ¬ Int32.ofNat r.d = 0 := fun e => by have := (pn_eq (a := r.d) (b := 0) (by omega) (by omega)).mp e; omega
  have n1 : (Int32.ofNat r.d).toNatClampNeg = r.d := pn_nat (by omega)
  have n2 : (Int32.ofNat r.tail).toNatClampNeg = r.tail := pn_nat (by omega)
  have hp : Int32.ofNat r.d - 1 = Int32.ofNat (r.d - 1) := pn_sub (a := r.d) (b := 1) hd
  have e8 : upd I 12 (Int32.ofNat (r.ou r.d)) 8 = Int32.ofNat r.d := by rw [upd_ne _ _ (by decide)]; exact h.d
  have e12 : upd (upd I 12 (Int32.ofNat (r.ou r.d))) 8 (Int32.ofNat (r.d - 1)) 12 = Int32.ofNat (r.ou r.d) := by rw [upd_ne _ _ (by decide), upd_self]
  simp only [f_P_closeGroup, h.d, if_neg hd0, pn_i9 h.db, if_true, h.ta, pn_i50 (show r.tail < 50 by omega), wk_let, n1, n2, es, ec, eo, e8, hp, A_addPart _ _ e12 (show r.ou r.d < 50 by omega), Option.bind_some]
  have hk : ∀ k, k ≤ (c_close r).d → k ≤ r.d := fun k hk => by have : k ≤ r.d - 1 := hk; omega
  refine Res.mk ⟨⟨h.n, h.nb, fun u hu => ?_, fun u hu => ?_, fun u hu => ?_, ?_, by show r.d - 1 ≤ 8; omega, fun k hk' => h.cs k (hk k hk'), fun k hk' => h.ce k (hk k hk'), fun k hk' => h.rh k (hk k hk'), fun k hk0 hk' => h.ou k hk0 (hk k hk'), ?_, fun _ => ?_, ?_, hc, fun u hu => ?_, fun k hk' => ?_⟩, ?_, ?_, ?_⟩
  · simp only [va_up, if_true, if_false, Nat.reduceEqDiff]
    exact nd_upd (fun _ => nd_upd (fun _ => h.nx u hu) ⟨hc, rfl⟩) ⟨hs, rfl⟩
  · simp only [va_up, if_true, if_false, Nat.reduceEqDiff]; exact h.ot u hu
  · simp only [va_up, if_true, if_false, Nat.reduceEqDiff]; exact h.lab u hu
  · simp only [upd, if_true, if_false, Nat.reduceEqDiff]; rfl
  · simp only [upd, if_true, if_false, Nat.reduceEqDiff]; exact ⟨hs, rfl⟩
  · simp only [upd, if_true, if_false, Nat.reduceEqDiff]; exact ⟨rfl, ho⟩
  · simp only [upd, if_true, if_false, Nat.reduceEqDiff]; rfl
  · simp only [va_up, if_true, if_false, Nat.reduceEqDiff]; exact h.of u hu
  · simp only [va_up, if_true, if_false, Nat.reduceEqDiff]; exact h.rk k (hk k hk')
  · simp only [upd, if_true, if_false, Nat.reduceEqDiff]
  · simp only [upd, if_true, if_false, Nat.reduceEqDiff]
  · simp only [upd, if_true, if_false, Nat.reduceEqDiff]
-- 36.spec
theorem lb_or (x y : Int64) (k : Nat) : lb (x ||| y) k = (lb x k || lb y k) := by simp [lb]
theorem lb_and (x y : Int64) (k : Nat) : lb (x &&& y) k = (lb x k && lb y k) := by simp [lb]
theorem lb_big (x : Int64) {k : Nat} (h : 64 ≤ k) : lb x k = false := BitVec.getLsbD_of_ge _ _ h
theorem lb_not (x : Int64) {k : Nat} (h : k < 64) : lb (x ^^^ (-1)) k = !lb x k := by
  have h1 : lb (-1) k = true := by
    have : ∀ k : Fin 64, lb (-1) k.val = true := by decide +kernel
    exact this ⟨k, h⟩
  have h2 : lb (x ^^^ (-1)) k = (lb x k ^^ lb (-1) k) := by
    unfold lb; rw [Int64.toBitVec_xor, BitVec.getLsbD_xor]
  rw [h2, h1]; cases lb x k <;> rfl
theorem lb_zero (k : Nat) : lb 0 k = false := by simp [lb]
theorem lb_one {c : Nat} (h : c < 64) (k : Nat) : lb ((1 : Int64) <<< ((Int32.ofNat c).toInt64 &&& 63)) k = decide (k = c) := by
  by_cases hk : k < 64
  · have : ∀ (c k : Fin 64), lb ((1 : Int64) <<< ((Int32.ofNat c.val).toInt64 &&& 63)) k.val = decide (k.val = c.val) := by decide +kernel
    exact this ⟨c, h⟩ ⟨k, hk⟩
  · rw [lb_big _ (by omega)]; simp; omega
theorem lb_ext {x y : Int64} (h : ∀ k, k < 64 → lb x k = lb y k) : x = y := by
  apply Int64.toBitVec_inj.mp
  apply BitVec.eq_of_getLsbD_eq
  intro i hi
  exact h i hi
theorem vpl_vpl (f : Nat → Int64) (k : Nat) (a b : Int64) : vp_updL (vp_updL f k a) k b = vp_updL f k b := by
  funext j; simp only [vp_updL]; split <;> rfl
/-- the codes from a to b are put into a node's sets -/
theorem A_takeCodes_go {M : MI} {MB : MA} {node b : Nat} (hno : node < 50) (hb : b < 128) : ∀ (m c fuel : Nat) (L : ML) (X : Nat → Int32) (Y : Nat → Int64), b + 1 - c = m → m < fuel → c ≤ 128 → X 1 = Int32.ofNat node → X 3 = Int32.ofNat b → X 4 = Int32.ofNat c →
    Res (f_A_takeCodes_go fuel 3 M MB L X Y) (fun z => z.1 = 0 ∧ z.2.1 = M ∧ z.2.2.1 = MB ∧ ∃ lo hi, z.2.2.2 3 = vp_updL (L 3) node lo ∧ z.2.2.2 4 = vp_updL (L 4) node hi ∧
      (∀ k, k < 64 → lb lo k = (lb (L 3 node) k || decide (c ≤ k ∧ k ≤ b))) ∧ (∀ k, k < 64 → lb hi k = (lb (L 4 node) k || decide (c ≤ k + 64 ∧ k + 64 ≤ b)))) := by
  intro m
  induction m with
  | zero =>
    intro c fuel L X Y hm hf hc h1 h3 h4
    obtain ⟨g, rfl⟩ : ∃ g, fuel = g + 1 := ⟨fuel - 1, by omega⟩
    have hlt : Int32.ofNat b < Int32.ofNat c := (pn_lt (by omega) (by omega)).mpr (by omega)
    simp only [f_A_takeCodes_go, f_A_takeCodes_3, if_true, h3, h4, if_pos hlt]
    refine Res.mk ⟨rfl, rfl, rfl, L 3 node, L 4 node, ?_, ?_, fun k hk => ?_, fun k hk => ?_⟩
    · funext j; simp only [vp_updL]; split <;> simp_all
    · funext j; simp only [vp_updL]; split <;> simp_all
    · rw [decide_eq_false (by omega), Bool.or_false]
    · rw [decide_eq_false (by omega), Bool.or_false]
  | succ m ih =>
    intro c fuel L X Y hm hf hc h1 h3 h4
    obtain ⟨g, rfl⟩ : ∃ g, fuel = g + 1 := ⟨fuel - 1, by omega⟩
    have hlt : ¬ Int32.ofNat b < Int32.ofNat c := fun z => by have := (pn_lt (by omega) (by omega)).mp z; omega
    have nn : (Int32.ofNat node).toNatClampNeg = node := pn_nat (by omega)
    by_cases h64 : 64 ≤ c
    · have hle : (64 : Int32) ≤ Int32.ofNat c := (pn_le (a := 64) (b := c) (by omega) (by omega)).mpr h64
      have hs : Int32.ofNat c - 64 = Int32.ofNat (c - 64) := pn_sub (a := c) (b := 64) h64
      simp only [f_A_takeCodes_go, f_A_takeCodes_3, if_true, h1, h3, h4, if_neg hlt, if_pos hle, pn_i50 hno, wk_let, f_A_takeCodes_48, nn, hs, pn_succ]
      refine (ih (c + 1) g _ _ Y (by omega) (by omega) (by omega) ?_ ?_ ?_).imp ?_
      · rw [upd_ne _ _ (by decide)]; exact h1
      · rw [upd_ne _ _ (by decide)]; exact h3
      · exact upd_self _ _ _
      · rintro ⟨z0, z1, z2, z3⟩ ⟨e0, e1, e2, lo, hi, hlo, hhi, blo, bhi⟩
        refine ⟨e0, e1, e2, lo, hi, ?_, ?_, fun k hk => ?_, fun k hk => ?_⟩
        · rw [hlo, va_up_ne _ _ (by decide)]
        · rw [hhi, va_up_self, vpl_vpl]
        · rw [blo k hk, va_up_ne _ _ (by decide)]
          congr 1
          apply decide_eq_decide.mpr
          omega
        · rw [bhi k hk, va_up_self, vpl_self, lb_or, lb_one (by omega), Bool.or_assoc]
          congr 1
          rw [← Bool.decide_or]
          apply decide_eq_decide.mpr
          omega
    · have hle : ¬ (64 : Int32) ≤ Int32.ofNat c := fun z => h64 ((pn_le (a := 64) (b := c) (by omega) (by omega)).mp z)
      simp only [f_A_takeCodes_go, f_A_takeCodes_3, if_true, h1, h3, h4, if_neg hlt, if_neg hle, pn_i50 hno, wk_let, f_A_takeCodes_48, nn, pn_succ]
      refine (ih (c + 1) g _ _ Y (by omega) (by omega) (by omega) ?_ ?_ ?_).imp ?_
      · rw [upd_ne _ _ (by decide)]; exact h1
      · rw [upd_ne _ _ (by decide)]; exact h3
      · exact upd_self _ _ _
      · rintro ⟨z0, z1, z2, z3⟩ ⟨e0, e1, e2, lo, hi, hlo, hhi, blo, bhi⟩
        refine ⟨e0, e1, e2, lo, hi, ?_, ?_, fun k hk => ?_, fun k hk => ?_⟩
        · rw [hlo, va_up_self, vpl_vpl]
        · rw [hhi, va_up_ne _ _ (by decide)]
        · rw [blo k hk, va_up_self, vpl_self, lb_or, lb_one (by omega), Bool.or_assoc]
          congr 1
          rw [← Bool.decide_or]
          apply decide_eq_decide.mpr
          omega
        · rw [bhi k hk, va_up_ne _ _ (by decide)]
          congr 1
          apply decide_eq_decide.mpr
          omega
theorem wk_FUEL_big : 100000 < wk_FUEL := by decide
theorem A_takeCodes {M : MI} {MB : MA} {L : ML} {node a b : Nat} (hno : node < 50) (ha : a < 128) (hb : b < 128) :
    Res (f_A_takeCodes M MB L (Int32.ofNat node) (Int32.ofNat a) (Int32.ofNat b)) (fun z => z.1 = 0 ∧ z.2.1 = M ∧ z.2.2.1 = MB ∧ ∃ lo hi, z.2.2.2 3 = vp_updL (L 3) node lo ∧ z.2.2.2 4 = vp_updL (L 4) node hi ∧
      (∀ k, k < 64 → lb lo k = (lb (L 3 node) k || decide (a ≤ k ∧ k ≤ b))) ∧ (∀ k, k < 64 → lb hi k = (lb (L 4 node) k || decide (a ≤ k + 64 ∧ k + 64 ≤ b)))) := by
  have := wk_FUEL_big
  exact A_takeCodes_go hno hb (b + 1 - a) a wk_FUEL L _ _ rfl (by omega) (by omega) (by simp [upd]) (by simp [upd]) (by simp [upd])
theorem A_takeOther {M : MI} {MB : MA} {L : ML} {node : Nat} (hno : node < 50) :
    Res (f_A_takeOtherCodes M MB L (Int32.ofNat node)) (fun z => z.1 = 0 ∧ z.2.1 = M ∧ z.2.2.1 = MB ∧ ∃ lo hi, z.2.2.2 3 = vp_updL (L 3) node lo ∧ z.2.2.2 4 = vp_updL (L 4) node hi ∧
      (∀ k, k < 64 → lb lo k = !lb (L 3 node) k) ∧ (∀ k, k < 64 → lb hi k = !lb (L 4 node) k)) := by
  have nn : (Int32.ofNat node).toNatClampNeg = node := pn_nat (by omega)
  have h3 : va_up L 3 (vp_updL (L 3) node (L 3 node ^^^ (-1))) 4 = L 4 := va_up_ne _ _ (by decide)
  simp only [f_A_takeOtherCodes, pn_i50 hno, if_true, wk_let, nn, h3]
  refine Res.mk ⟨rfl, rfl, rfl, L 3 node ^^^ (-1), L 4 node ^^^ (-1), ?_, ?_, fun k hk => lb_not _ hk, fun k hk => lb_not _ hk⟩
  · simp only [va_up, if_true, if_false, Nat.reduceEqDiff]
  · simp only [va_up, if_true, if_false, Nat.reduceEqDiff]
/-- the slip as codes -/
abbrev Slip (sx : Nat → Int32) (s : Nat → Nat) (n : Nat) : Prop := (n ≤ 24) ∧ (∀ k, k < n → sx k = Int32.ofNat (s k) ∧ s k < 128)
theorem Slip.nb {sx : Nat → Int32} {s : Nat → Nat} {n : Nat} (h_ : Slip sx s n) : n ≤ 24 := h_.1
theorem Slip.ch {sx : Nat → Int32} {s : Nat → Nat} {n : Nat} (h_ : Slip sx s n) : ∀ k, k < n → sx k = Int32.ofNat (s k) ∧ s k < 128 := h_.2
/-- the first closing bracket among the next m places -/
def fbr (s : Nat → Nat) : Nat → Nat → Nat
  | 0, p => p
  | m + 1, p => if s p = 93 then p else fbr s m (p + 1)
def inset (s : Nat → Nat) (e : Nat) : Nat → Nat → Nat → Bool
  | 0, _, _ => false
  | f + 1, p, c => if e ≤ p then false else if p + 2 < e ∧ s (p + 1) = 45 ∧ s p ≤ s (p + 2) then (decide (s p ≤ c ∧ c ≤ s (p + 2)) || inset s e f (p + 3) c) else (decide (c = s p) || inset s e f (p + 1) c)
abbrev LSp : Type := (Nat → Bool) ⊕ Bool
abbrev LSp.con (P : Nat → Bool) : LSp := Sum.inl P
abbrev LSp.beg : LSp := Sum.inr true
abbrev LSp.fin : LSp := Sum.inr false
abbrev Tk : Type := Nat × Bool × Bool × LSp
abbrev Tk.opn : Tk := (0, false, false, LSp.fin)
abbrev Tk.cls : Tk := (1, false, false, LSp.fin)
abbrev Tk.bar : Tk := (2, false, false, LSp.fin)
abbrev Tk.rep (leave again : Bool) : Tk := (3, leave, again, LSp.fin)
abbrev Tk.sing (l : LSp) : Tk := (4, false, false, l)
abbrev Lx : Type := Nat ⊕ (Tk × Nat)
abbrev Lx.bad (p : Nat) : Lx := Sum.inl p
abbrev Lx.tok (t : Tk) (k : Nat) : Lx := Sum.inr (t, k)
def lxNeg (s : Nat → Nat) (n k : Nat) : Bool := decide (k + 1 < n ∧ s (k + 1) = 94)
def lxB (s : Nat → Nat) (n k : Nat) : Nat := if lxNeg s n k then k + 2 else k + 1
def lxE (s : Nat → Nat) (n k : Nat) : Nat := fbr s (n - lxB s n k) (lxB s n k)
def lxSet (s : Nat → Nat) (n k : Nat) : Lx :=
  if lxE s n k = n ∨ lxE s n k = lxB s n k then Lx.bad (lxE s n k) else Lx.tok (Tk.sing (LSp.con (fun c => inset s (lxE s n k) 24 (lxB s n k) c != lxNeg s n k))) (lxE s n k + 1)
def lx (s : Nat → Nat) (n k : Nat) : Lx :=
  if s k = 40 then Lx.tok Tk.opn (k + 1) else if s k = 41 then Lx.tok Tk.cls (k + 1) else if s k = 42 then Lx.tok (Tk.rep true true) (k + 1) else if s k = 43 then Lx.tok (Tk.rep false true) (k + 1) else if s k = 63 then Lx.tok (Tk.rep true false) (k + 1)
  else if s k = 91 then lxSet s n k else if s k = 92 then (if k + 1 = n then Lx.bad n else Lx.tok (Tk.sing (LSp.con (fun c => decide (c = s (k + 1))))) (k + 2)) else if s k = 93 then Lx.bad k else if s k = 124 then Lx.tok Tk.bar (k + 1)
  else if s k = 36 then Lx.tok (Tk.sing LSp.fin) (k + 1) else if s k = 46 then Lx.tok (Tk.sing (LSp.con (fun c => decide (c ≠ 10)))) (k + 1) else if s k = 94 then Lx.tok (Tk.sing LSp.beg) (k + 1) else Lx.tok (Tk.sing (LSp.con (fun c => decide (c = s k)))) (k + 1)
def ls_rl (tn : Nat) (tx : Nat → Int32) (l : LSp) : Rl := match l with
  | Sum.inl P => tl_con tn tx (fun c => P c.toNatClampNeg = true)
  | Sum.inr true => tl_beg tx
  | Sum.inr false => tl_end tn tx
def st_rep (leave again : Bool) (st : List RLv) : Option (List RLv) := match st with
  | (c, q, some p) :: s => some (st_times leave again ((c, q, some p) :: s))
  | _ => none
def stk (tn : Nat) (tx : Nat → Int32) (t : Tk) (st : List RLv) : Option (List RLv) :=
  if t.1 = 0 then (if st.length = 9 then none else some (st_open st)) else if t.1 = 1 then (if st.length ≤ 1 then none else some (st_close st)) else if t.1 = 2 then some (st_bar st)
  else if t.1 = 3 then st_rep t.2.1 t.2.2.1 st else some (st_single (ls_rl tn tx t.2.2.2) st)
theorem stk_opn (tn : Nat) (tx : Nat → Int32) (st : List RLv) : stk tn tx Tk.opn st = if st.length = 9 then none else some (st_open st) := rfl
theorem stk_cls (tn : Nat) (tx : Nat → Int32) (st : List RLv) : stk tn tx Tk.cls st = if st.length ≤ 1 then none else some (st_close st) := rfl
theorem stk_bar (tn : Nat) (tx : Nat → Int32) (st : List RLv) : stk tn tx Tk.bar st = some (st_bar st) := rfl
theorem stk_rep (tn : Nat) (tx : Nat → Int32) (l a : Bool) (st : List RLv) : stk tn tx (Tk.rep l a) st = st_rep l a st := rfl
theorem stk_sing (tn : Nat) (tx : Nat → Int32) (l : LSp) (st : List RLv) : stk tn tx (Tk.sing l) st = some (st_single (ls_rl tn tx l) st) := rfl
abbrev Rd : Type := Nat ⊕ List RLv
abbrev Rd.fault (p : Nat) : Rd := Sum.inl p
abbrev Rd.done (st : List RLv) : Rd := Sum.inr st
def rd (tn : Nat) (tx : Nat → Int32) (s : Nat → Nat) (n : Nat) : Nat → Nat → List RLv → Rd
  | 0, _, _ => Rd.fault 0
  | f + 1, k, st => if n ≤ k then (if 1 < st.length then Rd.fault n else Rd.done st) else match lx s n k with
    | Sum.inl p => Rd.fault p
    | Sum.inr (t, k') => match stk tn tx t st with
      | none => Rd.fault k
      | some st' => rd tn tx s n f k' st'
theorem fbr_ok (s : Nat → Nat) : ∀ (m p : Nat), p ≤ fbr s m p ∧ fbr s m p ≤ p + m ∧ (∀ k, p ≤ k → k < fbr s m p → s k ≠ 93) ∧ (fbr s m p = p + m ∨ s (fbr s m p) = 93)
  | 0, p => ⟨Nat.le_refl _, Nat.le_refl _, fun k h1 h2 => by simp only [fbr] at h2; omega, Or.inl rfl⟩
  | m + 1, p => by
    by_cases e : s p = 93
    · simp only [fbr, if_pos e]
      exact ⟨Nat.le_refl _, by omega, fun k h1 h2 => by omega, Or.inr e⟩
    · simp only [fbr, if_neg e]
      obtain ⟨a, b, c, d⟩ := fbr_ok s m (p + 1)
      refine ⟨by omega, by omega, fun k h1 h2 => ?_, ?_⟩
      · by_cases q : k = p
        · rw [q]; exact e
        · exact c k (by omega) h2
      · rcases d with d | d
        · exact Or.inl (by omega)
        · exact Or.inr d
/-- a text: at most 160 codes below 128 -/
abbrev Txt (tn : Nat) (tx : Nat → Int32) : Prop := (tn ≤ 160) ∧ (∀ k, k < tn → ∃ c, c < 128 ∧ tx k = Int32.ofNat c)
theorem Txt.nb {tn : Nat} {tx : Nat → Int32} (h_ : Txt tn tx) : tn ≤ 160 := h_.1
theorem Txt.ch {tn : Nat} {tx : Nat → Int32} (h_ : Txt tn tx) : ∀ k, k < tn → ∃ c, c < 128 ∧ tx k = Int32.ofNat c := h_.2
theorem tl_con_eq {tn : Nat} {tx : Nat → Int32} (hT : Txt tn tx) {lo hi : Int64} {P : Nat → Bool} (h1 : ∀ k, k < 64 → lb lo k = P k) (h2 : ∀ k, k < 64 → lb hi k = P (k + 64)) : cLab tn tx 1 lo hi = ls_rl tn tx (LSp.con P) := by
  have e : cLab tn tx 1 lo hi = tl_con tn tx (c_takes lo hi) := rfl
  rw [e]
  funext i j
  apply propext
  show (j = i + 1 ∧ i < tn ∧ _) ↔ (j = i + 1 ∧ i < tn ∧ _)
  refine and_congr_right (fun _ => and_congr_right (fun hi => ?_))
  obtain ⟨c, hc, e⟩ := hT.ch i hi
  have hn : (tx i).toNatClampNeg = c := by rw [e]; exact pn_nat (by omega)
  unfold c_takes
  rw [hn]
  by_cases h : c < 64
  · rw [if_pos h, h1 c h]
    show _ ↔ P (tx i).toNatClampNeg = true
    rw [hn]
  · rw [if_neg h, h2 (c - 64) (by omega), show c - 64 + 64 = c by omega]
    show _ ↔ P (tx i).toNatClampNeg = true
    rw [hn]
/-- a node that takes one code, or codes otherwise chosen afterwards -/
theorem A_readLiteral {tn : Nat} {tx : Nat → Int32} {sx : Nat → Int32} {I : MI} {A : MA} {M : MI} {MB : MA} {L : ML} {r : CR} (hT : Txt tn tx) (h : CAbs tn tx I A M MB L r) (hn : r.n < 50) {c : Nat} (hc : c < 128) :
    Res (f_P_readLiteral sx I A M MB L (Int32.ofNat c)) (CStep tn tx I (c_single r (ls_rl tn tx (LSp.con (fun x => decide (x = c)))))) := by
  have htb := h.tb
  simp only [f_P_readLiteral, A_addNodeAsPart 1 h.n hn h.ta (show r.tail < 50 by omega), Option.bind_some]
  refine (A_takeCodes hn hc hc).bind ?_
  rintro ⟨z0, z1, z2, z3⟩ ⟨e0, e1, e2, lo, hi, hlo, hhi, blo, bhi⟩
  simp only at e0 e1 e2 hlo hhi
  refine Res.mk ⟨?_, ?_, ?_, ?_⟩
  · rw [← tl_con_eq hT (lo := lo) (hi := hi) (P := fun x => decide (x = c)) (fun k hk => ?_) (fun k hk => ?_)]
    · refine h.single hn 1 lo hi rfl e1 e2 ?_ ?_
      · show z3 3 = _; rw [hlo, va_up_ne _ _ (by decide), va_up_self, vpl_vpl]
      · show z3 4 = _; rw [hhi, va_up_self, vpl_vpl]
    · rw [blo k hk, va_up_ne _ _ (by decide), va_up_self, vpl_self, lb_zero, Bool.false_or]
      apply decide_eq_decide.mpr; omega
    · rw [bhi k hk, va_up_self, vpl_self, lb_zero, Bool.false_or]
      apply decide_eq_decide.mpr; omega
  · simp only [upd, if_true, if_false, Nat.reduceEqDiff]
  · simp only [upd, if_true, if_false, Nat.reduceEqDiff]
  · simp only [upd, if_true, if_false, Nat.reduceEqDiff]
theorem A_readDot {tn : Nat} {tx : Nat → Int32} {sx : Nat → Int32} {I : MI} {A : MA} {M : MI} {MB : MA} {L : ML} {r : CR} (hT : Txt tn tx) (h : CAbs tn tx I A M MB L r) (hn : r.n < 50) :
    Res (f_P_readDot sx I A M MB L) (CStep tn tx I (c_single r (ls_rl tn tx (LSp.con (fun x => decide (x ≠ 10)))))) := by
  have htb := h.tb
  simp only [f_P_readDot, A_addNodeAsPart 1 h.n hn h.ta (show r.tail < 50 by omega), Option.bind_some]
  refine (A_takeCodes (a := 10) (b := 10) hn (by omega) (by omega)).bind ?_
  rintro ⟨z0, z1, z2, z3⟩ ⟨e0, e1, e2, lo, hi, hlo, hhi, blo, bhi⟩
  simp only at e0 e1 e2 hlo hhi
  subst e1; subst e2
  refine (A_takeOther hn).bind ?_
  rintro ⟨y0, y1, y2, y3⟩ ⟨f0, f1, f2, lo', hi', hlo', hhi', blo', bhi'⟩
  simp only at f0 f1 f2 hlo' hhi' blo' bhi'
  refine Res.mk ⟨?_, ?_, ?_, ?_⟩
  · rw [← tl_con_eq hT (lo := lo') (hi := hi') (P := fun x => decide (x ≠ 10)) (fun k hk => ?_) (fun k hk => ?_)]
    · refine h.single hn 1 lo' hi' rfl f1 f2 ?_ ?_
      · show y3 3 = _; rw [hlo', hlo, vpl_vpl, va_up_ne _ _ (by decide), va_up_self, vpl_vpl]
      · show y3 4 = _; rw [hhi', hhi, vpl_vpl, va_up_self, vpl_vpl]
    · rw [blo' k hk, hlo, vpl_self, blo k hk, va_up_ne _ _ (by decide), va_up_self, vpl_self, lb_zero, Bool.false_or, ← decide_not]
      apply decide_eq_decide.mpr; omega
    · rw [bhi' k hk, hhi, vpl_self, bhi k hk, va_up_self, vpl_self, lb_zero, Bool.false_or, ← decide_not]
      apply decide_eq_decide.mpr; omega
  · simp only [upd, if_true, if_false, Nat.reduceEqDiff]
  · simp only [upd, if_true, if_false, Nat.reduceEqDiff]
  · simp only [upd, if_true, if_false, Nat.reduceEqDiff]
theorem pn_i24 {n : Nat} (h : n < 24) : wk_inb (Int32.ofNat n) 24 = true := (pn_inb (by omega)).mpr h
theorem pn_add2 (n : Nat) : Int32.ofNat n + 2 = Int32.ofNat (n + 2) := pn_add n 2
theorem pn_add3 (n : Nat) : Int32.ofNat n + 3 = Int32.ofNat (n + 3) := pn_add n 3
/-- a character or a range inside a set -/
theorem A_readRange {sx : Nat → Int32} {s : Nat → Nat} {n p e node : Nat} (hS : Slip sx s n) (hpe : p < e) (hen : e ≤ n) (hbr : ∀ k, p ≤ k → k < e → s k ≠ 93) (hee : e = n ∨ s e = 93) (hno : node < 50)
    {I : MI} {A : MA} {M : MI} {MB : MA} {L : ML} (h6 : I 6 = Int32.ofNat n) (h7 : I 7 = Int32.ofNat p) :
    Res (f_P_readRange sx I A M MB L (Int32.ofNat node)) (fun z => z.2.1 = upd I 7 (Int32.ofNat (if p + 2 < e ∧ s (p + 1) = 45 ∧ s p ≤ s (p + 2) then p + 3 else p + 1)) ∧ z.2.2.1 = A ∧ z.2.2.2.1 = M ∧ z.2.2.2.2.1 = MB ∧
      ∃ lo hi, z.2.2.2.2.2 3 = vp_updL (L 3) node lo ∧ z.2.2.2.2.2 4 = vp_updL (L 4) node hi ∧
        (∀ k, k < 64 → lb lo k = (lb (L 3 node) k || (if p + 2 < e ∧ s (p + 1) = 45 ∧ s p ≤ s (p + 2) then decide (s p ≤ k ∧ k ≤ s (p + 2)) else decide (k = s p)))) ∧
        (∀ k, k < 64 → lb hi k = (lb (L 4 node) k || (if p + 2 < e ∧ s (p + 1) = 45 ∧ s p ≤ s (p + 2) then decide (s p ≤ k + 64 ∧ k + 64 ≤ s (p + 2)) else decide (k + 64 = s p))))) := by
  have hn := hS.nb
  obtain ⟨e0, c0⟩ := hS.ch p (by omega)
  have n0 : (Int32.ofNat p).toNatClampNeg = p := pn_nat (by omega)
  have n1 : (Int32.ofNat (p + 1)).toNatClampNeg = p + 1 := pn_nat (by omega)
  have n2 : (Int32.ofNat (p + 2)).toNatClampNeg = p + 2 := pn_nat (by omega)
  have one : ∀ (X : Nat → Int32) (Y : Nat → Int64), X 1 = Int32.ofNat node → X 2 = Int32.ofNat (s p) → ¬ (p + 2 < e ∧ s (p + 1) = 45 ∧ s p ≤ s (p + 2)) → Res (f_P_readRange_74 sx I A M MB L X Y) (fun z => z.2.1 = upd I 7 (Int32.ofNat (if p + 2 < e ∧ s (p + 1) = 45 ∧ s p ≤ s (p + 2) then p + 3 else p + 1)) ∧ z.2.2.1 = A ∧ z.2.2.2.1 = M ∧ z.2.2.2.2.1 = MB ∧
      ∃ lo hi, z.2.2.2.2.2 3 = vp_updL (L 3) node lo ∧ z.2.2.2.2.2 4 = vp_updL (L 4) node hi ∧
        (∀ k, k < 64 → lb lo k = (lb (L 3 node) k || (if p + 2 < e ∧ s (p + 1) = 45 ∧ s p ≤ s (p + 2) then decide (s p ≤ k ∧ k ≤ s (p + 2)) else decide (k = s p)))) ∧
        (∀ k, k < 64 → lb hi k = (lb (L 4 node) k || (if p + 2 < e ∧ s (p + 1) = 45 ∧ s p ≤ s (p + 2) then decide (s p ≤ k + 64 ∧ k + 64 ≤ s (p + 2)) else decide (k + 64 = s p))))) := by
    intro X Y hx1 hx2 hc
    simp only [if_neg hc]
    simp only [f_P_readRange_74, f_P_readRange_75, if_true, hx1, hx2]
    refine (A_takeCodes hno c0 c0).bind ?_
    rintro ⟨z0, z1, z2, z3⟩ ⟨q0, q1, q2, lo, hi, hlo, hhi, blo, bhi⟩
    simp only at q0 q1 q2 hlo hhi
    simp only [wk_let, f_P_readRange_133, h7, pn_succ]
    refine Res.mk ⟨rfl, rfl, q1, q2, lo, hi, hlo, hhi, fun k hk => ?_, fun k hk => ?_⟩
    · rw [blo k hk]; congr 1; apply decide_eq_decide.mpr; omega
    · rw [bhi k hk]; congr 1; apply decide_eq_decide.mpr; omega
  have x1 : ∀ v, upd (upd (fun _ => (0 : Int32)) 1 (Int32.ofNat node)) 2 v 1 = Int32.ofNat node := fun v => by rw [upd_ne _ _ (by decide), upd_self]
  have x2 : ∀ v, upd (upd (fun _ => (0 : Int32)) 1 (Int32.ofNat node)) 2 v 2 = v := fun v => upd_self _ _ _
  simp only [f_P_readRange, h6, h7, pn_i24 (show p < 24 by omega), if_true, pn_add2, pn_succ, n0, n1, n2, e0]
  by_cases h1 : n ≤ p + 2
  · rw [if_pos ((pn_le (by omega) (by omega)).mpr h1)]
    exact one _ _ (x1 _) (x2 _) (by omega)
  · rw [if_neg (fun z => h1 ((pn_le (by omega) (by omega)).mp z))]
    obtain ⟨e1, c1⟩ := hS.ch (p + 1) (by omega)
    obtain ⟨e2, c2⟩ := hS.ch (p + 2) (by omega)
    simp only [pn_i24 (show p + 1 < 24 by omega), pn_i24 (show p + 2 < 24 by omega), if_true, e1, e2]
    by_cases h2 : s (p + 1) = 45
    · rw [if_pos ((pn_eqc (a := s (p + 1)) (x := 45) 45 rfl (by omega) (by omega)).mpr h2)]
      have hp1 : p + 1 < e := by
        by_cases q : p + 1 = e
        · rcases hee with z | z
          · omega
          · rw [← q] at z; omega
        · omega
      by_cases h3 : s (p + 2) = 93
      · rw [if_pos ((pn_eqc (a := s (p + 2)) (x := 93) 93 rfl (by omega) (by omega)).mpr h3)]
        refine one _ _ (x1 _) (x2 _) (fun z => hbr (p + 2) (by omega) z.1 h3)
      · rw [if_neg (fun z => h3 ((pn_eqc (a := s (p + 2)) (x := 93) 93 rfl (by omega) (by omega)).mp z))]
        have hp2 : p + 2 < e := by
          by_cases q : p + 2 = e
          · rcases hee with z | z
            · omega
            · rw [← q] at z; omega
          · omega
        by_cases h4 : s (p + 2) < s p
        · rw [if_pos ((pn_lt (by omega) (by omega)).mpr h4)]
          exact one _ _ (x1 _) (x2 _) (by omega)
        · rw [if_neg (fun z => h4 ((pn_lt (by omega) (by omega)).mp z))]
          have hc : p + 2 < e ∧ s (p + 1) = 45 ∧ s p ≤ s (p + 2) := ⟨hp2, h2, by omega⟩
          simp only [if_pos hc]
          have h10 : ¬ (1 : Int32) = 0 := by decide
          simp only [f_P_readRange_75, if_neg h10, h7, pn_add2, pn_i24 (show p + 2 < 24 by omega), if_true, n2, x1, x2, e2]
          refine (A_takeCodes hno c0 c2).bind ?_
          rintro ⟨z0, z1, z2, z3⟩ ⟨q0, q1, q2, lo, hi, hlo, hhi, blo, bhi⟩
          simp only at q0 q1 q2 hlo hhi
          simp only [wk_let, f_P_readRange_133, pn_add3]
          exact Res.mk ⟨rfl, rfl, q1, q2, lo, hi, hlo, hhi, blo, bhi⟩
    · rw [if_neg (fun z => h2 ((pn_eqc (a := s (p + 1)) (x := 45) 45 rfl (by omega) (by omega)).mp z))]
      exact one _ _ (x1 _) (x2 _) (by omega)
theorem inset_fuel (s : Nat → Nat) (e : Nat) : ∀ (f g p c : Nat), e - p ≤ f → e - p ≤ g → inset s e f p c = inset s e g p c := by
  intro f
  induction f with
  | zero =>
    intro g p c h1 h2
    cases g with
    | zero => rfl
    | succ g => simp only [inset, if_pos (show e ≤ p by omega)]
  | succ f ih =>
    intro g p c h1 h2
    cases g with
    | zero => simp only [inset, if_pos (show e ≤ p by omega)]
    | succ g =>
      simp only [inset]
      by_cases h : e ≤ p
      · rw [if_pos h, if_pos h]
      · rw [if_neg h, if_neg h]
        split
        · rw [ih g (p + 3) c (by omega) (by omega)]
        · rw [ih g (p + 1) c (by omega) (by omega)]
theorem inset_step {s : Nat → Nat} {e p c f : Nat} (hpe : p < e) (hf : e - p ≤ f) : inset s e f p c = (if p + 2 < e ∧ s (p + 1) = 45 ∧ s p ≤ s (p + 2) then (decide (s p ≤ c ∧ c ≤ s (p + 2)) || inset s e f (p + 3) c) else (decide (c = s p) || inset s e f (p + 1) c)) := by
  obtain ⟨g, rfl⟩ : ∃ g, f = g + 1 := ⟨f - 1, by omega⟩
  have h : ¬ e ≤ p := by omega
  have h3 := inset_fuel s e g (g + 1) (p + 3) c (by omega) (by omega)
  have h1 := inset_fuel s e g (g + 1) (p + 1) c (by omega) (by omega)
  rw [← h3, ← h1]
  conv => lhs; unfold inset
  rw [if_neg h]
theorem inset_done {s : Nat → Nat} {e p c : Nat} (f : Nat) (h : e ≤ p) : inset s e f p c = false := by
  cases f with
  | zero => rfl
  | succ f => unfold inset; rw [if_pos h]
theorem vpl_same (f : Nat → Int64) (k : Nat) : f = vp_updL f k (f k) := by
  funext j
  by_cases e : j = k
  · rw [e, vpl_self]
  · rw [vpl_ne _ _ e]
/-- the loop over a set's characters, up to its bracket -/
theorem A_readSet_go {sx : Nat → Int32} {s : Nat → Nat} {n e node : Nat} (hS : Slip sx s n) (hen : e ≤ n) (hee : e = n ∨ s e = 93) (hno : node < 50) {A : MA} {M : MI} {MB : MA} {Q : Int32 × MI × MA × MI × MA × ML → Prop} :
    ∀ (m p t fuel : Nat) (I : MI) (L : ML) (X : Nat → Int32) (Y : Nat → Int64), e - p ≤ m → p ≤ e → m < fuel → t ≤ p → (∀ k, p ≤ k → k < e → s k ≠ 93) → I 6 = Int32.ofNat n → I 7 = Int32.ofNat p → X 3 = Int32.ofNat node → X 4 = Int32.ofNat t →
      (∀ (rc : Nat → MI → MA → MI → MA → ML → (Nat → Int32) → (Nat → Int64) → Option (Int32 × MI × MA × MI × MA × ML)) (I' : MI) (L' : ML) (X' : Nat → Int32) (lo hi : Int64), I' 7 = Int32.ofNat e → (∀ j, j ≠ 7 → I' j = I j) → (∀ j, j ≠ 4 → X' j = X j) → L' 3 = vp_updL (L 3) node lo → L' 4 = vp_updL (L 4) node hi →
        (∀ k, k < 64 → lb lo k = (lb (L 3 node) k || inset s e 24 p k)) → (∀ k, k < 64 → lb hi k = (lb (L 4 node) k || inset s e 24 p (k + 64))) → Res (f_P_readSet_112 sx rc I' A M MB L' X' Y) Q) →
      Res (f_P_readSet_go sx fuel 67 I A M MB L X Y) Q := by
  intro m
  have hn := hS.nb
  induction m with
  | zero =>
    intro p t fuel I L X Y hm hpe hf ht hbr h6 h7 h3 h4 hQ
    obtain ⟨g, rfl⟩ : ∃ g, fuel = g + 1 := ⟨fuel - 1, by omega⟩
    have epe : p = e := by omega
    have hQ' : ∀ rc, Res (f_P_readSet_112 sx rc I A M MB L X Y) Q := fun rc => hQ rc I L X (L 3 node) (L 4 node) (by rw [← epe]; exact h7) (fun _ _ => rfl) (fun _ _ => rfl) (vpl_same _ _) (vpl_same _ _)
      (fun k _ => by rw [inset_done 24 (by omega), Bool.or_false]) (fun k _ => by rw [inset_done 24 (by omega), Bool.or_false])
    simp only [f_P_readSet_go, f_P_readSet_67, if_true, h6, h7, h4]
    split
    · exact hQ' _
    · split
      · exact hQ' _
      · rename_i q1 q2
        have hpn : p < n := by
          by_cases z : n ≤ p
          · exact (q2 ((pn_le (by omega) (by omega)).mpr z)).elim
          · omega
        obtain ⟨e0, c0⟩ := hS.ch p hpn
        have h93 : s p = 93 := by
          rcases hee with z | z
          · omega
          · rw [epe]; exact z
        rw [pn_nat (show p < 2147483648 by omega), e0, if_pos (pn_i24 (by omega)), if_pos ((pn_eqc (x := 93) 93 rfl (by omega) (by omega)).mpr h93)]
        exact hQ' _
  | succ m ih =>
    intro p t fuel I L X Y hm hpe hf ht hbr h6 h7 h3 h4 hQ
    by_cases hlt : p < e
    · obtain ⟨g, rfl⟩ : ∃ g, fuel = g + 1 := ⟨fuel - 1, by omega⟩
      obtain ⟨e0, c0⟩ := hS.ch p (by omega)
      have h93 : s p ≠ 93 := hbr p (Nat.le_refl _) hlt
      simp only [f_P_readSet_go, f_P_readSet_67, if_true, h6, h7, h4, pn_nat (show p < 2147483648 by omega), e0]
      rw [if_neg (fun z => by have := (pn_le (a := n) (b := t) (by omega) (by omega)).mp z; omega), if_neg (fun z => by have := (pn_le (a := n) (b := p) (by omega) (by omega)).mp z; omega), if_pos (pn_i24 (show p < 24 by omega)), if_neg (fun z => h93 ((pn_eqc (x := 93) 93 rfl (by omega) (by omega)).mp z)), h3]
      refine (A_readRange hS hlt hen hbr hee hno h6 h7).bind ?_
      rintro ⟨z0, z1, z2, z3, z4, z5⟩ ⟨e1, e2, e3, e4, lo, hi, hlo, hhi, blo, bhi⟩
      simp only at e1 e2 e3 e4 hlo hhi
      subst e2; subst e3; subst e4
      simp only [pn_succ]
      refine ih (if p + 2 < e ∧ s (p + 1) = 45 ∧ s p ≤ s (p + 2) then p + 3 else p + 1) (t + 1) g z1 z5 _ Y ?_ ?_ (by omega) ?_ ?_ ?_ ?_ ?_ ?_ ?_
      · split <;> omega
      · split <;> omega
      · split <;> omega
      · intro k h1 h2; exact hbr k (by split at h1 <;> omega) h2
      · rw [e1, upd_ne _ _ (by decide)]; exact h6
      · rw [e1, upd_self]
      · rw [upd_ne _ _ (by decide)]; exact h3
      · exact upd_self _ _ _
      · intro rc I' L' X' lo' hi' a1 a2 a3 a4 a5 a6 a7
        refine hQ rc I' L' X' lo' hi' a1 (fun j hj => by rw [a2 j hj, e1, upd_ne _ _ hj]) (fun j hj => by rw [a3 j hj, upd_ne _ _ hj]) (by rw [a4, hlo, vpl_vpl]) (by rw [a5, hhi, vpl_vpl]) (fun k hk => ?_) (fun k hk => ?_)
        · rw [a6 k hk, hlo, vpl_self, blo k hk, inset_step hlt (show e - p ≤ 24 by omega)]
          split <;> rw [Bool.or_assoc]
        · rw [a7 k hk, hhi, vpl_self, bhi k hk, inset_step hlt (show e - p ≤ 24 by omega)]
          split <;> rw [Bool.or_assoc]
    · exact ih p t fuel I L X Y (by omega) hpe (by omega) ht hbr h6 h7 h3 h4 hQ
-- 37.next
theorem CAbs.pos {tn : Nat} {tx : Nat → Int32} {I : MI} {A : MA} {M : MI} {MB : MA} {L : ML} {r : CR} (h : CAbs tn tx I A M MB L r) {I' : MI} (h8 : I' 8 = I 8) (h10 : I' 10 = I 10) (h11 : I' 11 = I 11) (h12 : I' 12 = I 12) : CAbs tn tx I' A M MB L r :=
  ⟨h.n, h.nb, h.nx, h.ot, h.lab, by rw [h8]; exact h.d, h.db, h.cs, h.ce, h.rh, h.ou, by rw [h11]; exact h.fi, by rw [h10]; exact h.le, by rw [h12]; exact h.ta, h.tb, h.of, h.rk⟩
/-- what a set leaves -/
def SetOut (tn : Nat) (tx : Nat → Int32) (I : MI) (r : CR) (o : Lx) (z : Int32 × MI × MA × MI × MA × ML) : Prop := z.2.1 6 = I 6 ∧ match o with
  | Sum.inl p => z.2.1 9 = Int32.ofNat p
  | Sum.inr (t, k) => 0 < k ∧ z.2.1 7 = Int32.ofNat (k - 1) ∧ z.2.1 9 = I 9 ∧ CAbs tn tx z.2.1 z.2.2.1 z.2.2.2.1 z.2.2.2.2.1 z.2.2.2.2.2 (c_single r (ls_rl tn tx t.2.2.2))
theorem A_readSet_49 {tn : Nat} {tx : Nat → Int32} {sx : Nat → Int32} {s : Nat → Nat} {n b e : Nat} (hT : Txt tn tx) (hS : Slip sx s n) (hb : b ≤ n) (he : e = fbr s (n - b) b) (neg : Bool) {I : MI} {A : MA} {M : MI} {MB : MA} {L : ML} {r : CR} (h : CAbs tn tx I A M MB L r) (hn : r.n < 50)
    (h6 : I 6 = Int32.ofNat n) {s0 s1 : Int32} (hs : s1 + s0 = Int32.ofNat b) {X : Nat → Int32} {Y : Nat → Int64} (hX : X 1 = if neg then 1 else 0) :
    Res (f_P_readSet_49 sx (f_P_readSet_go sx wk_FUEL) I A M MB L X Y s0 s1) (SetOut tn tx I r (if e = n ∨ e = b then Lx.bad e else Lx.tok (Tk.sing (LSp.con (fun c => inset s e 24 b c != neg))) (e + 1))) := by
  have hnb := hS.nb
  obtain ⟨f1, f2, f3, f4⟩ := fbr_ok s (n - b) b
  rw [← he] at f1 f2 f3 f4
  have hen : e ≤ n := by omega
  have hee : e = n ∨ s e = 93 := by
    rcases f4 with z | z
    · exact Or.inl (by omega)
    · exact Or.inr z
  have htb := h.tb
  have hh : CAbs tn tx (upd I 7 (Int32.ofNat b)) A M MB L r := h.pos (upd_ne _ _ (by decide)) (upd_ne _ _ (by decide)) (upd_ne _ _ (by decide)) (upd_ne _ _ (by decide))
  have fu := wk_FUEL_big
  simp only [f_P_readSet_49, wk_let, hs, A_addNodeAsPart 1 hh.n hn hh.ta (show r.tail < 50 by omega), Option.bind_some, upd_self]
  refine A_readSet_go hS hen hee hn (e - b) b 0 wk_FUEL _ _ _ Y (Nat.le_refl _) f1 (by omega) (Nat.zero_le _) f3 ?_ ?_ ?_ ?_ ?_
  · simp only [upd, if_true, if_false, Nat.reduceEqDiff]; exact h6
  · simp only [upd, if_true, if_false, Nat.reduceEqDiff]
  · simp only [upd, if_true, if_false, Nat.reduceEqDiff]
  · simp only [upd, if_true, if_false, Nat.reduceEqDiff]; rfl
  · intro rc I' L' X' lo hi a1 a2 a3 a4 a5 a6 a7
    have i6 : I' 6 = Int32.ofNat n := by rw [a2 6 (by decide)]; simp only [upd, if_true, if_false, Nat.reduceEqDiff]; exact h6
    have i9 : I' 9 = I 9 := by rw [a2 9 (by decide)]; simp only [upd, if_true, if_false, Nat.reduceEqDiff]
    have x1 : X' 1 = if neg then 1 else 0 := by rw [a3 1 (by decide)]; simp only [upd, if_true, if_false, Nat.reduceEqDiff]; exact hX
    have x2 : X' 2 = Int32.ofNat b := by rw [a3 2 (by decide)]; simp only [upd, if_true, if_false, Nat.reduceEqDiff]
    have x3 : X' 3 = Int32.ofNat r.n := by rw [a3 3 (by decide)]; simp only [upd, if_true, if_false, Nat.reduceEqDiff]
    simp only [f_P_readSet_112, a1, i6, x1, x2, x3]
    have hbad : (e = n ∨ e = b) → Res (f_P_readSet_131 sx rc I' A (upd M 5 (Int32.ofNat (r.n + 1))) (va_up (va_up (va_up (va_up MB 0 (upd (MB 0) r.n 1)) 1 (upd (MB 1) r.n (-1))) 2 (upd (MB 2) r.n (-1))) 1 (upd (upd (MB 1) r.n (-1)) r.tail (Int32.ofNat r.n))) L' X' Y) (SetOut tn tx I r (if e = n ∨ e = b then Lx.bad e else Lx.tok (Tk.sing (LSp.con (fun c => inset s e 24 b c != neg))) (e + 1))) := by
      intro hz
      rw [if_pos hz]
      simp only [f_P_readSet_131, wk_let, a1]
      refine Res.mk ⟨?_, ?_⟩
      · simp only [upd, if_true, if_false, Nat.reduceEqDiff]; rw [i6, h6]
      · show upd I' 9 (Int32.ofNat e) 9 = _; exact upd_self _ _ _
    by_cases q1 : e = n
    · rw [if_pos ((pn_eq (by omega) (by omega)).mpr q1)]; exact hbad (Or.inl q1)
    · rw [if_neg (fun z => q1 ((pn_eq (by omega) (by omega)).mp z))]
      by_cases q2 : e = b
      · rw [if_pos ((pn_eq (by omega) (by omega)).mpr q2)]; exact hbad (Or.inr q2)
      · rw [if_neg (fun z => q2 ((pn_eq (by omega) (by omega)).mp z))]
        rw [if_neg (show ¬ (e = n ∨ e = b) from fun z => z.elim q1 q2)]
        have l3 : va_up (va_up L 3 (vp_updL (L 3) r.n 0)) 4 (vp_updL (L 4) r.n 0) 3 = vp_updL (L 3) r.n 0 := by simp only [va_up, if_true, if_false, Nat.reduceEqDiff]
        have l4 : va_up (va_up L 3 (vp_updL (L 3) r.n 0)) 4 (vp_updL (L 4) r.n 0) 4 = vp_updL (L 4) r.n 0 := by simp only [va_up, if_true, if_false, Nat.reduceEqDiff]
        rw [l3, vpl_vpl] at a4
        rw [l4, vpl_vpl] at a5
        have b6 : ∀ k, k < 64 → lb lo k = inset s e 24 b k := fun k hk => by rw [a6 k hk, l3, vpl_self, lb_zero, Bool.false_or]
        have b7 : ∀ k, k < 64 → lb hi k = inset s e 24 b (k + 64) := fun k hk => by rw [a7 k hk, l4, vpl_self, lb_zero, Bool.false_or]
        have hI' : ∀ {j : Nat}, j ≠ 7 → I' j = upd (upd (upd I 10 (Int32.ofNat r.tail)) 11 (Int32.ofNat r.n)) 12 (Int32.ofNat r.n) j := by
          intro j hj
          rw [a2 j hj]
          by_cases j12 : j = 12
          · rw [j12, upd_self, upd_self]
          · rw [upd_ne _ _ j12, upd_ne _ _ j12]
            by_cases j11 : j = 11
            · rw [j11, upd_self, upd_self]
            · rw [upd_ne _ _ j11, upd_ne _ _ j11]
              by_cases j10 : j = 10
              · rw [j10, upd_self, upd_self]
              · rw [upd_ne _ _ j10, upd_ne _ _ j10, upd_ne _ _ hj]
        cases neg
        · simp only [Bool.false_eq_true, if_false, if_true, f_P_readSet_152]
          refine Res.mk ⟨by show I' 6 = I 6; rw [i6, h6], by omega, a1, i9, ?_⟩
          rw [← tl_con_eq hT (lo := lo) (hi := hi) (P := fun c => inset s e 24 b c != false) (fun k hk => by rw [b6 k hk]; exact (Bool.bne_false _).symm) (fun k hk => by rw [b7 k hk]; exact (Bool.bne_false _).symm)]
          exact (h.single hn 1 lo hi rfl rfl rfl a4 a5).pos (hI' (by decide)) (hI' (by decide)) (hI' (by decide)) (hI' (by decide))
        · have h10 : ¬ (1 : Int32) = 0 := by decide
          simp only [if_true, if_neg h10]
          refine (A_takeOther hn).bind ?_
          rintro ⟨y0, y1, y2, y3⟩ ⟨g0, g1, g2, lo', hi', hlo', hhi', blo', bhi'⟩
          simp only at g0 g1 g2 hlo' hhi' blo' bhi'
          simp only [f_P_readSet_152]
          refine Res.mk ⟨by show I' 6 = I 6; rw [i6, h6], by omega, a1, i9, ?_⟩
          rw [← tl_con_eq hT (lo := lo') (hi := hi') (P := fun c => inset s e 24 b c != true) (fun k hk => by rw [blo' k hk, a4, vpl_self, b6 k hk]; exact (Bool.bne_true _).symm) (fun k hk => by rw [bhi' k hk, a5, vpl_self, b7 k hk]; exact (Bool.bne_true _).symm)]
          exact (h.single hn 1 lo' hi' rfl g1 g2 (by show y3 3 = _; rw [hlo', a4, vpl_vpl]) (by show y3 4 = _; rw [hhi', a5, vpl_vpl])).pos (hI' (by decide)) (hI' (by decide)) (hI' (by decide)) (hI' (by decide))
theorem A_readSet {tn : Nat} {tx : Nat → Int32} {sx : Nat → Int32} {s : Nat → Nat} {n k : Nat} (hT : Txt tn tx) (hS : Slip sx s n) (hk : k < n) {I : MI} {A : MA} {M : MI} {MB : MA} {L : ML} {r : CR} (h : CAbs tn tx I A M MB L r) (hn : r.n < 50)
    (h6 : I 6 = Int32.ofNat n) (h7 : I 7 = Int32.ofNat k) : Res (f_P_readSet sx I A M MB L) (SetOut tn tx I r (lxSet s n k)) := by
  have hnb := hS.nb
  have h10 : ¬ (1 : Int32) = 0 := by decide
  have no : lxNeg s n k = false → Res (f_P_readSet_33 sx (f_P_readSet_go sx wk_FUEL) I A M MB L (fun _ => 0) (fun _ => 0)) (SetOut tn tx I r (lxSet s n k)) := by
    intro hneg
    have hb : lxB s n k = k + 1 := by unfold lxB; rw [hneg]; rfl
    simp only [f_P_readSet_33, f_P_readSet_34, if_true]
    unfold lxSet
    rw [hneg]
    refine A_readSet_49 hT hS (by omega) rfl false h hn h6 (by rw [h7, hb]; exact pn_succ _) (upd_self _ _ _)
  unfold f_P_readSet f_P_readSet_e
  simp only [h6, h7, pn_succ]
  by_cases q : n ≤ k + 1
  · rw [if_pos ((pn_le (by omega) (by omega)).mpr q)]
    exact no (decide_eq_false (by omega))
  · rw [if_neg (fun z => q ((pn_le (by omega) (by omega)).mp z)), if_pos (pn_i24 (show k + 1 < 24 by omega)), pn_nat (show k + 1 < 2147483648 by omega)]
    obtain ⟨e1, c1⟩ := hS.ch (k + 1) (by omega)
    rw [e1]
    by_cases q2 : s (k + 1) = 94
    · rw [if_pos ((pn_eqc (x := 94) 94 rfl (by omega) (by omega)).mpr q2)]
      have hneg : lxNeg s n k = true := decide_eq_true ⟨by omega, q2⟩
      have hb : lxB s n k = k + 2 := by unfold lxB; rw [hneg]; rfl
      simp only [f_P_readSet_34, if_neg h10]
      unfold lxSet
      rw [hneg]
      refine A_readSet_49 hT hS (by omega) rfl true h hn h6 (by rw [h7, hb]; exact pn_add2 _) (upd_self _ _ _)
    · rw [if_neg (fun z => q2 ((pn_eqc (x := 94) 94 rfl (by omega) (by omega)).mp z))]
      exact no (decide_eq_false (fun z => q2 z.2))
def NextOut (tn : Nat) (tx : Nat → Int32) (s : Nat → Nat) (n k : Nat) (st : List RLv) (z : Int32 × MI × MA × MI × MA × ML) : Prop := z.2.1 6 = Int32.ofNat n ∧ match lx s n k with
  | Sum.inl p => z.2.1 9 = Int32.ofNat p
  | Sum.inr (t, k') => match stk tn tx t st with
    | none => z.2.1 9 = Int32.ofNat k
    | some st' => z.2.1 9 = -1 ∧ z.2.1 7 = Int32.ofNat k' ∧ k < k' ∧ k' ≤ n ∧ ∃ r own, CAbs tn tx z.2.1 z.2.2.1 z.2.2.2.1 z.2.2.2.2.1 z.2.2.2.2.2 r ∧ CInv r own st' ∧ r.n ≤ 2 + 2 * k'
/-- a step that read one character -/
theorem next_one {tn : Nat} {tx : Nat → Int32} {sx : Nat → Int32} {s : Nat → Nat} {n k : Nat} {st st' : List RLv} {t : Tk} (hkn : k < n) (hl : lx s n k = Lx.tok t (k + 1)) (hst : stk tn tx t st = some st') {I : MI} (h6 : I 6 = Int32.ofNat n) (h7 : I 7 = Int32.ofNat k) (h9 : I 9 = -1)
    {r' : CR} (hr : ∃ own', CInv r' own' st') (hrn : r'.n ≤ 2 + 2 * (k + 1)) {z : Int32 × MI × MA × MI × MA × ML} (h : CStep tn tx I r' z) (X : Nat → Int32) (Y : Nat → Int64) :
    Res (f_P_readNext_151 sx z.2.1 z.2.2.1 z.2.2.2.1 z.2.2.2.2.1 z.2.2.2.2.2 X Y) (NextOut tn tx s n k st) := by
  obtain ⟨hC, e6, e7, e9⟩ := h
  obtain ⟨own', hr⟩ := hr
  simp only [f_P_readNext_151, wk_let]
  refine Res.mk ⟨?_, ?_⟩
  · dsimp only; rw [upd_ne _ _ (by decide), e6]; exact h6
  · rw [hl]
    simp only [hst]
    refine ⟨?_, ?_, by omega, by omega, r', own', ?_, hr, hrn⟩
    · rw [upd_ne _ _ (by decide), e9]; exact h9
    · rw [upd_self, e7, h7]; exact pn_succ _
    · exact hC.pos (upd_ne _ _ (by decide)) (upd_ne _ _ (by decide)) (upd_ne _ _ (by decide)) (upd_ne _ _ (by decide))
/-- a step that was refused at its place -/
theorem next_bad {tn : Nat} {tx : Nat → Int32} {sx : Nat → Int32} {s : Nat → Nat} {n k p : Nat} {st : List RLv} (hl : lx s n k = Lx.bad p ∨ (p = k ∧ ∃ t k', lx s n k = Lx.tok t k' ∧ stk tn tx t st = none)) {I' : MI} (h6 : I' 6 = Int32.ofNat n) (h9 : I' 9 = Int32.ofNat p)
    {A : MA} {M : MI} {MB : MA} {L : ML} (X : Nat → Int32) (Y : Nat → Int64) : Res (f_P_readNext_151 sx I' A M MB L X Y) (NextOut tn tx s n k st) := by
  simp only [f_P_readNext_151, wk_let]
  refine Res.mk ⟨?_, ?_⟩
  · dsimp only; rw [upd_ne _ _ (by decide)]; exact h6
  · rcases hl with hl | ⟨e, t, k', hl, hs⟩
    · rw [hl]
      simp only
      rw [upd_ne _ _ (by decide)]; exact h9
    · rw [hl]
      simp only [hs]
      rw [upd_ne _ _ (by decide), h9, e]
theorem CInv.len {r : CR} {own : Nat → Nat} {st : List RLv} (h : CInv r own st) : st.length = r.d + 1 := by
  cases st with
  | nil => exact h.elim
  | cons x s => rw [h.1]; rfl
theorem A_repeatNone {sx : Nat → Int32} {I : MI} {A : MA} {M : MI} {MB : MA} {L : ML} {k : Int32} (h : I 11 = -1) : f_P_repeatPart sx I A M MB L k = some (0, upd I 9 (I 7), A, M, MB, L) := by
  simp only [f_P_repeatPart, if_pos h, wk_let]
theorem A_repeat {tn : Nat} {tx : Nat → Int32} {sx : Nat → Int32} {s : Nat → Nat} {n k : Nat} {I : MI} {A : MA} {M : MI} {MB : MA} {L : ML} {r : CR} {own : Nat → Nat} {st : List RLv} (h : CAbs tn tx I A M MB L r) (hC : CInv r own st) (hrn : r.n ≤ 2 + 2 * k) (hn24 : n ≤ 24) (hk : k < n)
    (h6 : I 6 = Int32.ofNat n) (h7 : I 7 = Int32.ofNat k) (h9 : I 9 = -1) (leave again : Bool) (c : Int32) (hc : c = if leave then (if again then 42 else 63) else 43) (hla : leave = false → again = true) (hl : lx s n k = Lx.tok (Tk.rep leave again) (k + 1)) (X : Nat → Int32) (Y : Nat → Int64) :
    Res ((f_P_repeatPart sx I A M MB L c).bind (fun z1 => f_P_readNext_151 sx z1.2.1 z1.2.2.1 z1.2.2.2.1 z1.2.2.2.2.1 z1.2.2.2.2.2 X Y)) (NextOut tn tx s n k st) := by
  cases st with
  | nil => exact hC.elim
  | cons x s' =>
    obtain ⟨cc, q, p⟩ := x
    cases p with
    | none =>
      have hf : r.first = none := (hC.2.1.pn rfl).1
      have hfi := h.fi
      rw [hf] at hfi
      rw [A_repeatNone hfi]
      exact next_bad (sx := sx) (I' := upd I 9 (I 7)) (p := k) (Or.inr ⟨rfl, _, _, hl, rfl⟩) (by rw [upd_ne _ _ (by decide)]; exact h6) (by rw [upd_self]; exact h7) X Y
    | some p =>
      obtain ⟨f, hf, _⟩ := hC.2.1.ps p rfl
      cases leave with
      | false =>
        have ha := hla rfl
        subst ha
        subst hc
        refine (h.loop (by omega) hf 43 (by decide)).bind (fun z hz => ?_)
        exact next_one (sx := sx) hk hl rfl h6 h7 h9 (c_loop_inv hC hf false) (show r.n + 1 ≤ _ by omega) hz X Y
      | true =>
        cases again with
        | true =>
          subst hc
          refine (h.loop (by omega) hf 42 (by decide)).bind (fun z hz => ?_)
          exact next_one (sx := sx) hk hl rfl h6 h7 h9 (c_loop_inv hC hf true) (show r.n + 1 ≤ _ by omega) hz X Y
        | false =>
          subst hc
          refine (h.opt (by omega) hf).bind (fun z hz => ?_)
          exact next_one (sx := sx) hk hl rfl h6 h7 h9 (c_opt_inv hC hf) (show r.n + 2 ≤ _ by omega) hz X Y
theorem A_readNext {tn : Nat} {tx : Nat → Int32} {sx : Nat → Int32} {s : Nat → Nat} {n k : Nat} (hT : Txt tn tx) (hS : Slip sx s n) (hk : k < n) {I : MI} {A : MA} {M : MI} {MB : MA} {L : ML} {r : CR} {own : Nat → Nat} {st : List RLv} (h : CAbs tn tx I A M MB L r) (hC : CInv r own st) (hrn : r.n ≤ 2 + 2 * k)
    (h6 : I 6 = Int32.ofNat n) (h7 : I 7 = Int32.ofNat k) (h9 : I 9 = -1) : Res (f_P_readNext sx I A M MB L) (NextOut tn tx s n k st) := by
  have hn24 := hS.nb
  obtain ⟨e0, c0⟩ := hS.ch k hk
  have hlen := hC.len
  simp only [f_P_readNext, h7, pn_i24 (show k < 24 by omega), if_true, pn_nat (show k < 2147483648 by omega), e0]
  have heq : ∀ (l : Nat) (x : Int32), x = Int32.ofNat l → l < 128 → (Int32.ofNat (s k) = x ↔ s k = l) := fun l x hx hl => pn_eqc l hx (by omega) (by omega)
  by_cases q40 : s k = 40
  · rw [if_pos ((heq 40 40 rfl (by omega)).mpr q40)]
    have hl : lx s n k = Lx.tok Tk.opn (k + 1) := by unfold lx; rw [if_pos q40]
    by_cases hd : r.d = 8
    · have : f_P_openGroup sx I A M MB L = some (0, upd I 9 (I 7), A, M, MB, L) := by
        have : Int32.ofNat r.d = 8 := (pn_eqc 8 rfl (by omega) (by omega)).mpr hd
        simp only [f_P_openGroup, h.d, if_pos this, wk_let]
      rw [this]
      refine next_bad (sx := sx) (I' := upd I 9 (I 7)) (p := k) (Or.inr ⟨rfl, _, _, hl, ?_⟩) (by rw [upd_ne _ _ (by decide)]; exact h6) (by rw [upd_self]; exact h7) (fun _ => 0) (fun _ => 0)
      rw [stk_opn, if_pos (by omega)]
    · have hdb := h.db
      refine (h.openG (by omega) (by omega)).bind (fun z hz => ?_)
      refine next_one (sx := sx) hk hl ?_ h6 h7 h9 (c_open_inv hC) (show r.n + 2 ≤ _ by omega) hz (fun _ => 0) (fun _ => 0)
      rw [stk_opn, if_neg (by omega)]
  rw [if_neg (fun z => q40 ((heq 40 40 rfl (by omega)).mp z))]
  by_cases q41 : s k = 41
  · rw [if_pos ((heq 41 41 rfl (by omega)).mpr q41)]
    have hl : lx s n k = Lx.tok Tk.cls (k + 1) := by unfold lx; rw [if_neg q40, if_pos q41]
    by_cases hd : r.d = 0
    · have : f_P_closeGroup sx I A M MB L = some (0, upd I 9 (I 7), A, M, MB, L) := by
        have : Int32.ofNat r.d = 0 := (pn_eqc 0 rfl (by omega) (by omega)).mpr hd
        simp only [f_P_closeGroup, h.d, if_pos this, wk_let]
      rw [this]
      refine next_bad (sx := sx) (I' := upd I 9 (I 7)) (p := k) (Or.inr ⟨rfl, _, _, hl, ?_⟩) (by rw [upd_ne _ _ (by decide)]; exact h6) (by rw [upd_self]; exact h7) (fun _ => 0) (fun _ => 0)
      rw [stk_cls, if_pos (by omega)]
    · cases st with
      | nil => exact hC.elim
      | cons x s' => cases s' with
        | nil => simp only [List.length_cons, List.length_nil] at hlen; omega
        | cons y s' =>
          refine (h.closeG (by omega)).bind (fun z hz => ?_)
          refine next_one (sx := sx) hk hl ?_ h6 h7 h9 (c_close_inv hC) (show r.n ≤ _ by omega) hz (fun _ => 0) (fun _ => 0)
          rw [stk_cls, if_neg (by simp only [List.length_cons]; omega)]
  rw [if_neg (fun z => q41 ((heq 41 41 rfl (by omega)).mp z))]
  by_cases q42 : s k = 42
  · rw [if_pos ((heq 42 42 rfl (by omega)).mpr q42)]
    have hl : lx s n k = Lx.tok (Tk.rep true true) (k + 1) := by unfold lx; rw [if_neg q40, if_neg q41, if_pos q42]
    exact A_repeat h hC hrn hn24 hk h6 h7 h9 true true _ (by rw [q42]; rfl) (fun z => by cases z) hl _ _
  rw [if_neg (fun z => q42 ((heq 42 42 rfl (by omega)).mp z))]
  by_cases q43 : s k = 43
  · rw [if_pos ((heq 43 43 rfl (by omega)).mpr q43)]
    have hl : lx s n k = Lx.tok (Tk.rep false true) (k + 1) := by unfold lx; rw [if_neg q40, if_neg q41, if_neg q42, if_pos q43]
    exact A_repeat h hC hrn hn24 hk h6 h7 h9 false true _ (by rw [q43]; rfl) (fun z => rfl) hl _ _
  rw [if_neg (fun z => q43 ((heq 43 43 rfl (by omega)).mp z))]
  by_cases q63 : s k = 63
  · rw [if_pos ((heq 63 63 rfl (by omega)).mpr q63)]
    have hl : lx s n k = Lx.tok (Tk.rep true false) (k + 1) := by unfold lx; rw [if_neg q40, if_neg q41, if_neg q42, if_neg q43, if_pos q63]
    exact A_repeat h hC hrn hn24 hk h6 h7 h9 true false _ (by rw [q63]; rfl) (fun z => by cases z) hl _ _
  rw [if_neg (fun z => q63 ((heq 63 63 rfl (by omega)).mp z))]
  by_cases q91 : s k = 91
  · rw [if_pos ((heq 91 91 rfl (by omega)).mpr q91)]
    have hl : lx s n k = lxSet s n k := by unfold lx; rw [if_neg q40, if_neg q41, if_neg q42, if_neg q43, if_neg q63, if_pos q91]
    refine (A_readSet hT hS hk h (by omega) h6 h7).bind (fun z hz => ?_)
    obtain ⟨z6, hz⟩ := hz
    unfold lxSet at hl hz
    by_cases q : lxE s n k = n ∨ lxE s n k = lxB s n k
    · rw [if_pos q] at hl hz
      exact next_bad (sx := sx) (Or.inl hl) (by rw [z6]; exact h6) hz (fun _ => 0) (fun _ => 0)
    · rw [if_neg q] at hl hz
      obtain ⟨_, z7, z9, hz⟩ := hz
      simp only [f_P_readNext_151, wk_let]
      have hE : k < lxE s n k + 1 ∧ lxE s n k + 1 ≤ n := by
        obtain ⟨f1, f2, f3, f4⟩ := fbr_ok s (n - lxB s n k) (lxB s n k)
        have hb1 : k + 1 ≤ lxB s n k := by unfold lxB; split <;> omega
        have hb2 : lxB s n k ≤ n := by
          unfold lxB
          split
          · rename_i hh
            have := of_decide_eq_true hh
            omega
          · omega
        have e : lxE s n k = fbr s (n - lxB s n k) (lxB s n k) := rfl
        rw [← e] at f1 f2
        omega
      obtain ⟨own', hinv⟩ := c_single_inv hC (ls_rl tn tx (LSp.con (fun c => inset s (lxE s n k) 24 (lxB s n k) c != lxNeg s n k)))
      refine Res.mk ⟨?_, ?_⟩
      · dsimp only; rw [upd_ne _ _ (by decide), z6]; exact h6
      · rw [hl]
        simp only [stk_sing]
        refine ⟨?_, ?_, hE.1, hE.2, _, own', hz.pos (upd_ne _ _ (by decide)) (upd_ne _ _ (by decide)) (upd_ne _ _ (by decide)) (upd_ne _ _ (by decide)), hinv, ?_⟩
        · rw [upd_ne _ _ (by decide), z9]; exact h9
        · rw [upd_self, z7, Nat.add_sub_cancel]; exact pn_succ _
        · show r.n + 1 ≤ _; omega
  rw [if_neg (fun z => q91 ((heq 91 91 rfl (by omega)).mp z))]
  by_cases q92 : s k = 92
  · rw [if_pos ((heq 92 92 rfl (by omega)).mpr q92)]
    have hl0 : lx s n k = (if k + 1 = n then Lx.bad n else Lx.tok (Tk.sing (LSp.con (fun c => decide (c = s (k + 1))))) (k + 2)) := by unfold lx; rw [if_neg q40, if_neg q41, if_neg q42, if_neg q43, if_neg q63, if_neg q91, if_pos q92]
    have i6 : upd I 7 (Int32.ofNat (k + 1)) 6 = Int32.ofNat n := by rw [upd_ne _ _ (by decide)]; exact h6
    simp only [f_P_readEscaped, wk_let, h7, pn_succ, upd_self, i6]
    by_cases q : k + 1 = n
    · rw [if_pos q] at hl0
      rw [if_pos ((pn_eq (by omega) (by omega)).mpr q)]
      exact next_bad (sx := sx) (I' := upd (upd I 7 (Int32.ofNat (k + 1))) 9 (Int32.ofNat (k + 1))) (Or.inl hl0) (by rw [upd_ne _ _ (by decide), upd_ne _ _ (by decide)]; exact h6) (by rw [upd_self, q]) (fun _ => 0) (fun _ => 0)
    · rw [if_neg q] at hl0
      rw [if_neg (fun z => q ((pn_eq (by omega) (by omega)).mp z)), if_pos (pn_i24 (show k + 1 < 24 by omega)), pn_nat (show k + 1 < 2147483648 by omega)]
      obtain ⟨e1, c1⟩ := hS.ch (k + 1) (by omega)
      rw [e1]
      have h' : CAbs tn tx (upd I 7 (Int32.ofNat (k + 1))) A M MB L r := h.pos (upd_ne _ _ (by decide)) (upd_ne _ _ (by decide)) (upd_ne _ _ (by decide)) (upd_ne _ _ (by decide))
      obtain ⟨z, hz0, hz⟩ := A_readLiteral (sx := sx) hT h' (show r.n < 50 by omega) c1
      rw [hz0]
      simp only [Option.bind_some, f_P_readNext_151, wk_let]
      obtain ⟨hz, z6, z7, z9⟩ := hz
      obtain ⟨own', hinv⟩ := c_single_inv hC (ls_rl tn tx (LSp.con (fun c => decide (c = s (k + 1)))))
      refine Res.mk ⟨?_, ?_⟩
      · dsimp only; rw [upd_ne _ _ (by decide), z6, upd_ne _ _ (by decide)]; exact h6
      · rw [hl0]
        simp only [stk_sing]
        refine ⟨?_, ?_, by omega, by omega, _, own', hz.pos (upd_ne _ _ (by decide)) (upd_ne _ _ (by decide)) (upd_ne _ _ (by decide)) (upd_ne _ _ (by decide)), hinv, ?_⟩
        · rw [upd_ne _ _ (by decide), z9, upd_ne _ _ (by decide)]; exact h9
        · rw [upd_self, z7, upd_self]; exact pn_succ _
        · show r.n + 1 ≤ _; omega
  rw [if_neg (fun z => q92 ((heq 92 92 rfl (by omega)).mp z))]
  by_cases q93 : s k = 93
  · rw [if_pos ((heq 93 93 rfl (by omega)).mpr q93)]
    have hl : lx s n k = Lx.bad k := by unfold lx; rw [if_neg q40, if_neg q41, if_neg q42, if_neg q43, if_neg q63, if_neg q91, if_neg q92, if_pos q93]
    simp only [wk_let]
    exact next_bad (sx := sx) (Or.inl hl) (by rw [upd_ne _ _ (by decide)]; exact h6) (upd_self _ _ _) (fun _ => 0) (fun _ => 0)
  rw [if_neg (fun z => q93 ((heq 93 93 rfl (by omega)).mp z))]
  by_cases q124 : s k = 124
  · rw [if_pos ((heq 124 124 rfl (by omega)).mpr q124)]
    have hl : lx s n k = Lx.tok Tk.bar (k + 1) := by unfold lx; rw [if_neg q40, if_neg q41, if_neg q42, if_neg q43, if_neg q63, if_neg q91, if_neg q92, if_neg q93, if_pos q124]
    refine (h.bar (by omega)).bind (fun z hz => ?_)
    exact next_one (sx := sx) hk hl rfl h6 h7 h9 (c_bar_inv hC) (show r.n + 1 ≤ _ by omega) hz (fun _ => 0) (fun _ => 0)
  rw [if_neg (fun z => q124 ((heq 124 124 rfl (by omega)).mp z))]
  have hbase : ∀ o, (if s k = 36 then Lx.tok (Tk.sing LSp.fin) (k + 1) else if s k = 46 then Lx.tok (Tk.sing (LSp.con (fun c => decide (c ≠ 10)))) (k + 1) else if s k = 94 then Lx.tok (Tk.sing LSp.beg) (k + 1) else Lx.tok (Tk.sing (LSp.con (fun c => decide (c = s k)))) (k + 1)) = o → lx s n k = o := by
    intro o ho
    unfold lx; rw [if_neg q40, if_neg q41, if_neg q42, if_neg q43, if_neg q63, if_neg q91, if_neg q92, if_neg q93, if_neg q124]; exact ho
  simp only [f_P_readSingle]
  by_cases q36 : s k = 36
  · rw [if_pos ((heq 36 36 rfl (by omega)).mpr q36)]
    have htb := h.tb
    simp only [A_addNodeAsPart 3 h.n (show r.n < 50 by omega) h.ta (show r.tail < 50 by omega), Option.bind_some, f_P_readSingle_66]
    refine next_one (sx := sx) (r' := c_single r (ls_rl tn tx LSp.fin)) (z := (0, _, _, _, _, _)) hk (hbase _ (if_pos q36)) rfl h6 h7 h9 (c_single_inv hC _) (show r.n + 1 ≤ _ by omega) ⟨h.single (by omega) 3 0 0 rfl rfl rfl ?_ ?_, ?_, ?_, ?_⟩ (fun _ => 0) (fun _ => 0)
    all_goals rfl
  rw [if_neg (fun z => q36 ((heq 36 36 rfl (by omega)).mp z))]
  by_cases q46 : s k = 46
  · rw [if_pos ((heq 46 46 rfl (by omega)).mpr q46)]
    obtain ⟨z, hz0, hz⟩ := A_readDot (sx := sx) hT h (show r.n < 50 by omega)
    rw [hz0]
    simp only [Option.bind_some, f_P_readSingle_66]
    exact next_one (sx := sx) (z := (0, z.2.1, z.2.2.1, z.2.2.2.1, z.2.2.2.2.1, z.2.2.2.2.2)) hk (hbase _ (by rw [if_neg q36, if_pos q46])) rfl h6 h7 h9 (c_single_inv hC _) (show r.n + 1 ≤ _ by omega) hz (fun _ => 0) (fun _ => 0)
  rw [if_neg (fun z => q46 ((heq 46 46 rfl (by omega)).mp z))]
  by_cases q94 : s k = 94
  · rw [if_pos ((heq 94 94 rfl (by omega)).mpr q94)]
    have htb := h.tb
    simp only [A_addNodeAsPart 2 h.n (show r.n < 50 by omega) h.ta (show r.tail < 50 by omega), Option.bind_some, f_P_readSingle_66]
    refine next_one (sx := sx) (r' := c_single r (ls_rl tn tx LSp.beg)) (z := (0, _, _, _, _, _)) hk (hbase _ (by rw [if_neg q36, if_neg q46, if_pos q94])) rfl h6 h7 h9 (c_single_inv hC _) (show r.n + 1 ≤ _ by omega) ⟨h.single (by omega) 2 0 0 rfl rfl rfl ?_ ?_, ?_, ?_, ?_⟩ (fun _ => 0) (fun _ => 0)
    all_goals rfl
  rw [if_neg (fun z => q94 ((heq 94 94 rfl (by omega)).mp z))]
  obtain ⟨z, hz0, hz⟩ := A_readLiteral (sx := sx) hT h (show r.n < 50 by omega) c0
  rw [hz0]
  simp only [Option.bind_some, f_P_readSingle_66]
  exact next_one (sx := sx) (z := (0, z.2.1, z.2.2.1, z.2.2.2.1, z.2.2.2.2.1, z.2.2.2.2.2)) hk (hbase _ (by rw [if_neg q36, if_neg q46, if_neg q94])) rfl h6 h7 h9 (c_single_inv hC _) (show r.n + 1 ≤ _ by omega) hz (fun _ => 0) (fun _ => 0)
-- 38.read
/-- an automaton of the class that means a relation on the places of a text -/
abbrev CDone (tn : Nat) (tx : Nat → Int32) (M : MI) (MB : MA) (L : ML) (n : Nat) (nx ot : Nat → Option Nat) (lab : Nat → Rl) (cs ce : Nat) (R : Rl) : Prop := (M 5 = Int32.ofNat n) ∧ (n ≤ 50) ∧ (∀ u, u < n → nd n (MB 1 u) (nx u)) ∧ (∀ u, u < n → nd n (MB 2 u) (ot u)) ∧ (∀ u, u < n → lab u = cLab tn tx (MB 0 u) (L 3 u) (L 4 u)) ∧ (M 6 = Int32.ofNat cs) ∧ (M 7 = Int32.ofNat ce) ∧ (Fr (cF nx ot) lab (fun u => u < n) cs ce R) ∧ (lab ce = rl_id) ∧ (∀ u, u < n → ot u ≠ none → MB 0 u = 0)
theorem CDone.hn {tn : Nat} {tx : Nat → Int32} {M : MI} {MB : MA} {L : ML} {n : Nat} {nx ot : Nat → Option Nat} {lab : Nat → Rl} {cs ce : Nat} {R : Rl} (h_ : CDone tn tx M MB L n nx ot lab cs ce R) : M 5 = Int32.ofNat n := h_.1
theorem CDone.hnb {tn : Nat} {tx : Nat → Int32} {M : MI} {MB : MA} {L : ML} {n : Nat} {nx ot : Nat → Option Nat} {lab : Nat → Rl} {cs ce : Nat} {R : Rl} (h_ : CDone tn tx M MB L n nx ot lab cs ce R) : n ≤ 50 := h_.2.1
theorem CDone.hnx {tn : Nat} {tx : Nat → Int32} {M : MI} {MB : MA} {L : ML} {n : Nat} {nx ot : Nat → Option Nat} {lab : Nat → Rl} {cs ce : Nat} {R : Rl} (h_ : CDone tn tx M MB L n nx ot lab cs ce R) : ∀ u, u < n → nd n (MB 1 u) (nx u) := h_.2.2.1
theorem CDone.hot {tn : Nat} {tx : Nat → Int32} {M : MI} {MB : MA} {L : ML} {n : Nat} {nx ot : Nat → Option Nat} {lab : Nat → Rl} {cs ce : Nat} {R : Rl} (h_ : CDone tn tx M MB L n nx ot lab cs ce R) : ∀ u, u < n → nd n (MB 2 u) (ot u) := h_.2.2.2.1
theorem CDone.hlab {tn : Nat} {tx : Nat → Int32} {M : MI} {MB : MA} {L : ML} {n : Nat} {nx ot : Nat → Option Nat} {lab : Nat → Rl} {cs ce : Nat} {R : Rl} (h_ : CDone tn tx M MB L n nx ot lab cs ce R) : ∀ u, u < n → lab u = cLab tn tx (MB 0 u) (L 3 u) (L 4 u) := h_.2.2.2.2.1
theorem CDone.hcs {tn : Nat} {tx : Nat → Int32} {M : MI} {MB : MA} {L : ML} {n : Nat} {nx ot : Nat → Option Nat} {lab : Nat → Rl} {cs ce : Nat} {R : Rl} (h_ : CDone tn tx M MB L n nx ot lab cs ce R) : M 6 = Int32.ofNat cs := h_.2.2.2.2.2.1
theorem CDone.hce {tn : Nat} {tx : Nat → Int32} {M : MI} {MB : MA} {L : ML} {n : Nat} {nx ot : Nat → Option Nat} {lab : Nat → Rl} {cs ce : Nat} {R : Rl} (h_ : CDone tn tx M MB L n nx ot lab cs ce R) : M 7 = Int32.ofNat ce := h_.2.2.2.2.2.2.1
theorem CDone.fr {tn : Nat} {tx : Nat → Int32} {M : MI} {MB : MA} {L : ML} {n : Nat} {nx ot : Nat → Option Nat} {lab : Nat → Rl} {cs ce : Nat} {R : Rl} (h_ : CDone tn tx M MB L n nx ot lab cs ce R) : Fr (cF nx ot) lab (fun u => u < n) cs ce R := h_.2.2.2.2.2.2.2.1
theorem CDone.hid {tn : Nat} {tx : Nat → Int32} {M : MI} {MB : MA} {L : ML} {n : Nat} {nx ot : Nat → Option Nat} {lab : Nat → Rl} {cs ce : Nat} {R : Rl} (h_ : CDone tn tx M MB L n nx ot lab cs ce R) : lab ce = rl_id := h_.2.2.2.2.2.2.2.2.1
theorem CDone.hof {tn : Nat} {tx : Nat → Int32} {M : MI} {MB : MA} {L : ML} {n : Nat} {nx ot : Nat → Option Nat} {lab : Nat → Rl} {cs ce : Nat} {R : Rl} (h_ : CDone tn tx M MB L n nx ot lab cs ce R) : ∀ u, u < n → ot u ≠ none → MB 0 u = 0 := h_.2.2.2.2.2.2.2.2.2
def CMean (tn : Nat) (tx : Nat → Int32) (M : MI) (MB : MA) (L : ML) (R : Rl) : Prop := ∃ n nx ot lab cs ce, CDone tn tx M MB L n nx ot lab cs ce R
theorem lx_bad_le {s : Nat → Nat} {n k p : Nat} (hk : k < n) (h : lx s n k = Lx.bad p) : p ≤ n := by
  unfold lx at h
  by_cases q40 : s k = 40
  · rw [if_pos q40] at h; cases h
  rw [if_neg q40] at h
  by_cases q41 : s k = 41
  · rw [if_pos q41] at h; cases h
  rw [if_neg q41] at h
  by_cases q42 : s k = 42
  · rw [if_pos q42] at h; cases h
  rw [if_neg q42] at h
  by_cases q43 : s k = 43
  · rw [if_pos q43] at h; cases h
  rw [if_neg q43] at h
  by_cases q63 : s k = 63
  · rw [if_pos q63] at h; cases h
  rw [if_neg q63] at h
  by_cases q91 : s k = 91
  · rw [if_pos q91] at h
    unfold lxSet at h
    split at h
    · cases h
      obtain ⟨f1, f2, f3, f4⟩ := fbr_ok s (n - lxB s n k) (lxB s n k)
      have hb2 : lxB s n k ≤ n := by
        unfold lxB
        split
        · rename_i hh
          have := of_decide_eq_true hh
          omega
        · omega
      show fbr s (n - lxB s n k) (lxB s n k) ≤ n
      omega
    · cases h
  rw [if_neg q91] at h
  by_cases q92 : s k = 92
  · rw [if_pos q92] at h
    split at h
    · cases h; omega
    · cases h
  rw [if_neg q92] at h
  by_cases q93 : s k = 93
  · rw [if_pos q93] at h; cases h; omega
  rw [if_neg q93] at h
  by_cases q124 : s k = 124
  · rw [if_pos q124] at h; cases h
  rw [if_neg q124] at h
  by_cases q36 : s k = 36
  · rw [if_pos q36] at h; cases h
  rw [if_neg q36] at h
  by_cases q46 : s k = 46
  · rw [if_pos q46] at h; cases h
  rw [if_neg q46] at h
  by_cases q94 : s k = 94
  · rw [if_pos q94] at h; cases h
  rw [if_neg q94] at h
  cases h
/-- what the reading leaves -/
def ReadOut (tn : Nat) (tx : Nat → Int32) (n : Nat) (o : Rd) (z : Int32 × MI × MA × MI × MA × ML) : Prop := match o with
  | Sum.inl p => z.1 = Int32.ofNat p ∧ p ≤ n
  | Sum.inr st => z.1 = -1 ∧ ∃ x, st = [x] ∧ CMean tn tx z.2.2.2.1 z.2.2.2.2.1 z.2.2.2.2.2 (rl_all x)
theorem A_read_77bad {tn : Nat} {tx : Nat → Int32} {sx : Nat → Int32} {n p : Nat} (hp : p ≤ n) (hn : n ≤ 24) {I : MI} {A : MA} {M : MI} {MB : MA} {L : ML} {X : Nat → Int32} {Y : Nat → Int64} (h9 : I 9 = Int32.ofNat p) (rc : Nat → MI → MA → MI → MA → ML → (Nat → Int32) → (Nat → Int64) → Option (Int32 × MI × MA × MI × MA × ML)) :
    Res (f_P_read_77 sx rc I A M MB L X Y) (ReadOut tn tx n (Rd.fault p)) := by
  have h : ¬ Int32.ofNat p = -1 := pn_ne1 (by omega)
  simp only [f_P_read_77, f_P_read_100, f_P_read_112, h9, if_neg h]
  exact Res.mk ⟨rfl, hp⟩
theorem A_read_end {tn : Nat} {tx : Nat → Int32} {sx : Nat → Int32} {n : Nat} (hn : n ≤ 24) {I : MI} {A : MA} {M : MI} {MB : MA} {L : ML} {r : CR} {own : Nat → Nat} {st : List RLv} (h : CAbs tn tx I A M MB L r) (hC : CInv r own st) (h6 : I 6 = Int32.ofNat n) (h9 : I 9 = -1) {X : Nat → Int32} {Y : Nat → Int64}
    (rc : Nat → MI → MA → MI → MA → ML → (Nat → Int32) → (Nat → Int64) → Option (Int32 × MI × MA × MI × MA × ML)) :
    Res (f_P_read_77 sx rc I A M MB L X Y) (ReadOut tn tx n (if 1 < st.length then Rd.fault n else Rd.done st)) := by
  have hlen := hC.len
  have hdb := h.db
  by_cases q : 1 < st.length
  · rw [if_pos q]
    have h8 : ¬ Int32.ofNat r.d ≤ 0 := fun z => by have := (pn_lec (x := 0) 0 rfl (by omega) (by omega)).mp z; omega
    have hne : ¬ Int32.ofNat n = -1 := pn_ne1 (by omega)
    simp only [f_P_read_77, h9, if_true, h.d, if_neg h8, wk_let, f_P_read_100, f_P_read_112, upd_self, h6, if_neg hne]
    exact Res.mk ⟨rfl, Nat.le_refl _⟩
  · rw [if_neg q]
    cases st with
    | nil => exact hC.elim
    | cons x s' =>
      cases s' with
      | cons y s' => simp only [List.length_cons] at q; omega
      | nil =>
        simp only [List.length_cons, List.length_nil] at hlen
        have hd0 : r.d = 0 := by omega
        have h8 : Int32.ofNat r.d ≤ 0 := (pn_lec (x := 0) 0 rfl (by omega) (by omega)).mpr (by omega)
        obtain ⟨es, hs⟩ := h.cs 0 (by omega)
        obtain ⟨ec, hc⟩ := h.ce 0 (by omega)
        have htb := h.tb
        have hnb := h.nb
        have z0 : (0 : Int32).toNatClampNeg = 0 := rfl
        have i0 : wk_inb 0 9 = true := rfl
        simp only [f_P_read_77, h9, if_true, h.d, if_pos h8, f_P_read_100, f_P_finish, i0, h.ta, pn_i50 (show r.tail < 50 by omega), wk_let, z0, es, ec, Option.bind_some, f_P_read_112, pn_nat (show r.tail < 2147483648 by omega)]
        obtain ⟨hF, hid⟩ := c_fin_inv hC
        refine Res.mk ⟨rfl, x, rfl, r.n, sU r.nx r.tail (some (r.ce 0)), r.ot, r.lab, r.cs 0, r.ce 0, ?_, h.nb, fun u hu => ?_, fun u hu => ?_, fun u hu => ?_, ?_, ?_, hF, hid, fun u hu hne => ?_⟩
        · dsimp only; rw [upd_ne _ _ (by decide), upd_ne _ _ (by decide)]; exact h.n
        · dsimp only; rw [va_up_self]; exact nd_upd (fun _ => h.nx u hu) ⟨hc, rfl⟩
        · dsimp only; rw [va_up_ne _ _ (by decide)]; exact h.ot u hu
        · dsimp only; rw [va_up_ne _ _ (by decide)]; exact h.lab u hu
        · dsimp only; rw [upd_ne _ _ (by decide), upd_self]
        · dsimp only; rw [upd_self]
        · dsimp only; rw [va_up_ne _ _ (by decide)]; exact h.of u hu hne
theorem A_read_go {tn : Nat} {tx : Nat → Int32} {sx : Nat → Int32} {s : Nat → Nat} {n : Nat} (hT : Txt tn tx) (hS : Slip sx s n) :
    ∀ (m k t fuel : Nat) (I : MI) (A : MA) (M : MI) (MB : MA) (L : ML) (X : Nat → Int32) (Y : Nat → Int64) (r : CR) (own : Nat → Nat) (st : List RLv), n - k < m → m < fuel → k ≤ n → t ≤ k → CAbs tn tx I A M MB L r → CInv r own st → r.n ≤ 2 + 2 * k → I 6 = Int32.ofNat n → I 7 = Int32.ofNat k → I 9 = -1 → X 3 = Int32.ofNat t →
      Res (f_P_read_go sx fuel 40 I A M MB L X Y) (ReadOut tn tx n (rd tn tx s n m k st)) := by
  have hn := hS.nb
  intro m
  induction m with
  | zero => intros; omega
  | succ m ih =>
    intro k t fuel I A M MB L X Y r own st hm hf hkn htk h hC hrn h6 h7 h9 h3
    obtain ⟨g, rfl⟩ : ∃ g, fuel = g + 1 := ⟨fuel - 1, by omega⟩
    simp only [f_P_read_go, f_P_read_40, if_true, h6, h3, h7, h9]
    unfold rd
    by_cases q : n ≤ k
    · rw [if_pos q]
      split
      · exact A_read_end hn h hC h6 h9 _
      · rw [if_pos ((pn_le (by omega) (by omega)).mpr q)]
        exact A_read_end hn h hC h6 h9 _
    · rw [if_neg q, if_neg (fun z => by have := (pn_le (a := n) (b := t) (by omega) (by omega)).mp z; omega), if_neg (fun z => by have := (pn_le (a := n) (b := k) (by omega) (by omega)).mp z; omega)]
      refine (A_readNext hT hS (by omega) h hC hrn h6 h7 h9).bind (fun z hz => ?_)
      obtain ⟨z0, z1, z2, z3, z4, z5⟩ := z
      obtain ⟨z6, hz⟩ := hz
      simp only at z6 hz
      obtain ⟨g', rfl⟩ : ∃ g', g = g' + 1 := ⟨g - 1, by omega⟩
      have bad : ∀ p, p ≤ n → z1 9 = Int32.ofNat p → Res (f_P_read_go sx (g' + 1) 40 z1 z2 z3 z4 z5 (upd X 3 (Int32.ofNat t + 1)) Y) (ReadOut tn tx n (Rd.fault p)) := by
        intro p hp h9'
        have hne : ¬ Int32.ofNat p = -1 := pn_ne1 (by omega)
        simp only [f_P_read_go, f_P_read_40, if_true, h9', if_neg hne]
        split
        · exact A_read_77bad hp hn h9' _
        · split
          · exact A_read_77bad hp hn h9' _
          · exact A_read_77bad hp hn h9' _
      rcases hl : lx s n k with p | ⟨tt, k'⟩
      · rw [hl] at hz
        exact bad p (lx_bad_le (by omega) hl) hz
      · rw [hl] at hz
        simp only at hz ⊢
        cases hst : stk tn tx tt st with
        | none =>
          rw [hst] at hz
          exact bad k (by omega) hz
        | some st' =>
          rw [hst] at hz
          obtain ⟨y9, y7, hk1, hk2, r', own', hA, hI, hrn'⟩ := hz
          refine ih k' (t + 1) (g' + 1) z1 z2 z3 z4 z5 _ Y r' own' st' (by omega) (by omega) hk2 (by omega) hA hI hrn' z6 y7 y9 ?_
          rw [upd_self]; exact pn_succ _
theorem A_read {tn : Nat} {tx : Nat → Int32} {sx : Nat → Int32} {s : Nat → Nat} {n : Nat} (hT : Txt tn tx) (hS : Slip sx s n) (I : MI) (A : MA) (M : MI) (MB : MA) (L : ML) :
    Res (f_P_read sx I A M MB L (Int32.ofNat n)) (ReadOut tn tx n (rd tn tx s n (n + 1) 0 (st_open []))) := by
  have hn := hS.nb
  have fu := wk_FUEL_big
  have e8 : upd (upd (upd (upd I 6 (Int32.ofNat n)) 7 0) 9 (-1)) 8 0 8 = Int32.ofNat 0 := upd_self _ _ _
  have eM : upd M 5 0 5 = Int32.ofNat 0 := upd_self _ _ _
  unfold f_P_read f_P_read_e
  simp only [wk_let]
  refine (A_openChoice (-1) e8 (by omega) eM (by omega)).bind (fun z hz => ?_)
  obtain ⟨z0, z1, z2, z3, z4, z5⟩ := z
  obtain ⟨hI, a0, a1, a2, a3, hM, m0, m1, m2, l3, l4⟩ := hz
  simp only at hI a0 a1 a2 a3 hM m0 m1 m2 l3 l4
  let r : CR := (CR.mk (2) (fun _ => none) (fun _ => none) (fun _ => rl_id) (fun _ => 0) (fun _ => 1) (fun _ => 0) (fun _ => 0) (0) (0) (none) (0))
  obtain ⟨own, hC⟩ : ∃ own, CInv r own (st_open []) := c_start_inv rfl rfl rfl rfl rfl rfl rfl rfl rfl rfl rfl rfl
  refine A_read_go hT hS (n + 1) 0 0 wk_FUEL z1 z2 z3 z4 z5 _ _ r own _ (by omega) (by omega) (by omega) (by omega) ?_ hC (by show 2 ≤ 2 + 2 * 0; omega) ?_ ?_ ?_ ?_
  · refine ⟨hM, by show 2 ≤ 50; omega, fun u hu => ?_, fun u hu => ?_, fun u hu => ?_, ?_, by show 0 ≤ 8; omega, fun k hk => ?_, fun k hk => ?_, fun k hk => ?_, fun k hk0 hk => ?_, ?_, fun q => (q rfl).elim, ?_, by show 0 < 2; omega, fun u hu hne => (hne rfl).elim, fun k hk => ?_⟩
    · have hu' : u = 0 ∨ u = 1 := by have : u < 2 := hu; omega
      rw [m1]
      rcases hu' with e | e <;> (subst e; rfl)
    · have hu' : u = 0 ∨ u = 1 := by have : u < 2 := hu; omega
      rw [m2]
      rcases hu' with e | e <;> (subst e; rfl)
    · have hu' : u = 0 ∨ u = 1 := by have : u < 2 := hu; omega
      rw [m0]
      rcases hu' with e | e <;> (subst e; rfl)
    · rw [hI]; rfl
    · have e : k = 0 := by have : k ≤ 0 := hk; omega
      subst e; rw [a0]; exact ⟨rfl, by show 0 < 2; omega⟩
    · have e : k = 0 := by have : k ≤ 0 := hk; omega
      subst e; rw [a1]; exact ⟨rfl, by show 1 < 2; omega⟩
    · have e : k = 0 := by have : k ≤ 0 := hk; omega
      subst e; rw [a2]; exact ⟨rfl, by show 0 < 2; omega⟩
    · have : k ≤ 0 := hk; omega
    · rw [hI]; rfl
    · rw [hI]; rfl
    · rw [m0]; rfl
  · rw [hI]; rfl
  · rw [hI]; rfl
  · rw [hI]; rfl
  · rfl
-- 39.ntz
theorem bv_low {w : Nat} (x : BitVec w) (h : x ≠ 0#w) : ∃ k, k < w ∧ x.getLsbD k = true ∧ ∀ j, j < k → x.getLsbD j = false := by
  have : ∀ m, (∃ k, k < m ∧ x.getLsbD k = true) → ∃ k, k < m ∧ x.getLsbD k = true ∧ ∀ j, j < k → x.getLsbD j = false := by
    intro m
    induction m with
    | zero => rintro ⟨k, hk, _⟩; omega
    | succ m ih =>
      rintro ⟨k, hk, hb⟩
      by_cases q : ∃ k, k < m ∧ x.getLsbD k = true
      · obtain ⟨k', a, b, c⟩ := ih q; exact ⟨k', by omega, b, c⟩
      · refine ⟨k, hk, hb, fun j hj => ?_⟩
        cases hz : x.getLsbD j with
        | false => rfl
        | true => exact (q ⟨j, by omega, hz⟩).elim
  apply this w
  apply Classical.byContradiction
  intro hn
  apply h
  apply BitVec.eq_of_getLsbD_eq
  intro i hi
  cases hz : x.getLsbD i with
  | false => simp
  | true => exact (hn ⟨i, hi, hz⟩).elim
theorem nat_low {v k : Nat} (h1 : v.testBit k = true) (h2 : ∀ j, j < k → v.testBit j = false) : v = 2 ^ (k + 1) * (v / 2 ^ (k + 1)) + 2 ^ k := by
  have hm : v % 2 ^ (k + 1) = 2 ^ k := by
    apply Nat.eq_of_testBit_eq
    intro i
    rw [Nat.testBit_mod_two_pow, Nat.testBit_two_pow]
    by_cases e : i = k
    · subst e; simp [h1]
    · by_cases l : i < k
      · rw [h2 i l]; simp; omega
      · have : ¬ i < k + 1 := by omega
        simp [this]; omega
  have := Nat.div_add_mod v (2 ^ (k + 1))
  omega
theorem nat_pred_bit {v k : Nat} (h1 : v.testBit k = true) (h2 : ∀ j, j < k → v.testBit j = false) (j : Nat) : (v - 1).testBit j = if j < k then true else if j = k then false else v.testBit j := by
  have hv := nat_low h1 h2
  have hp : 0 < 2 ^ k := Nat.two_pow_pos k
  have hlt : 2 ^ k < 2 ^ (k + 1) := by rw [Nat.pow_succ]; omega
  have e1 : v - 1 = 2 ^ (k + 1) * (v / 2 ^ (k + 1)) + (2 ^ k - 1) := by omega
  have e2 : v.testBit j = if j < k + 1 then (2 ^ k).testBit j else (v / 2 ^ (k + 1)).testBit (j - (k + 1)) := by
    conv => lhs; rw [hv]
    exact Nat.testBit_two_pow_mul_add _ (by omega) _
  rw [e1, Nat.testBit_two_pow_mul_add _ (by omega) _, e2]
  by_cases l : j < k
  · rw [if_pos l, if_pos (by omega), Nat.testBit_two_pow_sub_one]; simp [l]
  · by_cases e : j = k
    · subst e; rw [if_neg l, if_pos rfl, if_pos (by omega), Nat.testBit_two_pow_sub_one]; simp
    · rw [if_neg l, if_neg e, if_neg (by omega), if_neg (by omega)]
theorem bv_pred {w : Nat} {x : BitVec w} {k : Nat} (h1 : x.getLsbD k = true) (h2 : ∀ j, j < k → x.getLsbD j = false) {j : Nat} (hj : j < w) : (x - 1#w).getLsbD j = if j < k then true else if j = k then false else x.getLsbD j := by
  have hv : x.toNat ≠ 0 := by
    intro e
    have : x.toNat.testBit k = true := h1
    rw [e, Nat.zero_testBit] at this
    cases this
  have hw : 0 < w := by omega
  have e : (x - 1#w).toNat = x.toNat - 1 := by
    have hx := x.isLt
    rw [BitVec.toNat_sub]
    have h1w : (1#w).toNat = 1 := by
      rw [BitVec.toNat_ofNat]
      exact Nat.mod_eq_of_lt (Nat.one_lt_two_pow (by omega))
    rw [h1w]
    have : 2 ^ w - 1 + x.toNat = (x.toNat - 1) + 2 ^ w := by have := Nat.two_pow_pos w; omega
    rw [this, Nat.add_mod_right, Nat.mod_eq_of_lt (by omega)]
  show (x - 1#w).toNat.testBit j = _
  rw [e, nat_pred_bit h1 h2 j]
  rfl
theorem lb_pred {x : Int64} {k : Nat} (h1 : lb x k = true) (h2 : ∀ j, j < k → lb x j = false) {j : Nat} (hj : j < 64) : lb (x - 1) j = if j < k then true else if j = k then false else lb x j := by
  have e : (x - 1).toBitVec = x.toBitVec - 1#64 := rfl
  unfold lb
  rw [e]
  exact bv_pred h1 h2 hj
/-- taking the lowest bit away -/
theorem lb_drop {x : Int64} {k : Nat} (h1 : lb x k = true) (h2 : ∀ j, j < k → lb x j = false) (j : Nat) : lb (x &&& (x - 1)) j = (lb x j && decide (j ≠ k)) := by
  by_cases hj : j < 64
  · rw [lb_and, lb_pred h1 h2 hj]
    by_cases l : j < k
    · rw [if_pos l, h2 j l, Bool.false_and, Bool.false_and]
    · by_cases e : j = k
      · rw [if_neg l, if_pos e]; simp [e]
      · rw [if_neg l, if_neg e]; simp [e]
  · rw [lb_big _ (by omega), lb_big _ (by omega), Bool.false_and]
def ib (x : Int32) (k : Nat) : Bool := x.toBitVec.getLsbD k
def ntz_g (m : Int32) : Option Int32 :=
  if 0 < m then if m ≤ 65536 then f_Ji_numberOfTrailingZeros_34 (upd (upd (fun _ => 0) 0 m) 1 1) (fun _ => 0) else f_Ji_numberOfTrailingZeros_34 (upd (upd (fun _ => 0) 0 ((m).toUInt32 >>> (((16 : Int32)).toUInt32 &&& Int32.toUInt32 31)).toInt32) 1 17) (fun _ => 0) else some (m &&& 32)
theorem ntz_mask : ∀ t : Fin 32, ntz_g (Int32.ofNat (2 ^ t.val - 1)) = some (Int32.ofNat t.val) := by decide +kernel
theorem mask_bits : ∀ t j : Fin 32, ib (Int32.ofNat (2 ^ t.val - 1)) j.val = decide (j.val < t.val) := by decide +kernel
theorem ntz_int {x : Int32} {k : Nat} (hk : k < 32) (h1 : ib x k = true) (h2 : ∀ j, j < k → ib x j = false) : f_Ji_numberOfTrailingZeros x = some (Int32.ofNat k) := by
  have e : f_Ji_numberOfTrailingZeros x = ntz_g ((x ^^^ (-1)) &&& (x - 1)) := rfl
  rw [e, ← ntz_mask ⟨k, hk⟩]
  congr 1
  apply Int32.toBitVec_inj.mp
  apply BitVec.eq_of_getLsbD_eq
  intro j hj
  have hm := mask_bits ⟨k, hk⟩ ⟨j, hj⟩
  simp only [ib] at hm
  rw [hm]
  have hn1 : ib (-1) j = true := by
    have : ∀ j : Fin 32, ib (-1) j.val = true := by decide +kernel
    exact this ⟨j, hj⟩
  have e2 : (x - 1).toBitVec = x.toBitVec - 1#32 := rfl
  rw [Int32.toBitVec_and, BitVec.getLsbD_and, Int32.toBitVec_xor, BitVec.getLsbD_xor, e2, bv_pred h1 h2 hj]
  simp only [ib] at hn1 h1 h2
  rw [hn1]
  by_cases l : j < k
  · rw [if_pos l, h2 j l]; simp [l]
  · by_cases e : j = k
    · subst e; rw [if_neg l, if_pos rfl]; simp
    · rw [if_neg l, if_neg e]; simp [l]
theorem ib_low (x : Int64) {j : Nat} (hj : j < 32) : ib x.toInt32 j = lb x j := by
  unfold ib lb
  rw [Int64.toBitVec_toInt32, BitVec.getLsbD_signExtend]
  simp [hj]; omega
theorem ib_high (x : Int64) {j : Nat} (hj : j < 32) : ib ((x.toUInt64 >>> (((32 : Int32)).toInt64.toUInt64 &&& Int64.toUInt64 63)).toInt64).toInt32 j = lb x (j + 32) := by
  rw [ib_low _ hj]
  have e : (((32 : Int32)).toInt64.toUInt64 &&& Int64.toUInt64 63) = 32 := by decide
  rw [e]
  unfold lb
  show (x.toUInt64 >>> (32 : UInt64)).toBitVec.getLsbD j = _
  rw [UInt64.toBitVec_shiftRight]
  have e2 : ((32 : UInt64).toBitVec % 64#64 : BitVec 64) = 32#64 := by decide
  simp
  congr 1
  omega
theorem A_ntz {x : Int64} (hx : x ≠ 0) : ∃ k, k < 64 ∧ lb x k = true ∧ (∀ j, j < k → lb x j = false) ∧ f_Jl_numberOfTrailingZeros x = some (Int32.ofNat k) := by
  obtain ⟨k, hk, h1, h2⟩ := bv_low x.toBitVec (fun e => hx (Int64.toBitVec_inj.mp e))
  refine ⟨k, hk, h1, h2, ?_⟩
  by_cases q : k < 32
  · have hne : ¬ x.toInt32 = 0 := by
      intro e
      have := ib_low x q
      rw [e] at this
      have h3 : lb x k = true := h1
      rw [h3] at this
      simp [ib] at this
    unfold f_Jl_numberOfTrailingZeros
    rw [if_neg hne, ntz_int q (by rw [ib_low x q]; exact h1) (fun j hj => by rw [ib_low x (by omega)]; exact h2 j hj)]
    rfl
  · have he : x.toInt32 = 0 := by
      apply Int32.toBitVec_inj.mp
      apply BitVec.eq_of_getLsbD_eq
      intro j hj
      have h3 := ib_low x hj
      have h4 : lb x j = false := h2 j (by omega)
      rw [h4] at h3
      simp only [ib] at h3
      rw [h3]; simp
    unfold f_Jl_numberOfTrailingZeros
    rw [if_pos he, ntz_int (k := k - 32) (by omega) (by rw [ib_high x (by omega), show k - 32 + 32 = k by omega]; exact h1) (fun j hj => by rw [ib_high x (by omega)]; exact h2 _ (by omega))]
    show some (Int32.ofNat 32 + Int32.ofNat (k - 32)) = _
    rw [pn_add, show 32 + (k - 32) = k by omega]

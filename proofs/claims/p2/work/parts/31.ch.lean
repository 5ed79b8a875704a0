/-- of a choice what is complete: from its start by its rows to its end, and on to the head of the row that is open -/
abbrev Ch (e : Nat → Nat → Prop) (lab : Nat → Rl) (U : Nat → Prop) (cs rh ce : Nat) (Rc : Rl) : Prop := (¬ U rh) ∧ (¬ U ce) ∧ (rh ≠ ce) ∧ (U cs ∨ cs = rh) ∧ (∀ u v, U u → e u v → U v ∨ v = rh ∨ v = ce) ∧ (∀ L : Rl, ∃ D : Nat → Rl, (∀ i j, D cs i j → Rc i j ∨ L i j) ∧ (∀ i, D ce i i) ∧ (∀ i j, L i j → D rh i j) ∧ ∀ u v i k j, U u → e u v → lab u i k → D v k j → D u i j) ∧ (∀ i j, Rc i j → Pa (fun u v => U u ∧ e u v) lab cs i ce j) ∧ (∀ i, Pa (fun u v => U u ∧ e u v) lab cs i rh i)
theorem Ch.nr {e : Nat → Nat → Prop} {lab : Nat → Rl} {U : Nat → Prop} {cs rh ce : Nat} {Rc : Rl} (h_ : Ch e lab U cs rh ce Rc) : ¬ U rh := h_.1
theorem Ch.nc {e : Nat → Nat → Prop} {lab : Nat → Rl} {U : Nat → Prop} {cs rh ce : Nat} {Rc : Rl} (h_ : Ch e lab U cs rh ce Rc) : ¬ U ce := h_.2.1
theorem Ch.ne {e : Nat → Nat → Prop} {lab : Nat → Rl} {U : Nat → Prop} {cs rh ce : Nat} {Rc : Rl} (h_ : Ch e lab U cs rh ce Rc) : rh ≠ ce := h_.2.2.1
theorem Ch.st {e : Nat → Nat → Prop} {lab : Nat → Rl} {U : Nat → Prop} {cs rh ce : Nat} {Rc : Rl} (h_ : Ch e lab U cs rh ce Rc) : U cs ∨ cs = rh := h_.2.2.2.1
theorem Ch.cl {e : Nat → Nat → Prop} {lab : Nat → Rl} {U : Nat → Prop} {cs rh ce : Nat} {Rc : Rl} (h_ : Ch e lab U cs rh ce Rc) : ∀ u v, U u → e u v → U v ∨ v = rh ∨ v = ce := h_.2.2.2.2.1
theorem Ch.so {e : Nat → Nat → Prop} {lab : Nat → Rl} {U : Nat → Prop} {cs rh ce : Nat} {Rc : Rl} (h_ : Ch e lab U cs rh ce Rc) : ∀ L : Rl, ∃ D : Nat → Rl, (∀ i j, D cs i j → Rc i j ∨ L i j) ∧ (∀ i, D ce i i) ∧ (∀ i j, L i j → D rh i j) ∧ ∀ u v i k j, U u → e u v → lab u i k → D v k j → D u i j := h_.2.2.2.2.2.1
theorem Ch.co {e : Nat → Nat → Prop} {lab : Nat → Rl} {U : Nat → Prop} {cs rh ce : Nat} {Rc : Rl} (h_ : Ch e lab U cs rh ce Rc) : ∀ i j, Rc i j → Pa (fun u v => U u ∧ e u v) lab cs i ce j := h_.2.2.2.2.2.2.1
theorem Ch.cr {e : Nat → Nat → Prop} {lab : Nat → Rl} {U : Nat → Prop} {cs rh ce : Nat} {Rc : Rl} (h_ : Ch e lab U cs rh ce Rc) : ∀ i, Pa (fun u v => U u ∧ e u v) lab cs i rh i := h_.2.2.2.2.2.2.2
theorem Pa.sub {e e' : Nat → Nat → Prop} {lab lab' : Nat → Rl} (he : ∀ u v, e u v → e' u v) (hl : ∀ u v i j, e u v → lab u i j → lab' u i j)
    {u i w j : Nat} (h : Pa e lab u i w j) : Pa e' lab' u i w j := by
  induction h using Pa.ind with
  | nil => exact .nil _ _
  | cons a b _ ih => exact .cons (he _ _ a) (hl _ _ _ _ a b) ih
theorem Ch.congr {e e' : Nat → Nat → Prop} {lab lab' : Nat → Rl} {U U' : Nat → Prop} {cs rh ce : Nat} {R : Rl} (F : Ch e lab U cs rh ce R) (hU : ∀ u, U u ↔ U' u) (he : ∀ u v, U u → (e u v ↔ e' u v)) (hl : ∀ u, U u → lab u = lab' u) : Ch e' lab' U' cs rh ce R := by
  have hUe : U = U' := funext fun u => propext (hU u)
  subst hUe
  refine ⟨F.nr, F.nc, F.ne, F.st, fun u v hu h => F.cl u v hu ((he u v hu).mpr h), fun L => ?_, fun i j h => ?_, fun i => ?_⟩
  · obtain ⟨D, h1, h2, h3, h4⟩ := F.so L
    exact ⟨D, h1, h2, h3, fun u v i k j hu ha hb hd => h4 u v i k j hu ((he u v hu).mpr ha) (by rw [hl u hu]; exact hb) hd⟩
  · exact (F.co i j h).sub (fun u v h => ⟨h.1, (he u v h.1).mp h.2⟩) (fun u v i j h hh => by rw [← hl u h.1]; exact hh)
  · exact (F.cr i).sub (fun u v h => ⟨h.1, (he u v h.1).mp h.2⟩) (fun u v i j h hh => by rw [← hl u h.1]; exact hh)
theorem Ch.nil {e : Nat → Nat → Prop} {lab : Nat → Rl} {U : Nat → Prop} {rh ce : Nat} (hU : ∀ u, ¬ U u) (hn : rh ≠ ce) : Ch e lab U rh rh ce rl_no := by
  refine ⟨hU _, hU _, hn, Or.inr rfl, fun u v hu => (hU u hu).elim, fun L => ⟨fun u i j => (u = rh ∧ L i j) ∨ (u = ce ∧ i = j), ?_, ?_, ?_, fun u v i k j hu => (hU u hu).elim⟩, fun i j h => h.elim, fun i => .nil _ _⟩
  · rintro i j (⟨_, h⟩ | ⟨h, _⟩)
    · exact Or.inr h
    · exact (hn h).elim
  · intro i; exact Or.inr ⟨rfl, rfl⟩
  · intro i j h; exact Or.inl ⟨rfl, h⟩
/-- the open row is complete, another one is begun -/
theorem Ch.bar {e e' er : Nat → Nat → Prop} {lab : Nat → Rl} {U Ur U' : Nat → Prop} {cs rh ce t f : Nat} {Rc Rr : Rl} (C : Ch e lab U cs rh ce Rc) (F : Fr er lab Ur rh t Rr)
    (hno : ∀ u v, Ur u → er u v → v ≠ rh) (hd : ∀ u, U u → ¬ Ur u) (hfU : ¬ U f) (hfr : ¬ Ur f) (hfc : f ≠ ce) (hcr : ¬ Ur ce) (hl : lab rh = rl_id) (hU : ∀ u, U' u ↔ U u ∨ Ur u)
    (he : ∀ u v, U u → (e' u v ↔ e u v)) (her : ∀ u v, Ur u → (e' u v ↔ er u v ∨ (u = t ∧ v = ce) ∨ (u = rh ∧ v = f))) : Ch e' lab U' cs f ce (rl_or Rc Rr) := by
  have hcs : U' cs := by
    rcases C.st with h | h
    · exact (hU _).mpr (Or.inl h)
    · rw [h]; exact (hU _).mpr (Or.inr F.hU)
  refine ⟨fun h => ((hU _).mp h).elim hfU hfr, fun h => ((hU _).mp h).elim C.nc hcr, hfc, Or.inl hcs, ?_, fun L => ?_, ?_, ?_⟩
  · intro u v hu h
    rcases (hU u).mp hu with hu | hu
    · rcases C.cl u v hu ((he u v hu).mp h) with h | h | h
      · exact Or.inl ((hU v).mpr (Or.inl h))
      · rw [h]; exact Or.inl ((hU _).mpr (Or.inr F.hU))
      · exact Or.inr (Or.inr h)
    · rcases (her u v hu).mp h with h | ⟨_, h⟩ | ⟨_, h⟩
      · exact Or.inl ((hU v).mpr (Or.inr (F.cl u v hu h)))
      · exact Or.inr (Or.inr h)
      · exact Or.inr (Or.inl h)
  · obtain ⟨Dc, c1, c2, c3, c4⟩ := C.so (rl_or Rr L)
    obtain ⟨Dr, r1, r2, r3⟩ := F.so
    refine ⟨fun u i j => (U u ∧ Dc u i j) ∨ (Ur u ∧ (Dr u i j ∨ (u = rh ∧ L i j))) ∨ (u = ce ∧ i = j) ∨ (u = f ∧ L i j), ?_, ?_, ?_, ?_⟩
    · intro i j h
      rcases h with ⟨_, h⟩ | ⟨h0, h⟩ | ⟨h, _⟩ | ⟨h, _⟩
      · rcases c1 i j h with h | h | h
        · exact Or.inl (Or.inl h)
        · exact Or.inl (Or.inr h)
        · exact Or.inr h
      · have hcr' : cs = rh := by
          rcases C.st with h | h
          · exact (hd _ h h0).elim
          · exact h
        rcases h with h | ⟨_, h⟩
        · rw [hcr'] at h; exact Or.inl (Or.inr (r1 _ _ h))
        · exact Or.inr h
      · rcases C.st with h1 | h1
        · exact (C.nc (h ▸ h1)).elim
        · exact (C.ne (h1.symm.trans h)).elim
      · exact (((hU _).mp hcs).elim (fun z => hfU (h ▸ z)) (fun z => hfr (h ▸ z))).elim
    · intro i; exact Or.inr (Or.inr (Or.inl ⟨rfl, rfl⟩))
    · intro i j h; exact Or.inr (Or.inr (Or.inr ⟨rfl, h⟩))
    · intro u v i k j hu h hlb hD
      rcases (hU u).mp hu with hu | hu
      · refine Or.inl ⟨hu, ?_⟩
        have h' := (he u v hu).mp h
        rcases C.cl u v hu h' with hv | hv | hv
        · rcases hD with ⟨_, x⟩ | ⟨x, _⟩ | ⟨x, _⟩ | ⟨x, _⟩
          · exact c4 u v i k j hu h' hlb x
          · exact (hd _ hv x).elim
          · exact (C.nc (x ▸ hv)).elim
          · exact (hfU (x ▸ hv)).elim
        · subst hv
          refine c4 u v i k j hu h' hlb (c3 _ _ ?_)
          rcases hD with ⟨x, _⟩ | ⟨_, x | ⟨_, x⟩⟩ | ⟨x, _⟩ | ⟨x, _⟩
          · exact (C.nr x).elim
          · exact Or.inl (r1 _ _ x)
          · exact Or.inr x
          · exact (C.ne x).elim
          · exact (hfr (x ▸ F.hU)).elim
        · subst hv
          rcases hD with ⟨x, _⟩ | ⟨x, _⟩ | ⟨_, x⟩ | ⟨x, _⟩
          · exact (C.nc x).elim
          · exact (hcr x).elim
          · subst x; exact c4 u v i k k hu h' hlb (c2 k)
          · exact (hfc x.symm).elim
      · refine Or.inr (Or.inl ⟨hu, ?_⟩)
        rcases (her u v hu).mp h with h | ⟨p, q⟩ | ⟨p, q⟩
        · have hv := F.cl u v hu h
          have hnr := hno u v hu h
          rcases hD with ⟨x, _⟩ | ⟨_, x | ⟨x, _⟩⟩ | ⟨x, _⟩ | ⟨x, _⟩
          · exact (hd _ x hv).elim
          · exact Or.inl (r3 u v i k j hu h hlb x)
          · exact (hnr x).elim
          · exact (hcr (x ▸ hv)).elim
          · exact (hfr (x ▸ hv)).elim
        · subst p; subst q
          rcases hD with ⟨x, _⟩ | ⟨x, _⟩ | ⟨_, x⟩ | ⟨x, _⟩
          · exact (C.nc x).elim
          · exact (hcr x).elim
          · subst x; exact Or.inl (r2 _ _ hlb)
          · exact (hfc x.symm).elim
        · subst p; subst q
          rw [hl] at hlb; cases hlb
          rcases hD with ⟨x, _⟩ | ⟨x, _⟩ | ⟨x, _⟩ | ⟨_, x⟩
          · exact (hfU x).elim
          · exact (hfr x).elim
          · exact (hfc x).elim
          · exact Or.inr ⟨rfl, x⟩
  · have hsub : ∀ u v, (U u ∧ e u v) → (U' u ∧ e' u v) := fun u v h => ⟨(hU _).mpr (Or.inl h.1), (he u v h.1).mpr h.2⟩
    rintro i j (r | r)
    · exact (C.co i j r).sub hsub (fun _ _ _ _ _ h => h)
    · obtain ⟨k, p, l⟩ := F.co i j r
      have q : Pa (fun u v => U' u ∧ e' u v) lab rh i t k := p.mono F.cl (fun u v hu h => ⟨(hU _).mpr (Or.inr hu), (her u v hu).mpr (Or.inl h)⟩) (fun _ _ _ _ h => h) F.hU
      exact (((C.cr i).sub hsub (fun _ _ _ _ _ h => h)).trans q).snoc ⟨(hU _).mpr (Or.inr F.tU), (her _ _ F.tU).mpr (Or.inr (Or.inl ⟨rfl, rfl⟩))⟩ l
  · intro i
    have hsub : ∀ u v, (U u ∧ e u v) → (U' u ∧ e' u v) := fun u v h => ⟨(hU _).mpr (Or.inl h.1), (he u v h.1).mpr h.2⟩
    exact ((C.cr i).sub hsub (fun _ _ _ _ _ h => h)).snoc ⟨(hU _).mpr (Or.inr F.hU), (her _ _ F.hU).mpr (Or.inr (Or.inr ⟨rfl, rfl⟩))⟩ (by rw [hl]; rfl)
/-- the open row is complete, and the choice with it -/
theorem Ch.close {e e' er : Nat → Nat → Prop} {lab : Nat → Rl} {U Ur U' : Nat → Prop} {cs rh ce t : Nat} {Rc Rr : Rl} (C : Ch e lab U cs rh ce Rc) (F : Fr er lab Ur rh t Rr)
    (hd : ∀ u, U u → ¬ Ur u) (hcr : ¬ Ur ce) (hl : lab ce = rl_id) (hU : ∀ u, U' u ↔ U u ∨ Ur u ∨ u = ce)
    (he : ∀ u v, U u → (e' u v ↔ e u v)) (her : ∀ u v, Ur u → (e' u v ↔ er u v ∨ (u = t ∧ v = ce))) (hec : ∀ v, ¬ e' ce v) : Fr e' lab U' cs ce (rl_or Rc Rr) := by
  have hUc : U' ce := (hU _).mpr (Or.inr (Or.inr rfl))
  have hUr : U' rh := (hU _).mpr (Or.inr (Or.inl F.hU))
  have hcs : U' cs := by
    rcases C.st with h | h
    · exact (hU _).mpr (Or.inl h)
    · rw [h]; exact hUr
  have hsub : ∀ u v, (U u ∧ e u v) → e' u v := fun u v h => (he u v h.1).mpr h.2
  refine ⟨hcs, hUc, ?_, ?_, ?_⟩
  · intro u v hu h
    rcases (hU u).mp hu with hu | hu | hu
    · rcases C.cl u v hu ((he u v hu).mp h) with h | h | h
      · exact (hU v).mpr (Or.inl h)
      · rw [h]; exact hUr
      · rw [h]; exact hUc
    · rcases (her u v hu).mp h with h | ⟨_, h⟩
      · exact (hU v).mpr (Or.inr (Or.inl (F.cl u v hu h)))
      · rw [h]; exact hUc
    · rw [hu] at h; exact (hec v h).elim
  · obtain ⟨Dc, c1, c2, c3, c4⟩ := C.so Rr
    obtain ⟨Dr, r1, r2, r3⟩ := F.so
    refine ⟨fun u i j => (U u ∧ Dc u i j) ∨ (Ur u ∧ Dr u i j) ∨ (u = ce ∧ i = j), ?_, ?_, ?_⟩
    · intro i j h
      rcases h with ⟨_, h⟩ | ⟨h0, h⟩ | ⟨h, _⟩
      · exact c1 i j h
      · have hcr' : cs = rh := by
          rcases C.st with h | h
          · exact (hd _ h h0).elim
          · exact h
        rw [hcr'] at h; exact Or.inr (r1 _ _ h)
      · rcases C.st with h1 | h1
        · exact (C.nc (h ▸ h1)).elim
        · exact (C.ne (h1.symm.trans h)).elim
    · intro i j h; rw [hl] at h; exact Or.inr (Or.inr ⟨rfl, h⟩)
    · intro u v i k j hu h hlb hD
      rcases (hU u).mp hu with hu | hu | hu
      · refine Or.inl ⟨hu, ?_⟩
        have h' := (he u v hu).mp h
        rcases C.cl u v hu h' with hv | hv | hv
        · rcases hD with ⟨_, x⟩ | ⟨x, _⟩ | ⟨x, _⟩
          · exact c4 u v i k j hu h' hlb x
          · exact (hd _ hv x).elim
          · exact (C.nc (x ▸ hv)).elim
        · subst hv
          refine c4 u v i k j hu h' hlb (c3 _ _ ?_)
          rcases hD with ⟨x, _⟩ | ⟨_, x⟩ | ⟨x, _⟩
          · exact (C.nr x).elim
          · exact r1 _ _ x
          · exact (C.ne x).elim
        · subst hv
          rcases hD with ⟨x, _⟩ | ⟨x, _⟩ | ⟨_, x⟩
          · exact (C.nc x).elim
          · exact (hcr x).elim
          · subst x; exact c4 u v i k k hu h' hlb (c2 k)
      · refine Or.inr (Or.inl ⟨hu, ?_⟩)
        rcases (her u v hu).mp h with h | ⟨p, q⟩
        · have hv := F.cl u v hu h
          rcases hD with ⟨x, _⟩ | ⟨_, x⟩ | ⟨x, _⟩
          · exact (hd _ x hv).elim
          · exact r3 u v i k j hu h hlb x
          · exact (hcr (x ▸ hv)).elim
        · subst p; subst q
          rcases hD with ⟨x, _⟩ | ⟨x, _⟩ | ⟨_, x⟩
          · exact (C.nc x).elim
          · exact (hcr x).elim
          · subst x; exact r2 _ _ hlb
      · rw [hu] at h; exact (hec v h).elim
  · rintro i j (r | r)
    · exact ⟨j, (C.co i j r).sub hsub (fun _ _ _ _ _ h => h), by rw [hl]; rfl⟩
    · obtain ⟨k, p, l⟩ := F.co i j r
      have q : Pa e' lab rh i t k := p.mono F.cl (fun u v hu h => (her u v hu).mpr (Or.inl h)) (fun _ _ _ _ h => h) F.hU
      exact ⟨j, (((C.cr i).sub hsub (fun _ _ _ _ _ h => h)).trans q).snoc ((her _ _ F.tU).mpr (Or.inr ⟨rfl, rfl⟩)) l, by rw [hl]; rfl⟩

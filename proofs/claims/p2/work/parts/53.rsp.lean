/-- the reference's present text -/
abbrev MTxt (I : MI) (A : MA) (tn : Nat) (tx : Nat → Int32) (ps : Nat) : Prop := (I 4 = Int32.ofNat ps) ∧ (ps < 40) ∧ (A 6 ps = Int32.ofNat tn) ∧ (∀ i, i < tn → A 5 (160 * ps + i) = tx i) ∧ (Txt tn tx)
theorem MTxt.p {I : MI} {A : MA} {tn : Nat} {tx : Nat → Int32} {ps : Nat} (h_ : MTxt I A tn tx ps) : I 4 = Int32.ofNat ps := h_.1
theorem MTxt.pb {I : MI} {A : MA} {tn : Nat} {tx : Nat → Int32} {ps : Nat} (h_ : MTxt I A tn tx ps) : ps < 40 := h_.2.1
theorem MTxt.l {I : MI} {A : MA} {tn : Nat} {tx : Nat → Int32} {ps : Nat} (h_ : MTxt I A tn tx ps) : A 6 ps = Int32.ofNat tn := h_.2.2.1
theorem MTxt.c {I : MI} {A : MA} {tn : Nat} {tx : Nat → Int32} {ps : Nat} (h_ : MTxt I A tn tx ps) : ∀ i, i < tn → A 5 (160 * ps + i) = tx i := h_.2.2.2.1
theorem MTxt.t {I : MI} {A : MA} {tn : Nat} {tx : Nat → Int32} {ps : Nat} (h_ : MTxt I A tn tx ps) : Txt tn tx := h_.2.2.2.2
theorem MTxt.fr {I I' : MI} {A A' : MA} {tn : Nat} {tx : Nat → Int32} {ps : Nat} (h : MTxt I A tn tx ps) (h4 : I' 4 = I 4) (h5 : A' 5 = A 5) (h6 : A' 6 = A 6) : MTxt I' A' tn tx ps := ⟨by rw [h4]; exact h.p, h.pb, by rw [h6]; exact h.l, fun i hi => by rw [h5]; exact h.c i hi, h.t⟩
theorem B_len {I : MI} {A : MA} {tn : Nat} {tx : Nat → Int32} {ps : Nat} (h : MTxt I A tn tx ps) : f_M_textLength I A = some (Int32.ofNat tn, I, A) := by
  have hp := h.pb
  have i40 : wk_inb (Int32.ofNat ps) 40 = true := (pn_inb (by omega)).mpr hp
  simp only [f_M_textLength, h.p, i40, if_true, pn_nat (show ps < 2147483648 by omega), h.l]
theorem B_char {I : MI} {A : MA} {tn : Nat} {tx : Nat → Int32} {ps i : Nat} (h : MTxt I A tn tx ps) (hi : i < tn) : f_M_charAt I A (Int32.ofNat i) = some (tx i, I, A) := by
  have hp := h.pb
  have ht := h.t.nb
  have e : (160 * Int32.ofNat ps) + Int32.ofNat i = Int32.ofNat (160 * ps + i) := by
    rw [show (160 : Int32) = Int32.ofNat 160 from rfl, pn_mul, pn_add]
  obtain ⟨c, hc, ec⟩ := h.t.ch i hi
  have i64 : wk_inb (Int32.ofNat (160 * ps + i)) 6400 = true := (pn_inb (by omega)).mpr (by omega)
  simp only [f_M_charAt, h.p, e, i64, if_true, pn_nat (show 160 * ps + i < 2147483648 by omega), h.c i hi, ec, nar_ch hc]
/-- the reference's automaton does not speak of the sets that it walks with -/
theorem RDone.frame {tn : Nat} {tx : Nat → Int32} {I I' : MI} {A A' : MA} {s : Nat → Nat} {n : Nat} {on tw : Nat → Option Nat} {lab : Nat → Rl} {fs ls : Nat} {R : Rl} (h : RDone tn tx I A s n on tw lab fs ls R) (i17 : I' 17 = I 17) (i23 : I' 23 = I 23) (i24 : I' 24 = I 24) (ha : ∀ j, 16 ≤ j → j ≤ 22 → A' j = A j) : RDone tn tx I' A' s n on tw lab fs ls R :=
  ⟨by rw [i17]; exact h.hn, h.hnb, by rw [ha 21 (by omega) (by omega)]; exact h.hon, by rw [ha 22 (by omega) (by omega)]; exact h.htw, by rw [ha 18 (by omega) (by omega), ha 19 (by omega) (by omega), ha 20 (by omega) (by omega)]; exact h.hlab, by rw [i23]; exact h.hfs, by rw [i24]; exact h.hls, h.fr, h.hid, by rw [ha 18 (by omega) (by omega)]; exact h.hof, by rw [ha 18 (by omega) (by omega), ha 19 (by omega) (by omega), ha 20 (by omega) (by omega)]; exact h.hse, by rw [ha 18 (by omega) (by omega)]; exact h.hoo, by rw [ha 16 (by omega) (by omega)]; exact h.hpat⟩
theorem rLab_at {tn : Nat} {tx : Nat → Int32} {s : Nat → Nat} (k a b : Int32) (p : Nat) : rLab tn tx s k a b p p ↔ (k = 0 ∨ (k = 4 ∧ tx_beg tx p) ∨ (k = 5 ∧ tx_end tn tx p)) := by
  unfold rLab
  by_cases q0 : k = 0
  · rw [if_pos q0]; exact ⟨fun _ => Or.inl q0, fun _ => rfl⟩
  rw [if_neg q0]
  by_cases q1 : k = 1
  · rw [if_pos q1]
    constructor
    · rintro ⟨z, _⟩; omega
    · rintro (z | ⟨z, _⟩ | ⟨z, _⟩) <;> (rw [q1] at z; exact absurd z (by decide))
  rw [if_neg q1]
  by_cases q2 : k = 2
  · rw [if_pos q2]
    constructor
    · rintro ⟨z, _⟩; omega
    · rintro (z | ⟨z, _⟩ | ⟨z, _⟩) <;> (rw [q2] at z; exact absurd z (by decide))
  rw [if_neg q2]
  by_cases q3 : k = 3
  · rw [if_pos q3]
    constructor
    · rintro ⟨z, _⟩; omega
    · rintro (z | ⟨z, _⟩ | ⟨z, _⟩) <;> (rw [q3] at z; exact absurd z (by decide))
  rw [if_neg q3]
  by_cases q4 : k = 4
  · rw [if_pos q4]
    constructor
    · rintro ⟨_, z⟩; exact Or.inr (Or.inl ⟨q4, z⟩)
    · rintro (z | ⟨_, z⟩ | ⟨z, _⟩)
      · exact (q0 z).elim
      · exact ⟨rfl, z⟩
      · rw [q4] at z; exact absurd z (by decide)
  rw [if_neg q4]
  by_cases q5 : k = 5
  · rw [if_pos q5]
    constructor
    · rintro ⟨_, z⟩; exact Or.inr (Or.inr ⟨q5, z⟩)
    · rintro (z | ⟨z, _⟩ | ⟨_, z⟩)
      · exact (q0 z).elim
      · exact (q4 z).elim
      · exact ⟨rfl, z⟩
  rw [if_neg q5]
  constructor
  · intro z; exact z.elim
  · rintro (z | ⟨z, _⟩ | ⟨z, _⟩)
    · exact (q0 z).elim
    · exact (q4 z).elim
    · exact (q5 z).elim
/-- may a node be passed at a place -/
theorem B_passes {tn : Nat} {tx : Nat → Int32} {s : Nat → Nat} {I : MI} {A : MA} {ps : Nat} (h : MTxt I A tn tx ps) {u p : Nat} (hu : u < 160) (hp : p ≤ tn) : ∃ b, f_M_passes I A (Int32.ofNat u) (Int32.ofNat p) = some (b, I, A) ∧ (b ≠ 0 ↔ rLab tn tx s (A 18 u) (A 19 u) (A 20 u) p p) := by
  have ht := h.t.nb
  have h10 : ¬ (1 : Int32) = 0 := by decide
  have n1 : (Int32.ofNat u).toNatClampNeg = u := pn_nat (by omega)
  have f45 : ∀ (X : Nat → Int32) (s0 : Int32), X 1 = Int32.ofNat u → (X 3 ≠ 0 ↔ tx_beg tx p) → (s0 ≠ 0 ↔ tx_end tn tx p) → ∃ b, f_M_passes_45 I A X s0 = some (b, I, A) ∧ (b ≠ 0 ↔ rLab tn tx s (A 18 u) (A 19 u) (A 20 u) p p) := by
    intro X s0 x1 x3 hs
    have yes : ∃ b, f_M_passes_85 I A (upd X 4 s0) = some (b, I, A) ∧ b ≠ 0 := ⟨1, by simp only [f_M_passes_85, f_M_passes_90, nar_bool1, if_true], h10⟩
    have no : ∃ b, f_M_passes_89 I A (upd X 4 s0) = some (b, I, A) ∧ b = 0 := ⟨0, by simp only [f_M_passes_89, f_M_passes_90, nar_bool0, if_true], rfl⟩
    have y1 : upd X 4 s0 1 = Int32.ofNat u := by rw [upd_ne _ _ (by decide)]; exact x1
    have y4 : upd X 4 s0 4 = s0 := upd_self _ _ _
    have f70 : ¬ A 18 u = 0 → (A 18 u = 4 → ¬ tx_beg tx p) → ∃ b, f_M_passes_70 I A (upd X 4 s0) = some (b, I, A) ∧ (b ≠ 0 ↔ rLab tn tx s (A 18 u) (A 19 u) (A 20 u) p p) := by
      intro k0 k4
      unfold f_M_passes_70
      rw [y1, if_pos (pn_i160 hu), n1, y4]
      by_cases q5 : A 18 u = 5
      · rw [if_pos q5]
        by_cases qs : s0 = 0
        · rw [if_pos qs]
          obtain ⟨b, e, hb⟩ := no
          refine ⟨b, e, ?_⟩
          rw [rLab_at]
          constructor
          · intro z; exact (z hb).elim
          · rintro (z | ⟨z, _⟩ | ⟨_, z⟩)
            · exact (k0 z).elim
            · rw [q5] at z; exact absurd z (by decide)
            · exact (hs.mpr z qs).elim
        · rw [if_neg qs]
          obtain ⟨b, e, hb⟩ := yes
          refine ⟨b, e, fun _ => (rLab_at _ _ _ _).mpr (Or.inr (Or.inr ⟨q5, hs.mp qs⟩)), fun _ => hb⟩
      · rw [if_neg q5]
        obtain ⟨b, e, hb⟩ := no
        refine ⟨b, e, ?_⟩
        rw [rLab_at]
        constructor
        · intro z; exact (z hb).elim
        · rintro (z | ⟨z, z2⟩ | ⟨z, _⟩)
          · exact (k0 z).elim
          · exact (k4 z z2).elim
          · exact (q5 z).elim
    unfold f_M_passes_45
    rw [x1, if_pos (pn_i160 hu), n1]
    by_cases q0 : A 18 u = 0
    · rw [if_pos q0]
      obtain ⟨b, e, hb⟩ := yes
      exact ⟨b, e, fun _ => (rLab_at _ _ _ _).mpr (Or.inl q0), fun _ => hb⟩
    · rw [if_neg q0, if_pos (pn_i160 hu)]
      by_cases q4 : A 18 u = 4
      · rw [if_pos q4]
        by_cases q3 : X 3 = 0
        · rw [if_pos q3]; exact f70 q0 (fun _ z => x3.mpr z q3)
        · rw [if_neg q3]
          obtain ⟨b, e, hb⟩ := yes
          exact ⟨b, e, fun _ => (rLab_at _ _ _ _).mpr (Or.inr (Or.inl ⟨q4, x3.mp q3⟩)), fun _ => hb⟩
      · rw [if_neg q4]; exact f70 q0 (fun z => (q4 z).elim)
  have f21 : ∀ (X : Nat → Int32) (s0 : Int32), X 1 = Int32.ofNat u → X 2 = Int32.ofNat p → (s0 ≠ 0 ↔ tx_beg tx p) → ∃ b, f_M_passes_21 I A X s0 = some (b, I, A) ∧ (b ≠ 0 ↔ rLab tn tx s (A 18 u) (A 19 u) (A 20 u) p p) := by
    intro X s0 x1 x2 hs
    unfold f_M_passes_21 f_M_passes_40
    rw [B_len h]
    simp only [Option.bind_some]
    rw [x2]
    have z1 : upd X 3 s0 1 = Int32.ofNat u := by rw [upd_ne _ _ (by decide)]; exact x1
    have z3 : upd X 3 s0 3 ≠ 0 ↔ tx_beg tx p := by rw [upd_self]; exact hs
    by_cases q : p = tn
    · rw [if_pos ((pn_eq (by omega) (by omega)).mpr q)]
      exact f45 _ 1 z1 z3 ⟨fun _ => Or.inl q, fun _ => h10⟩
    · rw [if_neg (fun z => q ((pn_eq (by omega) (by omega)).mp z)), B_char h (by omega)]
      simp only [Option.bind_some]
      by_cases q2 : tx p = 10
      · rw [if_pos q2]; exact f45 _ 1 z1 z3 ⟨fun _ => Or.inr q2, fun _ => h10⟩
      · rw [if_neg q2]; exact f45 _ 0 z1 z3 ⟨fun z => (z rfl).elim, fun z => (z.elim q q2).elim⟩
  unfold f_M_passes f_M_passes_16
  by_cases q : p = 0
  · rw [if_pos ((pn_eqc (x := 0) 0 rfl (by omega) (by omega)).mpr q)]
    exact f21 _ 1 rfl rfl ⟨fun _ => Or.inl q, fun _ => h10⟩
  · have e1 : Int32.ofNat p - 1 = Int32.ofNat (p - 1) := pn_sub (a := p) (b := 1) (by omega)
    rw [if_neg (fun z => q ((pn_eqc (x := 0) 0 rfl (by omega) (by omega)).mp z)), e1, B_char h (by omega)]
    simp only [Option.bind_some]
    by_cases q2 : tx (p - 1) = 10
    · rw [if_pos q2]; exact f21 _ 1 rfl rfl ⟨fun _ => Or.inr q2, fun _ => h10⟩
    · rw [if_neg q2]; exact f21 _ 0 rfl rfl ⟨fun z => (z rfl).elim, fun z => (z.elim q q2).elim⟩
/-- a node is put into the set -/
theorem B_reach {I : MI} {A : MA} {n : Nat} {x : Int32} {o : Option Nat} (hn : n ≤ 160) (h : nd n x o) : (f_M_reach I A x = some (0, I, A) ∧ ∀ v, o = some v → A 32 v ≠ 0) ∨ (∃ v, o = some v ∧ v < n ∧ A 32 v = 0 ∧ f_M_reach I A x = some (1, I, va_up A 32 (upd (A 32) v 1))) := by
  have h10 : ¬ (1 : Int32) = 0 := by decide
  have e0 : ∀ X : Nat → Int32, f_M_reach_17 I A X = some (0, I, A) := fun X => by
    unfold f_M_reach_17 f_M_reach_18 f_M_reach_30
    rw [if_pos rfl, upd_self, if_pos nar_bool0]
  cases o with
  | none =>
    have e : x = -1 := h
    have hm : (-1 : Int32) < 0 := by decide
    left
    refine ⟨?_, fun v hv => by cases hv⟩
    unfold f_M_reach
    rw [e, if_pos hm]; exact e0 _
  | some v =>
    obtain ⟨hv, e⟩ := h
    have hng : ¬ Int32.ofNat v < 0 := pn_nneg (by omega)
    have n1 : (Int32.ofNat v).toNatClampNeg = v := pn_nat (by omega)
    by_cases q : A 32 v = 0
    · right
      refine ⟨v, rfl, hv, q, ?_⟩
      unfold f_M_reach f_M_reach_18
      rw [e, if_neg hng, if_pos (pn_i160 (show v < 160 by omega)), n1, if_pos q, if_neg h10]
      have x1 : upd (fun _ => (0 : Int32)) 1 (Int32.ofNat v) 1 = Int32.ofNat v := upd_self _ _ _
      rw [x1, if_pos (pn_i160 (show v < 160 by omega)), n1]
      simp only [wk_let, f_M_reach_30, upd_self, nar_bool1, if_true]
    · left
      refine ⟨?_, fun w hw => by cases hw; exact q⟩
      unfold f_M_reach
      rw [e, if_neg hng, if_pos (pn_i160 (show v < 160 by omega)), n1, if_neg q]; exact e0 _

/-- a step keeps the place or goes one on -/
def Prog (lab : Nat → Rl) : Prop := ∀ u i j, lab u i j → j = i ∨ j = i + 1
theorem Pa.le {e : Nat → Nat → Prop} {lab : Nat → Rl} (hP : Prog lab) {u i v j : Nat} (h : Pa e lab u i v j) : i ≤ j := by
  induction h using Pa.ind with
  | nil => exact Nat.le_refl _
  | cons _ b _ ih => rcases hP _ _ _ b with h | h <;> omega
theorem Pa.last {e : Nat → Nat → Prop} {lab : Nat → Rl} (hP : Prog lab) {u i v j : Nat} (h : Pa e lab u i v j) : ∀ k, j = k + 1 → i ≤ k → ∃ a w, Pa e lab u i a k ∧ e a w ∧ lab a k (k + 1) ∧ Pa e lab w (k + 1) v (k + 1) := by
  induction h using Pa.ind with
  | nil u i => intro k h1 h2; omega
  | @cons u i x m w j a b hp ih =>
    intro k h1 h2
    have hm := hp.le hP
    rcases hP _ _ _ b with q | q
    · obtain ⟨a', w', p1, p2, p3, p4⟩ := ih k h1 (by omega)
      exact ⟨a', w', .cons a b p1, p2, p3, p4⟩
    · by_cases e1 : i = k
      · subst e1
        have e2 : m = i + 1 := q
        subst e2
        refine ⟨u, x, .nil _ _, a, b, ?_⟩
        rw [h1] at hp; exact hp
      · obtain ⟨a', w', p1, p2, p3, p4⟩ := ih k h1 (by omega)
        exact ⟨a', w', .cons a b p1, p2, p3, p4⟩
/-- a set that is closed at a place holds all that is reached at this place -/
theorem Pa.closed {e : Nat → Nat → Prop} {lab : Nat → Rl} (hP : Prog lab) {C : Nat → Prop} {p : Nat} (hC : ∀ u v, C u → e u v → lab u p p → C v) {u v i j : Nat} (h : Pa e lab u i v j) (hi : i = p) (hj : j = p) (hu : C u) : C v := by
  induction h using Pa.ind with
  | nil => exact hu
  | @cons u i x m w j a b hp ih =>
    have hm := hp.le hP
    have : m = p := by rcases hP _ _ _ b with q | q <;> omega
    subst this
    subst hi
    exact ih rfl hj (hC u x hu a b)
/-- from what lives at a place to what lives at the next one -/
theorem Pa.next {e : Nat → Nat → Prop} {lab : Nat → Rl} (hP : Prog lab) {h f k v : Nat} (hf : f ≤ k) : Pa e lab h f v (k + 1) ↔ ∃ w, (∃ a, Pa e lab h f a k ∧ e a w ∧ lab a k (k + 1)) ∧ Pa e lab w (k + 1) v (k + 1) := by
  constructor
  · intro p
    obtain ⟨a, w, p1, p2, p3, p4⟩ := p.last hP k rfl hf
    exact ⟨w, ⟨a, p1, p2, p3⟩, p4⟩
  · rintro ⟨w, ⟨a, p1, p2, p3⟩, p4⟩
    exact (p1.snoc p2 p3).trans p4
/-- the greatest place behind a place to which a relation leads -/
def IsBest (R : Rl) (i j : Nat) : Prop := i < j ∧ R i j ∧ ∀ j', R i j' → j' ≤ j
def NoBest (R : Rl) (i : Nat) : Prop := ∀ j, i < j → ¬ R i j
def BestOut (R : Rl) (i : Nat) (x : Int32) : Prop := (∃ j, x = Int32.ofNat j ∧ j ≤ 160 ∧ IsBest R i j) ∨ (x = -1 ∧ NoBest R i)
/-- how many below n hold -/
def cn (f : Nat → Bool) : Nat → Nat
  | 0 => 0
  | n + 1 => cn f n + (if f n then 1 else 0)
theorem cn_le (f : Nat → Bool) : ∀ n, cn f n ≤ n
  | 0 => Nat.le_refl _
  | n + 1 => by
    have := cn_le f n
    simp only [cn]; split <;> omega
theorem cn_all (f : Nat → Bool) : ∀ n, cn f n = n → ∀ k, k < n → f k = true
  | 0, _, k, hk => by omega
  | n + 1, h, k, hk => by
    have h1 := cn_le f n
    simp only [cn] at h
    by_cases q : f n = true
    · rw [if_pos q] at h
      by_cases e : k = n
      · rw [e]; exact q
      · exact cn_all f n (by omega) k (by omega)
    · rw [if_neg q] at h; omega
theorem cn_congr {f g : Nat → Bool} : ∀ n, (∀ k, k < n → f k = g k) → cn f n = cn g n
  | 0, _ => rfl
  | n + 1, h => by
    simp only [cn]
    rw [cn_congr n (fun k hk => h k (by omega)), h n (by omega)]
theorem cn_one {f g : Nat → Bool} {k : Nat} : ∀ n, k < n → f k = false → g k = true → (∀ j, j ≠ k → g j = f j) → cn g n = cn f n + 1
  | 0, hk, _, _, _ => by omega
  | n + 1, hk, hf, hg, ho => by
    simp only [cn]
    by_cases e : n = k
    · subst e
      rw [hf, hg, cn_congr n (fun j hj => ho j (by omega))]; simp
    · rw [cn_one n (by omega) hf hg ho, ho n e]; omega
theorem cn_zero : ∀ n, cn (fun _ => false) n = 0
  | 0 => rfl
  | n + 1 => by simp only [cn]; rw [cn_zero n]; rfl
/-- the automaton as its arrays hold it -/
theorem cLab_prog (tn : Nat) (tx : Nat → Int32) (k : Int32) (lo hi : Int64) : ∀ i j, cLab tn tx k lo hi i j → j = i ∨ j = i + 1 := by
  intro i j h
  unfold cLab at h
  split at h
  · exact Or.inl h.symm
  · split at h
    · exact Or.inr h.1
    · split at h
      · exact Or.inl h.1.symm
      · split at h
        · exact Or.inl h.1.symm
        · exact h.elim
theorem A_asSet {n : Nat} {x : Int32} {o : Option Nat} (hn : n ≤ 50) (h : nd n x o) : ∃ w, f_A_asSet x = some w ∧ ∀ v, lb w v = decide (o = some v) := by
  cases o with
  | none =>
    have h' : x = -1 := h
    refine ⟨0, ?_, fun v => ?_⟩
    · simp only [f_A_asSet, if_pos h', f_A_asSet_12]
    · rw [lb_zero]; rfl
  | some u =>
    obtain ⟨h1, h2⟩ := h
    have hne : ¬ Int32.ofNat u = -1 := pn_ne1 (by omega)
    refine ⟨(1 : Int64) <<< ((Int32.ofNat u).toInt64 &&& 63), ?_, fun v => ?_⟩
    · simp only [f_A_asSet, h2, if_neg hne, f_A_asSet_12]
    · rw [lb_one (by omega)]
      apply decide_eq_decide.mpr
      constructor
      · intro e; rw [e]
      · intro e; exact (Option.some.inj e).symm
/-- the ways out of a node at a place -/
theorem A_waysOut {tn : Nat} {tx : Nat → Int32} {M : MI} {MB : MA} {L : ML} {n : Nat} {nx ot : Nat → Option Nat} {lab : Nat → Rl} {cs ce : Nat} {R : Rl} (h : CDone tn tx M MB L n nx ot lab cs ce R) {u p : Nat} (hu : u < n) {k2 k3 : Int32} (h2 : k2 ≠ 0 ↔ tx_beg tx p) (h3 : k3 ≠ 0 ↔ tx_end tn tx p) :
    ∃ w, f_A_waysOut M MB L (Int32.ofNat u) k2 k3 = some (w, M, MB, L) ∧ ∀ v, (lb w v = true ↔ cF nx ot u v ∧ lab u p p) := by
  have hnb := h.hnb
  have n1 : (Int32.ofNat u).toNatClampNeg = u := pn_nat (by omega)
  obtain ⟨w1, e1, b1⟩ := A_asSet hnb (h.hnx u hu)
  obtain ⟨w2, e2, b2⟩ := A_asSet hnb (h.hot u hu)
  have hlab := h.hlab u hu
  have hof := h.hof u hu
  have hno : MB 0 u ≠ 0 → ot u = none := fun q => by
    cases ho : ot u with
    | none => rfl
    | some x => exact (q (hof (by rw [ho]; exact fun z => by cases z))).elim
  have hone : ∀ v, ot u = none → (lb w1 v = true ↔ cF nx ot u v) := by
    intro v hv
    rw [b1 v, decide_eq_true_iff]
    constructor
    · exact Or.inl
    · rintro (z | z)
      · exact z
      · rw [hv] at z; cases z
  simp only [f_A_waysOut, pn_i50 (show u < 50 by omega), if_true, n1, e1, e2, Option.bind_some, f_A_waysOut_73, f_A_waysOut_91]
  by_cases q0 : MB 0 u = 0
  · rw [if_pos q0]
    refine ⟨w1 ||| w2, rfl, fun v => ?_⟩
    rw [q0, cLab0] at hlab
    rw [lb_or, b1, b2, hlab, Bool.or_eq_true, decide_eq_true_iff, decide_eq_true_iff]
    exact ⟨fun z => ⟨z, rfl⟩, fun z => z.1⟩
  · rw [if_neg q0]
    by_cases q1 : MB 0 u = 1
    · rw [if_pos q1]
      refine ⟨0, rfl, fun v => ?_⟩
      have e : lab u = tl_con tn tx (c_takes (L 3 u) (L 4 u)) := by rw [hlab, q1]; rfl
      rw [lb_zero, e]
      constructor
      · intro z; cases z
      · rintro ⟨_, z, _⟩; omega
    · rw [if_neg q1]
      by_cases q2 : MB 0 u = 2
      · rw [if_pos q2]
        have e : lab u = tl_beg tx := by rw [hlab, q2]; rfl
        by_cases k : k2 = 0
        · rw [if_pos k]
          refine ⟨0, rfl, fun v => ?_⟩
          rw [lb_zero, e]
          constructor
          · intro z; cases z
          · rintro ⟨_, _, z⟩; exact (h2.mpr z k).elim
        · rw [if_neg k]
          refine ⟨w1, rfl, fun v => ?_⟩
          rw [hone v (hno q0), e]
          exact ⟨fun z => ⟨z, rfl, h2.mp k⟩, fun z => z.1⟩
      · rw [if_neg q2]
        by_cases q3 : MB 0 u = 3
        · rw [if_pos q3]
          have e : lab u = tl_end tn tx := by rw [hlab, q3]; rfl
          by_cases k : k3 = 0
          · rw [if_pos k]
            refine ⟨0, rfl, fun v => ?_⟩
            rw [lb_zero, e]
            constructor
            · intro z; cases z
            · rintro ⟨_, _, z⟩; exact (h3.mpr z k).elim
          · rw [if_neg k]
            refine ⟨w1, rfl, fun v => ?_⟩
            rw [hone v (hno q0), e]
            exact ⟨fun z => ⟨z, rfl, h3.mp k⟩, fun z => z.1⟩
        · rw [if_neg q3]
          refine ⟨0, rfl, fun v => ?_⟩
          have e : lab u = rl_no := by rw [hlab]; unfold cLab; rw [if_neg q0, if_neg q1, if_neg q2, if_neg q3]
          rw [lb_zero, e]
          constructor
          · intro z; cases z
          · rintro ⟨_, z⟩; exact z.elim
theorem lg_zero (x : Int64) : lg_cmp x 0 = 0 ↔ x = 0 := by
  unfold lg_cmp
  by_cases h : x = 0
  · subst h; simp
  · rw [if_neg h]
    constructor
    · intro e; split at e <;> exact absurd e (by decide)
    · intro e; exact (h e).elim
theorem lb_fresh (w r : Int64) {v : Nat} : lb (w &&& (r ^^^ (-1))) v = (lb w v && !lb r v) := by
  by_cases h : v < 64
  · rw [lb_and, lb_not _ h]
  · rw [lb_big _ (by omega), lb_big _ (by omega)]; rfl
/-- the loop that adds what is reached at a place -/
theorem A_spread_go {tn : Nat} {tx : Nat → Int32} {M : MI} {MB : MA} {L : ML} {n : Nat} {nx ot : Nat → Option Nat} {lab : Nat → Rl} {cs ce : Nat} {R : Rl} (h : CDone tn tx M MB L n nx ot lab cs ce R) {p : Nat} {S : Nat → Prop} :
    ∀ (m t fuel : Nat) (X : Nat → Int32) (Y : Nat → Int64), n - t ≤ m → m < fuel → t ≤ n → (X 5 ≠ 0 ↔ tx_beg tx p) → (X 6 ≠ 0 ↔ tx_end tn tx p) → X 11 = Int32.ofNat t → (∀ v, lb (Y 7) v = true → v < n ∧ ∃ u, S u ∧ Pa (cF nx ot) lab u p v p) → (∀ v, lb (Y 9) v = true → lb (Y 7) v = true) →
      (∀ u v, lb (Y 7) u = true → lb (Y 9) u = false → cF nx ot u v → lab u p p → lb (Y 7) v = true) → (∀ u, S u → lb (Y 7) u = true) → cn (fun k => lb (Y 7) k && !lb (Y 9) k) n = t →
      ∃ w, f_A_spread_go tn tx fuel 55 M MB L X Y = some (w, M, MB, L) ∧ (∀ v, lb w v = true → v < n ∧ ∃ u, S u ∧ Pa (cF nx ot) lab u p v p) ∧ (∀ u v, lb w u = true → cF nx ot u v → lab u p p → lb w v = true) ∧ (∀ u, S u → lb w u = true) := by
  have hnb := h.hnb
  intro m
  induction m with
  | zero =>
    intro t fuel X Y hm hf ht hs he h11 h7 h9 hcl hS hcn
    obtain ⟨g, rfl⟩ : ∃ g, fuel = g + 1 := ⟨fuel - 1, by omega⟩
    have hall := cn_all _ n (by rw [hcn]; omega)
    simp only [f_A_spread_go, f_A_spread_55, if_true, h.hn, h11, f_A_spread_126]
    rw [if_pos ((pn_le (by omega) (by omega)).mpr (by omega))]
    refine ⟨Y 7, rfl, h7, fun u v hu => hcl u v hu ?_, hS⟩
    have := hall u (h7 u hu).1
    cases hz : lb (Y 9) u with
    | false => rfl
    | true => rw [hz] at this; simp at this
  | succ m ih =>
    intro t fuel X Y hm hf ht hs he h11 h7 h9 hcl hS hcn
    obtain ⟨g, rfl⟩ : ∃ g, fuel = g + 1 := ⟨fuel - 1, by omega⟩
    simp only [f_A_spread_go, f_A_spread_55, if_true, h.hn, h11, f_A_spread_126]
    by_cases q : n ≤ t
    · have hall := cn_all _ n (by rw [hcn]; omega)
      rw [if_pos ((pn_le (by omega) (by omega)).mpr q)]
      refine ⟨Y 7, rfl, h7, fun u v hu => hcl u v hu ?_, hS⟩
      have := hall u (h7 u hu).1
      cases hz : lb (Y 9) u with
      | false => rfl
      | true => rw [hz] at this; simp at this
    · rw [if_neg (fun z => q ((pn_le (by omega) (by omega)).mp z))]
      by_cases q0 : Y 9 = 0
      · rw [if_pos ((lg_zero _).mpr q0)]
        exact ⟨Y 7, rfl, h7, fun u v hu => hcl u v hu (by rw [q0, lb_zero]), hS⟩
      · rw [if_neg (fun z => q0 ((lg_zero _).mp z))]
        obtain ⟨k, hk64, hk1, hk2, hk3⟩ := A_ntz q0
        have hkr := h9 k hk1
        have hkn := (h7 k hkr).1
        obtain ⟨w, hw, bw⟩ := A_waysOut h hkn hs he
        rw [hk3]
        simp only [Option.bind_some, hw]
        refine ih (t + 1) g _ _ (by omega) (by omega) (by omega) ?_ ?_ ?_ ?_ ?_ ?_ ?_ ?_
        · rw [upd_ne _ _ (by decide)]; exact hs
        · rw [upd_ne _ _ (by decide)]; exact he
        · rw [upd_self]; exact pn_succ _
        · intro v hv
          rw [vpl_ne _ _ (by decide), vpl_self, lb_or, lb_fresh, Bool.or_eq_true] at hv
          rcases hv with hv | hv
          · exact h7 v hv
          · have hwv : lb w v = true := by simp at hv; exact hv.1
            obtain ⟨he1, hl1⟩ := (bw v).mp hwv
            obtain ⟨_, u, hu, hp⟩ := h7 k hkr
            exact ⟨h.fr.cl k v hkn he1, u, hu, hp.snoc he1 hl1⟩
        · intro v hv
          rw [vpl_self, lb_or, lb_drop hk1 hk2, Bool.or_eq_true] at hv
          rw [vpl_ne _ _ (by decide), vpl_self, lb_or, Bool.or_eq_true]
          rcases hv with hv | hv
          · simp at hv; exact Or.inl (h9 v hv.1)
          · exact Or.inr hv
        · intro u v hu hu9 he1 hl1
          rw [vpl_ne _ _ (by decide), vpl_self, lb_or, lb_fresh, Bool.or_eq_true] at hu ⊢
          rw [vpl_self, lb_or, lb_drop hk1 hk2, lb_fresh, Bool.or_eq_false_iff] at hu9
          have hur : lb (Y 7) u = true := by
            rcases hu with hu | hu
            · exact hu
            · rw [hu9.2] at hu; cases hu
          by_cases e : u = k
          · subst e
            have hwv := (bw v).mpr ⟨he1, hl1⟩
            cases hv : lb (Y 7) v with
            | true => exact Or.inl rfl
            | false => right; rw [hwv]; rfl
          · left
            refine hcl u v hur ?_ he1 hl1
            have := hu9.1
            simp [e] at this
            exact this
        · intro u hu
          rw [vpl_ne _ _ (by decide), vpl_self, lb_or, hS u hu, Bool.true_or]
        · rw [← hcn]
          refine cn_one (k := k) n hkn (by rw [hk1, hkr]; rfl) ?_ (fun j hj => ?_)
          · rw [vpl_ne _ _ (by decide), vpl_self, vpl_self, lb_or, lb_or, lb_drop hk1 hk2, lb_fresh, hkr]
            simp
          · rw [vpl_ne _ _ (by decide), vpl_self, vpl_self, lb_or, lb_or, lb_drop hk1 hk2, lb_fresh]
            have h9j := h9 j
            cases ha : lb (Y 7) j <;> cases hb : lb (Y 9) j <;> cases hc : lb w j <;> simp_all
/-- all that is reached from a set at a place -/
theorem A_spread {tn : Nat} {tx : Nat → Int32} (hT : Txt tn tx) {M : MI} {MB : MA} {L : ML} {n : Nat} {nx ot : Nat → Option Nat} {lab : Nat → Rl} {cs ce : Nat} {R : Rl} (h : CDone tn tx M MB L n nx ot lab cs ce R) (hP : Prog lab) {p : Nat} (hp : p ≤ tn) {x : Int64} (hx : ∀ v, lb x v = true → v < n) :
    ∃ w, f_A_spread tn tx M MB L x (Int32.ofNat p) = some (w, M, MB, L) ∧ ∀ v, (lb w v = true ↔ ∃ u, lb x u = true ∧ Pa (cF nx ot) lab u p v p) := by
  have hnb := h.hnb
  have hT1 := hT.nb
  have fu := wk_FUEL_big
  have go : ∀ (X : Nat → Int32) (Y : Nat → Int64), (X 5 ≠ 0 ↔ tx_beg tx p) → (X 6 ≠ 0 ↔ tx_end tn tx p) → X 11 = Int32.ofNat 0 → Y 7 = x → Y 9 = x → ∃ w, f_A_spread_go tn tx wk_FUEL 55 M MB L X Y = some (w, M, MB, L) ∧ ∀ v, (lb w v = true ↔ ∃ u, lb x u = true ∧ Pa (cF nx ot) lab u p v p) := by
    intro X Y h5 h6 h11 y7 y9
    obtain ⟨w, hw, a1, a2, a3⟩ := A_spread_go h (p := p) (S := fun u => lb x u = true) n 0 wk_FUEL X Y (by omega) (by omega) (by omega) h5 h6 h11 (fun v hv => by rw [y7] at hv; exact ⟨hx v hv, v, hv, .nil _ _⟩) (fun v hv => by rw [y7]; rw [y9] at hv; exact hv)
      (fun u v hu hu9 => by rw [y7] at hu; rw [y9, hu] at hu9; cases hu9) (fun u hu => by rw [y7]; exact hu) (by rw [y7, y9, ← cn_zero n]; exact cn_congr n (fun k _ => by cases lb x k <;> rfl))
    refine ⟨w, hw, fun v => ⟨fun hv => (a1 v hv).2, ?_⟩⟩
    rintro ⟨u, hu, hpa⟩
    exact Pa.closed (C := fun v => lb w v = true) hP (fun u v hu he hl => a2 u v hu he hl) hpa rfl rfl (a3 u hu)
  have h10 : ¬ (1 : Int32) = 0 := by decide
  have f44 : ∀ (X : Nat → Int32) (s0 : Int32), (X 5 ≠ 0 ↔ tx_beg tx p) → (s0 ≠ 0 ↔ tx_end tn tx p) → ∃ w, f_A_spread_44 tn tx (f_A_spread_go tn tx wk_FUEL) M MB L X (vp_updL (fun _ => 0) 1 x) s0 = some (w, M, MB, L) ∧ ∀ v, (lb w v = true ↔ ∃ u, lb x u = true ∧ Pa (cF nx ot) lab u p v p) := by
    intro X s0 h5 h6
    unfold f_A_spread_44
    exact go _ _ (by rw [upd_ne _ _ (by decide), upd_ne _ _ (by decide)]; exact h5) (by rw [upd_ne _ _ (by decide), upd_self]; exact h6) (upd_self _ _ _) (by rw [vpl_ne _ _ (by decide), vpl_self]; rfl) (by rw [vpl_self]; rfl)
  have f21 : ∀ (X : Nat → Int32) (s0 : Int32), X 4 = Int32.ofNat p → (s0 ≠ 0 ↔ tx_beg tx p) → ∃ w, f_A_spread_21 tn tx (f_A_spread_go tn tx wk_FUEL) M MB L X (vp_updL (fun _ => 0) 1 x) s0 = some (w, M, MB, L) ∧ ∀ v, (lb w v = true ↔ ∃ u, lb x u = true ∧ Pa (cF nx ot) lab u p v p) := by
    intro X s0 h4 h5
    unfold f_A_spread_21
    rw [h4]
    by_cases q : p = tn
    · rw [if_pos ((pn_eq (by omega) (by omega)).mpr q)]
      exact f44 _ 1 (by rw [upd_self]; exact h5) ⟨fun _ => Or.inl q, fun _ => h10⟩
    · rw [if_neg (fun z => q ((pn_eq (by omega) (by omega)).mp z)), if_pos ((pn_inb (by omega)).mpr (by omega)), pn_nat (show p < 2147483648 by omega)]
      by_cases q2 : tx p = 10
      · rw [if_pos q2]
        exact f44 _ 1 (by rw [upd_self]; exact h5) ⟨fun _ => Or.inr q2, fun _ => h10⟩
      · rw [if_neg q2]
        exact f44 _ 0 (by rw [upd_self]; exact h5) ⟨fun z => (z rfl).elim, fun z => (z.elim q q2).elim⟩
  unfold f_A_spread f_A_spread_e f_A_spread_16
  by_cases q : p = 0
  · rw [if_pos ((pn_eqc (x := 0) 0 rfl (by omega) (by omega)).mpr q)]
    exact f21 _ 1 (upd_self _ _ _) ⟨fun _ => Or.inl q, fun _ => h10⟩
  · rw [if_neg (fun z => q ((pn_eqc (x := 0) 0 rfl (by omega) (by omega)).mp z))]
    have e1 : Int32.ofNat p - 1 = Int32.ofNat (p - 1) := pn_sub (a := p) (b := 1) (by omega)
    rw [e1, if_pos ((pn_inb (by omega)).mpr (by omega)), pn_nat (show p - 1 < 2147483648 by omega)]
    by_cases q2 : tx (p - 1) = 10
    · rw [if_pos q2]
      exact f21 _ 1 (upd_self _ _ _) ⟨fun _ => Or.inr q2, fun _ => h10⟩
    · rw [if_neg q2]
      exact f21 _ 0 (upd_self _ _ _) ⟨fun z => (z rfl).elim, fun z => (z.elim q q2).elim⟩

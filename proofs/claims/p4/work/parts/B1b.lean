-- 40.mat
/-- a step keeps the place or goes one on -/
def Prog (lab : Nat → Rl) : Prop := ∀ u i j, lab u i j → j = i ∨ j = i + 1
theorem Pa.le {e : Nat → Nat → Prop} {lab : Nat → Rl} (hP : Prog lab) {u i v j : Nat} (h : Pa e lab u i v j) : i ≤ j := by
  induction h using Pa.ind with
  | nil => exact Nat.le_refl _
  | cons _ b _ ih => rcases hP _ _ _ b with h | h <;> omega
theorem Pa.last {e : Nat → Nat → Prop} {lab : Nat → Rl} (hP : Prog lab) {u i v j : Nat} (h : Pa e lab u i v j) : ∀ k, j = k + 1 → i ≤ k → ∃ a w, Pa e lab u i a k ∧ e a w ∧ lab a k (k + 1) ∧ Pa e lab w (k + 1) v (k + 1) := by
  induction h using Pa.ind with
  | nil u i => intro k h1 h2; omega
  | @cons u i x m w j a b hp ih =>
    intro k h1 h2
    have hm := hp.le hP
    rcases hP _ _ _ b with q | q
    · obtain ⟨a', w', p1, p2, p3, p4⟩ := ih k h1 (by omega)
      exact ⟨a', w', .cons a b p1, p2, p3, p4⟩
    · by_cases e1 : i = k
      · subst e1
        have e2 : m = i + 1 := q
        subst e2
        refine ⟨u, x, .nil _ _, a, b, ?_⟩
        rw [h1] at hp; exact hp
      · obtain ⟨a', w', p1, p2, p3, p4⟩ := ih k h1 (by omega)
        exact ⟨a', w', .cons a b p1, p2, p3, p4⟩
/-- a set that is closed at a place holds all that is reached at this place -/
theorem Pa.closed {e : Nat → Nat → Prop} {lab : Nat → Rl} (hP : Prog lab) {C : Nat → Prop} {p : Nat} (hC : ∀ u v, C u → e u v → lab u p p → C v) {u v i j : Nat} (h : Pa e lab u i v j) (hi : i = p) (hj : j = p) (hu : C u) : C v := by
  induction h using Pa.ind with
  | nil => exact hu
  | @cons u i x m w j a b hp ih =>
    have hm := hp.le hP
    have : m = p := by rcases hP _ _ _ b with q | q <;> omega
    subst this
    subst hi
    exact ih rfl hj (hC u x hu a b)
/-- from what lives at a place to what lives at the next one -/
theorem Pa.next {e : Nat → Nat → Prop} {lab : Nat → Rl} (hP : Prog lab) {h f k v : Nat} (hf : f ≤ k) : Pa e lab h f v (k + 1) ↔ ∃ w, (∃ a, Pa e lab h f a k ∧ e a w ∧ lab a k (k + 1)) ∧ Pa e lab w (k + 1) v (k + 1) := by
  constructor
  · intro p
    obtain ⟨a, w, p1, p2, p3, p4⟩ := p.last hP k rfl hf
    exact ⟨w, ⟨a, p1, p2, p3⟩, p4⟩
  · rintro ⟨w, ⟨a, p1, p2, p3⟩, p4⟩
    exact (p1.snoc p2 p3).trans p4
/-- the greatest place behind a place to which a relation leads -/
def IsBest (R : Rl) (i j : Nat) : Prop := i < j ∧ R i j ∧ ∀ j', R i j' → j' ≤ j
def NoBest (R : Rl) (i : Nat) : Prop := ∀ j, i < j → ¬ R i j
def BestOut (R : Rl) (i : Nat) (x : Int32) : Prop := (∃ j, x = Int32.ofNat j ∧ j ≤ 160 ∧ IsBest R i j) ∨ (x = -1 ∧ NoBest R i)
/-- how many below n hold -/
def cn (f : Nat → Bool) : Nat → Nat
  | 0 => 0
  | n + 1 => cn f n + (if f n then 1 else 0)
theorem cn_le (f : Nat → Bool) : ∀ n, cn f n ≤ n
  | 0 => Nat.le_refl _
  | n + 1 => by
    have := cn_le f n
    simp only [cn]; split <;> omega
theorem cn_all (f : Nat → Bool) : ∀ n, cn f n = n → ∀ k, k < n → f k = true
  | 0, _, k, hk => by omega
  | n + 1, h, k, hk => by
    have h1 := cn_le f n
    simp only [cn] at h
    by_cases q : f n = true
    · rw [if_pos q] at h
      by_cases e : k = n
      · rw [e]; exact q
      · exact cn_all f n (by omega) k (by omega)
    · rw [if_neg q] at h; omega
theorem cn_congr {f g : Nat → Bool} : ∀ n, (∀ k, k < n → f k = g k) → cn f n = cn g n
  | 0, _ => rfl
  | n + 1, h => by
    simp only [cn]
    rw [cn_congr n (fun k hk => h k (by omega)), h n (by omega)]
theorem cn_one {f g : Nat → Bool} {k : Nat} : ∀ n, k < n → f k = false → g k = true → (∀ j, j ≠ k → g j = f j) → cn g n = cn f n + 1
  | 0, hk, _, _, _ => by omega
  | n + 1, hk, hf, hg, ho => by
    simp only [cn]
    by_cases e : n = k
    · subst e
      rw [hf, hg, cn_congr n (fun j hj => ho j (by omega))]; simp
    · rw [cn_one n (by omega) hf hg ho, ho n e]; omega
theorem cn_zero : ∀ n, cn (fun _ => false) n = 0
  | 0 => rfl
  | n + 1 => by simp only [cn]; rw [cn_zero n]; rfl
/-- the automaton as its arrays hold it -/
theorem cLab_prog (tn : Nat) (tx : Nat → Int32) (k : Int32) (lo hi : Int64) : ∀ i j, cLab tn tx k lo hi i j → j = i ∨ j = i + 1 := by
  intro i j h
  unfold cLab at h
  split at h
  · exact Or.inl h.symm
  · split at h
    · exact Or.inr h.1
    · split at h
      · exact Or.inl h.1.symm
      · split at h
        · exact Or.inl h.1.symm
        · exact h.elim
theorem A_asSet {n : Nat} {x : Int32} {o : Option Nat} (hn : n ≤ 50) (h : nd n x o) : ∃ w, f_A_asSet x = some w ∧ ∀ v, lb w v = decide (o = some v) := by
  cases o with
  | none =>
    have h' : x = -1 := h
    refine ⟨0, ?_, fun v => ?_⟩
    · simp only [f_A_asSet, if_pos h', f_A_asSet_12]
    · rw [lb_zero]; rfl
  | some u =>
    obtain ⟨h1, h2⟩ := h
    have hne : ¬ Int32.ofNat u = -1 := pn_ne1 (by omega)
    refine ⟨(1 : Int64) <<< ((Int32.ofNat u).toInt64 &&& 63), ?_, fun v => ?_⟩
    · simp only [f_A_asSet, h2, if_neg hne, f_A_asSet_12]
    · rw [lb_one (by omega)]
      apply decide_eq_decide.mpr
      constructor
      · intro e; rw [e]
      · intro e; exact (Option.some.inj e).symm
/-- the ways out of a node at a place -/
theorem A_waysOut {tn : Nat} {tx : Nat → Int32} {M : MI} {MB : MA} {L : ML} {n : Nat} {nx ot : Nat → Option Nat} {lab : Nat → Rl} {cs ce : Nat} {R : Rl} (h : CDone tn tx M MB L n nx ot lab cs ce R) {u p : Nat} (hu : u < n) {k2 k3 : Int32} (h2 : k2 ≠ 0 ↔ tx_beg tx p) (h3 : k3 ≠ 0 ↔ tx_end tn tx p) :
    ∃ w, f_A_waysOut M MB L (Int32.ofNat u) k2 k3 = some (w, M, MB, L) ∧ ∀ v, (lb w v = true ↔ cF nx ot u v ∧ lab u p p) := by
  have hnb := h.hnb
  have n1 : (Int32.ofNat u).toNatClampNeg = u := pn_nat (by omega)
  obtain ⟨w1, e1, b1⟩ := A_asSet hnb (h.hnx u hu)
  obtain ⟨w2, e2, b2⟩ := A_asSet hnb (h.hot u hu)
  have hlab := h.hlab u hu
  have hof := h.hof u hu
  have hno : MB 0 u ≠ 0 → ot u = none := fun q => by
    cases ho : ot u with
    | none => rfl
    | some x => exact (q (hof (by rw [ho]; exact fun z => by cases z))).elim
  have hone : ∀ v, ot u = none → (lb w1 v = true ↔ cF nx ot u v) := by
    intro v hv
    rw [b1 v, decide_eq_true_iff]
    constructor
    · exact Or.inl
    · rintro (z | z)
      · exact z
      · rw [hv] at z; cases z
  simp only [f_A_waysOut, pn_i50 (show u < 50 by omega), if_true, n1, e1, e2, Option.bind_some, f_A_waysOut_73, f_A_waysOut_91]
  by_cases q0 : MB 0 u = 0
  · rw [if_pos q0]
    refine ⟨w1 ||| w2, rfl, fun v => ?_⟩
    rw [q0, cLab0] at hlab
    rw [lb_or, b1, b2, hlab, Bool.or_eq_true, decide_eq_true_iff, decide_eq_true_iff]
    exact ⟨fun z => ⟨z, rfl⟩, fun z => z.1⟩
  · rw [if_neg q0]
    by_cases q1 : MB 0 u = 1
    · rw [if_pos q1]
      refine ⟨0, rfl, fun v => ?_⟩
      have e : lab u = tl_con tn tx (c_takes (L 3 u) (L 4 u)) := by rw [hlab, q1]; rfl
      rw [lb_zero, e]
      constructor
      · intro z; cases z
      · rintro ⟨_, z, _⟩; omega
    · rw [if_neg q1]
      by_cases q2 : MB 0 u = 2
      · rw [if_pos q2]
        have e : lab u = tl_beg tx := by rw [hlab, q2]; rfl
        by_cases k : k2 = 0
        · rw [if_pos k]
          refine ⟨0, rfl, fun v => ?_⟩
          rw [lb_zero, e]
          constructor
          · intro z; cases z
          · rintro ⟨_, _, z⟩; exact (h2.mpr z k).elim
        · rw [if_neg k]
          refine ⟨w1, rfl, fun v => ?_⟩
          rw [hone v (hno q0), e]
          exact ⟨fun z => ⟨z, rfl, h2.mp k⟩, fun z => z.1⟩
      · rw [if_neg q2]
        by_cases q3 : MB 0 u = 3
        · rw [if_pos q3]
          have e : lab u = tl_end tn tx := by rw [hlab, q3]; rfl
          by_cases k : k3 = 0
          · rw [if_pos k]
            refine ⟨0, rfl, fun v => ?_⟩
            rw [lb_zero, e]
            constructor
            · intro z; cases z
            · rintro ⟨_, _, z⟩; exact (h3.mpr z k).elim
          · rw [if_neg k]
            refine ⟨w1, rfl, fun v => ?_⟩
            rw [hone v (hno q0), e]
            exact ⟨fun z => ⟨z, rfl, h3.mp k⟩, fun z => z.1⟩
        · rw [if_neg q3]
          refine ⟨0, rfl, fun v => ?_⟩
          have e : lab u = rl_no := by rw [hlab]; unfold cLab; rw [if_neg q0, if_neg q1, if_neg q2, if_neg q3]
          rw [lb_zero, e]
          constructor
          · intro z; cases z
          · rintro ⟨_, z⟩; exact z.elim
theorem lg_zero (x : Int64) : lg_cmp x 0 = 0 ↔ x = 0 := by
  unfold lg_cmp
  by_cases h : x = 0
  · subst h; simp
  · rw [if_neg h]
    constructor
    · intro e; split at e <;> exact absurd e (by decide)
    · intro e; exact (h e).elim
theorem lb_fresh (w r : Int64) {v : Nat} : lb (w &&& (r ^^^ (-1))) v = (lb w v && !lb r v) := by
  by_cases h : v < 64
  · rw [lb_and, lb_not _ h]
  · rw [lb_big _ (by omega), lb_big _ (by omega)]; rfl
/-- the loop that adds what is reached at a place -/
theorem A_spread_go {tn : Nat} {tx : Nat → Int32} {M : MI} {MB : MA} {L : ML} {n : Nat} {nx ot : Nat → Option Nat} {lab : Nat → Rl} {cs ce : Nat} {R : Rl} (h : CDone tn tx M MB L n nx ot lab cs ce R) {p : Nat} {S : Nat → Prop} :
    ∀ (m t fuel : Nat) (X : Nat → Int32) (Y : Nat → Int64), n - t ≤ m → m < fuel → t ≤ n → (X 5 ≠ 0 ↔ tx_beg tx p) → (X 6 ≠ 0 ↔ tx_end tn tx p) → X 11 = Int32.ofNat t → (∀ v, lb (Y 7) v = true → v < n ∧ ∃ u, S u ∧ Pa (cF nx ot) lab u p v p) → (∀ v, lb (Y 9) v = true → lb (Y 7) v = true) →
      (∀ u v, lb (Y 7) u = true → lb (Y 9) u = false → cF nx ot u v → lab u p p → lb (Y 7) v = true) → (∀ u, S u → lb (Y 7) u = true) → cn (fun k => lb (Y 7) k && !lb (Y 9) k) n = t →
      ∃ w, f_A_spread_go tn tx fuel 55 M MB L X Y = some (w, M, MB, L) ∧ (∀ v, lb w v = true → v < n ∧ ∃ u, S u ∧ Pa (cF nx ot) lab u p v p) ∧ (∀ u v, lb w u = true → cF nx ot u v → lab u p p → lb w v = true) ∧ (∀ u, S u → lb w u = true) := by
  have hnb := h.hnb
  intro m
  induction m with
  | zero =>
    intro t fuel X Y hm hf ht hs he h11 h7 h9 hcl hS hcn
    obtain ⟨g, rfl⟩ : ∃ g, fuel = g + 1 := ⟨fuel - 1, by omega⟩
    have hall := cn_all _ n (by rw [hcn]; omega)
    simp only [f_A_spread_go, f_A_spread_55, if_true, h.hn, h11, f_A_spread_126]
    rw [if_pos ((pn_le (by omega) (by omega)).mpr (by omega))]
    refine ⟨Y 7, rfl, h7, fun u v hu => hcl u v hu ?_, hS⟩
    have := hall u (h7 u hu).1
    cases hz : lb (Y 9) u with
    | false => rfl
    | true => rw [hz] at this; simp at this
  | succ m ih =>
    intro t fuel X Y hm hf ht hs he h11 h7 h9 hcl hS hcn
    obtain ⟨g, rfl⟩ : ∃ g, fuel = g + 1 := ⟨fuel - 1, by omega⟩
    simp only [f_A_spread_go, f_A_spread_55, if_true, h.hn, h11, f_A_spread_126]
    by_cases q : n ≤ t
    · have hall := cn_all _ n (by rw [hcn]; omega)
      rw [if_pos ((pn_le (by omega) (by omega)).mpr q)]
      refine ⟨Y 7, rfl, h7, fun u v hu => hcl u v hu ?_, hS⟩
      have := hall u (h7 u hu).1
      cases hz : lb (Y 9) u with
      | false => rfl
      | true => rw [hz] at this; simp at this
    · rw [if_neg (fun z => q ((pn_le (by omega) (by omega)).mp z))]
      by_cases q0 : Y 9 = 0
      · rw [if_pos ((lg_zero _).mpr q0)]
        exact ⟨Y 7, rfl, h7, fun u v hu => hcl u v hu (by rw [q0, lb_zero]), hS⟩
      · rw [if_neg (fun z => q0 ((lg_zero _).mp z))]
        obtain ⟨k, hk64, hk1, hk2, hk3⟩ := A_ntz q0
        have hkr := h9 k hk1
        have hkn := (h7 k hkr).1
        obtain ⟨w, hw, bw⟩ := A_waysOut h hkn hs he
        rw [hk3]
        simp only [Option.bind_some, hw]
        refine ih (t + 1) g _ _ (by omega) (by omega) (by omega) ?_ ?_ ?_ ?_ ?_ ?_ ?_ ?_
        · rw [upd_ne _ _ (by decide)]; exact hs
        · rw [upd_ne _ _ (by decide)]; exact he
        · rw [upd_self]; exact pn_succ _
        · intro v hv
          rw [vpl_ne _ _ (by decide), vpl_self, lb_or, lb_fresh, Bool.or_eq_true] at hv
          rcases hv with hv | hv
          · exact h7 v hv
          · have hwv : lb w v = true := by simp at hv; exact hv.1
            obtain ⟨he1, hl1⟩ := (bw v).mp hwv
            obtain ⟨_, u, hu, hp⟩ := h7 k hkr
            exact ⟨h.fr.cl k v hkn he1, u, hu, hp.snoc he1 hl1⟩
        · intro v hv
          rw [vpl_self, lb_or, lb_drop hk1 hk2, Bool.or_eq_true] at hv
          rw [vpl_ne _ _ (by decide), vpl_self, lb_or, Bool.or_eq_true]
          rcases hv with hv | hv
          · simp at hv; exact Or.inl (h9 v hv.1)
          · exact Or.inr hv
        · intro u v hu hu9 he1 hl1
          rw [vpl_ne _ _ (by decide), vpl_self, lb_or, lb_fresh, Bool.or_eq_true] at hu ⊢
          rw [vpl_self, lb_or, lb_drop hk1 hk2, lb_fresh, Bool.or_eq_false_iff] at hu9
          have hur : lb (Y 7) u = true := by
            rcases hu with hu | hu
            · exact hu
            · rw [hu9.2] at hu; cases hu
          by_cases e : u = k
          · subst e
            have hwv := (bw v).mpr ⟨he1, hl1⟩
            cases hv : lb (Y 7) v with
            | true => exact Or.inl rfl
            | false => right; rw [hwv]; rfl
          · left
            refine hcl u v hur ?_ he1 hl1
            have := hu9.1
            simp [e] at this
            exact this
        · intro u hu
          rw [vpl_ne _ _ (by decide), vpl_self, lb_or, hS u hu, Bool.true_or]
        · rw [← hcn]
          refine cn_one (k := k) n hkn (by rw [hk1, hkr]; rfl) ?_ (fun j hj => ?_)
          · rw [vpl_ne _ _ (by decide), vpl_self, vpl_self, lb_or, lb_or, lb_drop hk1 hk2, lb_fresh, hkr]
            simp
          · rw [vpl_ne _ _ (by decide), vpl_self, vpl_self, lb_or, lb_or, lb_drop hk1 hk2, lb_fresh]
            have h9j := h9 j
            cases ha : lb (Y 7) j <;> cases hb : lb (Y 9) j <;> cases hc : lb w j <;> simp_all
/-- all that is reached from a set at a place -/
theorem A_spread {tn : Nat} {tx : Nat → Int32} (hT : Txt tn tx) {M : MI} {MB : MA} {L : ML} {n : Nat} {nx ot : Nat → Option Nat} {lab : Nat → Rl} {cs ce : Nat} {R : Rl} (h : CDone tn tx M MB L n nx ot lab cs ce R) (hP : Prog lab) {p : Nat} (hp : p ≤ tn) {x : Int64} (hx : ∀ v, lb x v = true → v < n) :
    ∃ w, f_A_spread tn tx M MB L x (Int32.ofNat p) = some (w, M, MB, L) ∧ ∀ v, (lb w v = true ↔ ∃ u, lb x u = true ∧ Pa (cF nx ot) lab u p v p) := by
  have hnb := h.hnb
  have hT1 := hT.nb
  have fu := wk_FUEL_big
  have go : ∀ (X : Nat → Int32) (Y : Nat → Int64), (X 5 ≠ 0 ↔ tx_beg tx p) → (X 6 ≠ 0 ↔ tx_end tn tx p) → X 11 = Int32.ofNat 0 → Y 7 = x → Y 9 = x → ∃ w, f_A_spread_go tn tx wk_FUEL 55 M MB L X Y = some (w, M, MB, L) ∧ ∀ v, (lb w v = true ↔ ∃ u, lb x u = true ∧ Pa (cF nx ot) lab u p v p) := by
    intro X Y h5 h6 h11 y7 y9
    obtain ⟨w, hw, a1, a2, a3⟩ := A_spread_go h (p := p) (S := fun u => lb x u = true) n 0 wk_FUEL X Y (by omega) (by omega) (by omega) h5 h6 h11 (fun v hv => by rw [y7] at hv; exact ⟨hx v hv, v, hv, .nil _ _⟩) (fun v hv => by rw [y7]; rw [y9] at hv; exact hv)
      (fun u v hu hu9 => by rw [y7] at hu; rw [y9, hu] at hu9; cases hu9) (fun u hu => by rw [y7]; exact hu) (by rw [y7, y9, ← cn_zero n]; exact cn_congr n (fun k _ => by cases lb x k <;> rfl))
    refine ⟨w, hw, fun v => ⟨fun hv => (a1 v hv).2, ?_⟩⟩
    rintro ⟨u, hu, hpa⟩
    exact Pa.closed (C := fun v => lb w v = true) hP (fun u v hu he hl => a2 u v hu he hl) hpa rfl rfl (a3 u hu)
  have h10 : ¬ (1 : Int32) = 0 := by decide
  have f44 : ∀ (X : Nat → Int32) (s0 : Int32), (X 5 ≠ 0 ↔ tx_beg tx p) → (s0 ≠ 0 ↔ tx_end tn tx p) → ∃ w, f_A_spread_44 tn tx (f_A_spread_go tn tx wk_FUEL) M MB L X (vp_updL (fun _ => 0) 1 x) s0 = some (w, M, MB, L) ∧ ∀ v, (lb w v = true ↔ ∃ u, lb x u = true ∧ Pa (cF nx ot) lab u p v p) := by
    intro X s0 h5 h6
    unfold f_A_spread_44
    exact go _ _ (by rw [upd_ne _ _ (by decide), upd_ne _ _ (by decide)]; exact h5) (by rw [upd_ne _ _ (by decide), upd_self]; exact h6) (upd_self _ _ _) (by rw [vpl_ne _ _ (by decide), vpl_self]; rfl) (by rw [vpl_self]; rfl)
  have f21 : ∀ (X : Nat → Int32) (s0 : Int32), X 4 = Int32.ofNat p → (s0 ≠ 0 ↔ tx_beg tx p) → ∃ w, f_A_spread_21 tn tx (f_A_spread_go tn tx wk_FUEL) M MB L X (vp_updL (fun _ => 0) 1 x) s0 = some (w, M, MB, L) ∧ ∀ v, (lb w v = true ↔ ∃ u, lb x u = true ∧ Pa (cF nx ot) lab u p v p) := by
    intro X s0 h4 h5
    unfold f_A_spread_21
    rw [h4]
    by_cases q : p = tn
    · rw [if_pos ((pn_eq (by omega) (by omega)).mpr q)]
      exact f44 _ 1 (by rw [upd_self]; exact h5) ⟨fun _ => Or.inl q, fun _ => h10⟩
    · rw [if_neg (fun z => q ((pn_eq (by omega) (by omega)).mp z)), if_pos ((pn_inb (by omega)).mpr (by omega)), pn_nat (show p < 2147483648 by omega)]
      by_cases q2 : tx p = 10
      · rw [if_pos q2]
        exact f44 _ 1 (by rw [upd_self]; exact h5) ⟨fun _ => Or.inr q2, fun _ => h10⟩
      · rw [if_neg q2]
        exact f44 _ 0 (by rw [upd_self]; exact h5) ⟨fun z => (z rfl).elim, fun z => (z.elim q q2).elim⟩
  unfold f_A_spread f_A_spread_e f_A_spread_16
  by_cases q : p = 0
  · rw [if_pos ((pn_eqc (x := 0) 0 rfl (by omega) (by omega)).mpr q)]
    exact f21 _ 1 (upd_self _ _ _) ⟨fun _ => Or.inl q, fun _ => h10⟩
  · rw [if_neg (fun z => q ((pn_eqc (x := 0) 0 rfl (by omega) (by omega)).mp z))]
    have e1 : Int32.ofNat p - 1 = Int32.ofNat (p - 1) := pn_sub (a := p) (b := 1) (by omega)
    rw [e1, if_pos ((pn_inb (by omega)).mpr (by omega)), pn_nat (show p - 1 < 2147483648 by omega)]
    by_cases q2 : tx (p - 1) = 10
    · rw [if_pos q2]
      exact f21 _ 1 (upd_self _ _ _) ⟨fun _ => Or.inr q2, fun _ => h10⟩
    · rw [if_neg q2]
      exact f21 _ 0 (upd_self _ _ _) ⟨fun z => (z rfl).elim, fun z => (z.elim q q2).elim⟩
-- 41.lon
theorem tk_amt : ∀ c : Fin 128, ((((Int32.ofNat c.val) &&& 63)).toInt64.toUInt64 &&& Int64.toUInt64 63) = UInt64.ofNat (c.val % 64) := by decide +kernel
theorem lb_shift (x : Int64) {m : Nat} (hm : m < 64) : (lg_cmp ((x.toUInt64 >>> UInt64.ofNat m).toInt64 &&& 1) 0 = 0) ↔ lb x m = false := by
  rw [lg_zero]
  have key : ∀ j, lb ((x.toUInt64 >>> UInt64.ofNat m).toInt64 &&& 1) j = (lb x (m + j) && decide (j = 0)) := by
    intro j
    rw [lb_and]
    have h1 : lb 1 j = decide (j = 0) := by
      by_cases h : j < 64
      · have : ∀ j : Fin 64, lb 1 j.val = decide (j.val = 0) := by decide +kernel
        exact this ⟨j, h⟩
      · rw [lb_big _ (by omega)]; simp; omega
    rw [h1]
    congr 1
    unfold lb
    show (x.toUInt64 >>> (UInt64.ofNat m)).toBitVec.getLsbD j = _
    rw [UInt64.toBitVec_shiftRight]
    have e2 : ((UInt64.ofNat m).toBitVec % 64#64 : BitVec 64).toNat = m := by
      rw [BitVec.toNat_umod]
      have : (UInt64.ofNat m).toBitVec.toNat = m := by
        show (BitVec.ofNat 64 m).toNat = m
        rw [BitVec.toNat_ofNat]; exact Nat.mod_eq_of_lt (by omega)
      rw [this]; exact Nat.mod_eq_of_lt hm
    rw [BitVec.ushiftRight_eq', BitVec.getLsbD_ushiftRight]
    show x.toBitVec.getLsbD (((UInt64.ofNat m).toBitVec % 64#64 : BitVec 64).toNat + j) = _
    rw [e2]
  constructor
  · intro e
    have := key 0
    rw [e, lb_zero] at this
    simp at this
    exact this
  · intro e
    apply lb_ext
    intro j hj
    rw [key j, lb_zero]
    by_cases q : j = 0
    · subst q; rw [Nat.add_zero, e]; rfl
    · simp [q]
theorem nar_bool0 : vp_nar .boolean 0 = 0 := by decide
theorem nar_bool1 : vp_nar .boolean 1 = 1 := by decide
/-- does a consuming node take a character -/
theorem A_takes {M : MI} {MB : MA} {L : ML} {u c : Nat} (hu : u < 50) (hc : c < 128) : ∃ b, f_A_takes M MB L (Int32.ofNat u) (Int32.ofNat c) = some (b, M, MB, L) ∧ (b ≠ 0 ↔ c_takes (L 3 u) (L 4 u) (Int32.ofNat c)) := by
  have n1 : (Int32.ofNat u).toNatClampNeg = u := pn_nat (by omega)
  have n2 : (Int32.ofNat c).toNatClampNeg = c := pn_nat (by omega)
  have x2 : upd (upd (fun _ => (0 : Int32)) 1 (Int32.ofNat u)) 2 (Int32.ofNat c) 2 = Int32.ofNat c := upd_self _ _ _
  have ha := tk_amt ⟨c, hc⟩
  simp only at ha
  have h10 : ¬ (1 : Int32) = 0 := by decide
  have fin : ∀ s0 : Int64, ∃ b, f_A_takes_21 M MB L (upd (upd (fun _ => (0 : Int32)) 1 (Int32.ofNat u)) 2 (Int32.ofNat c)) (fun _ => 0) s0 = some (b, M, MB, L) ∧ (b ≠ 0 ↔ lb s0 (c % 64) = true) := by
    intro s0
    simp only [f_A_takes_21, x2, ha, f_A_takes_40]
    by_cases q : lb s0 (c % 64) = false
    · rw [if_pos ((lb_shift s0 (by omega)).mpr q), if_pos nar_bool0]
      refine ⟨0, rfl, ?_⟩
      rw [q]; simp
    · rw [if_neg (fun z => q ((lb_shift s0 (by omega)).mp z)), if_pos nar_bool1]
      refine ⟨1, rfl, fun _ => ?_, fun _ => h10⟩
      cases hz : lb s0 (c % 64) with
      | true => rfl
      | false => exact (q hz).elim
  simp only [f_A_takes, pn_i50 hu, if_true, n1]
  by_cases q : 64 ≤ c
  · rw [if_pos ((pn_cle (x := 64) 64 rfl (by omega) (by omega)).mpr q)]
    obtain ⟨b, e, hb⟩ := fin (L 4 u)
    refine ⟨b, e, ?_⟩
    rw [hb]
    unfold c_takes
    rw [n2, if_neg (by omega), show c % 64 = c - 64 by omega]
  · rw [if_neg (fun z => q ((pn_cle (x := 64) 64 rfl (by omega) (by omega)).mp z))]
    obtain ⟨b, e, hb⟩ := fin (L 3 u)
    refine ⟨b, e, ?_⟩
    rw [hb]
    unfold c_takes
    rw [n2, if_pos (by omega), show c % 64 = c by omega]
/-- what a node's character leads to -/
theorem CDone.step {tn : Nat} {tx : Nat → Int32} {M : MI} {MB : MA} {L : ML} {n : Nat} {nx ot : Nat → Option Nat} {lab : Nat → Rl} {cs ce : Nat} {R : Rl} (h : CDone tn tx M MB L n nx ot lab cs ce R) {p : Nat} (hp : p < tn) {u v : Nat} (hu : u < n) :
    (cF nx ot u v ∧ lab u p (p + 1)) ↔ (MB 0 u = 1 ∧ c_takes (L 3 u) (L 4 u) (tx p) ∧ nx u = some v) := by
  have hlab := h.hlab u hu
  by_cases q1 : MB 0 u = 1
  · have e : lab u = tl_con tn tx (c_takes (L 3 u) (L 4 u)) := by rw [hlab, q1]; rfl
    have hno : ot u = none := by
      cases ho : ot u with
      | none => rfl
      | some x => exact absurd (h.hof u hu (by rw [ho]; exact fun z => by cases z)) (by rw [q1]; decide)
    rw [e]
    constructor
    · rintro ⟨z | z, _, _, hc⟩
      · exact ⟨q1, hc, z⟩
      · rw [hno] at z; cases z
    · rintro ⟨_, hc, z⟩
      exact ⟨Or.inl z, rfl, hp, hc⟩
  · constructor
    · rintro ⟨_, z⟩
      exfalso
      rw [hlab] at z
      unfold cLab at z
      rw [if_neg q1] at z
      split at z
      · have : p = p + 1 := z; omega
      · split at z
        · have := z.1; omega
        · split at z
          · have := z.1; omega
          · exact z
    · rintro ⟨z, _⟩; exact (q1 z).elim
theorem A_consume_go {tn : Nat} {tx : Nat → Int32} {M : MI} {MB : MA} {L : ML} {n : Nat} {nx ot : Nat → Option Nat} {lab : Nat → Rl} {cs ce : Nat} {R : Rl} (h : CDone tn tx M MB L n nx ot lab cs ce R) {p : Nat} (hp : p < tn) {c : Nat} (hc : c < 128) (hcx : tx p = Int32.ofNat c) {x : Int64} (hx : ∀ v, lb x v = true → v < n) :
    ∀ (m t fuel : Nat) (X : Nat → Int32) (Y : Nat → Int64), n - t ≤ m → m < fuel → t ≤ n → X 3 = Int32.ofNat c → X 8 = Int32.ofNat t → (∀ v, lb (Y 6) v = true → lb x v = true) →
      (∀ v, lb (Y 4) v = true ↔ ∃ u, lb x u = true ∧ lb (Y 6) u = false ∧ cF nx ot u v ∧ lab u p (p + 1)) → cn (fun k => lb x k && !lb (Y 6) k) n = t →
      ∃ w, f_A_consume_go fuel 9 M MB L X Y = some (w, M, MB, L) ∧ ∀ v, (lb w v = true ↔ ∃ u, lb x u = true ∧ cF nx ot u v ∧ lab u p (p + 1)) := by
  have hnb := h.hnb
  intro m
  induction m with
  | zero =>
    intro t fuel X Y hm hf ht h3 h8 h6 h4 hcn
    obtain ⟨g, rfl⟩ : ∃ g, fuel = g + 1 := ⟨fuel - 1, by omega⟩
    have hall := cn_all _ n (by rw [hcn]; omega)
    simp only [f_A_consume_go, f_A_consume_9, if_true, h.hn, h8, f_A_consume_83]
    rw [if_pos ((pn_le (by omega) (by omega)).mpr (by omega))]
    refine ⟨Y 4, rfl, fun v => ?_⟩
    rw [h4 v]
    constructor
    · rintro ⟨u, a, _, b⟩; exact ⟨u, a, b⟩
    · rintro ⟨u, a, b⟩
      refine ⟨u, a, ?_, b⟩
      have := hall u (hx u a)
      cases hz : lb (Y 6) u with
      | false => rfl
      | true => rw [hz] at this; simp at this
  | succ m ih =>
    intro t fuel X Y hm hf ht h3 h8 h6 h4 hcn
    obtain ⟨g, rfl⟩ : ∃ g, fuel = g + 1 := ⟨fuel - 1, by omega⟩
    simp only [f_A_consume_go, f_A_consume_9, if_true, h.hn, h8, f_A_consume_83, h3]
    by_cases q : n ≤ t
    · have hall := cn_all _ n (by rw [hcn]; omega)
      rw [if_pos ((pn_le (by omega) (by omega)).mpr q)]
      refine ⟨Y 4, rfl, fun v => ?_⟩
      rw [h4 v]
      constructor
      · rintro ⟨u, a, _, b⟩; exact ⟨u, a, b⟩
      · rintro ⟨u, a, b⟩
        refine ⟨u, a, ?_, b⟩
        have := hall u (hx u a)
        cases hz : lb (Y 6) u with
        | false => rfl
        | true => rw [hz] at this; simp at this
    · rw [if_neg (fun z => q ((pn_le (by omega) (by omega)).mp z))]
      by_cases q0 : Y 6 = 0
      · rw [if_pos ((lg_zero _).mpr q0)]
        refine ⟨Y 4, rfl, fun v => ?_⟩
        rw [h4 v]
        constructor
        · rintro ⟨u, a, _, b⟩; exact ⟨u, a, b⟩
        · rintro ⟨u, a, b⟩; exact ⟨u, a, by rw [q0, lb_zero], b⟩
      · rw [if_neg (fun z => q0 ((lg_zero _).mp z))]
        obtain ⟨k, hk64, hk1, hk2, hk3⟩ := A_ntz q0
        have hkx := h6 k hk1
        have hkn := hx k hkx
        have n1 : (Int32.ofNat k).toNatClampNeg = k := pn_nat (by omega)
        rw [hk3]
        simp only [Option.bind_some, pn_i50 (show k < 50 by omega), if_true, n1]
        -- the next turn
        have next : ∀ (X' : Nat → Int32) (Y' : Nat → Int64), X' 3 = Int32.ofNat c → X' 8 = Int32.ofNat t → Y' 6 = (Y 6 &&& (Y 6 - 1)) → (∀ v, lb (Y' 4) v = true ↔ (lb (Y 4) v = true ∨ (cF nx ot k v ∧ lab k p (p + 1)))) →
            ∃ w, f_A_consume_77 (f_A_consume_go g) M MB L X' Y' = some (w, M, MB, L) ∧ ∀ v, (lb w v = true ↔ ∃ u, lb x u = true ∧ cF nx ot u v ∧ lab u p (p + 1)) := by
          intro X' Y' x3 x8 y6 y4
          unfold f_A_consume_77
          refine ih (t + 1) g _ _ (by omega) (by omega) (by omega) ?_ ?_ ?_ ?_ ?_
          · rw [upd_ne _ _ (by decide)]; exact x3
          · rw [upd_self, x8]; exact pn_succ _
          · intro v hv
            rw [y6, lb_drop hk1 hk2] at hv
            simp at hv
            exact h6 v hv.1
          · intro v
            rw [y4 v, h4 v]
            constructor
            · rintro (⟨u, a, b, d⟩ | d)
              · refine ⟨u, a, ?_, d⟩
                rw [y6, lb_drop hk1 hk2, b, Bool.false_and]
              · refine ⟨k, hkx, ?_, d⟩
                rw [y6, lb_drop hk1 hk2]; simp
            · rintro ⟨u, a, b, d⟩
              rw [y6, lb_drop hk1 hk2] at b
              by_cases e : u = k
              · rw [e] at d; exact Or.inr d
              · simp [e] at b; exact Or.inl ⟨u, a, b, d⟩
          · rw [← hcn]
            refine cn_one (k := k) n hkn (by rw [hk1, hkx]; rfl) ?_ (fun j hj => ?_)
            · rw [y6, lb_drop hk1 hk2, hkx]; simp
            · rw [y6, lb_drop hk1 hk2]; simp [hj]
        by_cases q1 : MB 0 k = 1
        · rw [if_pos q1]
          obtain ⟨b, eb, hb⟩ := A_takes (M := M) (MB := MB) (L := L) (show k < 50 by omega) hc
          rw [eb]
          simp only [Option.bind_some]
          by_cases qb : b = 0
          · rw [if_pos qb]
            refine next _ _ (by rw [upd_ne _ _ (by decide)]; exact h3) (by rw [upd_ne _ _ (by decide)]; exact h8) (vpl_self _ _ _) (fun v => ?_)
            rw [vpl_ne _ _ (by decide), h.step hp hkn]
            constructor
            · exact Or.inl
            · rintro (z | ⟨_, z, _⟩)
              · exact z
              · rw [hcx] at z; exact (hb.mpr z qb).elim
          · rw [if_neg qb]
            obtain ⟨w1, e1, b1⟩ := A_asSet hnb (h.hnx k hkn)
            rw [e1]
            simp only [Option.bind_some]
            refine next _ _ (by rw [upd_ne _ _ (by decide)]; exact h3) (by rw [upd_ne _ _ (by decide)]; exact h8) (vpl_self _ _ _) (fun v => ?_)
            rw [vpl_ne _ _ (by decide), vpl_self, lb_or, Bool.or_eq_true, b1, decide_eq_true_iff, h.step hp hkn, hcx]
            constructor
            · rintro (z | z)
              · exact Or.inl z
              · exact Or.inr ⟨q1, hb.mp qb, z⟩
            · rintro (z | ⟨_, _, z⟩)
              · exact Or.inl z
              · exact Or.inr z
        · rw [if_neg q1]
          refine next _ _ (by rw [upd_ne _ _ (by decide)]; exact h3) (by rw [upd_ne _ _ (by decide)]; exact h8) (vpl_self _ _ _) (fun v => ?_)
          rw [vpl_ne _ _ (by decide), h.step hp hkn]
          constructor
          · exact Or.inl
          · rintro (z | ⟨z, _⟩)
            · exact z
            · exact (q1 z).elim
theorem A_consume {tn : Nat} {tx : Nat → Int32} {M : MI} {MB : MA} {L : ML} {n : Nat} {nx ot : Nat → Option Nat} {lab : Nat → Rl} {cs ce : Nat} {R : Rl} (h : CDone tn tx M MB L n nx ot lab cs ce R) {p : Nat} (hp : p < tn) {c : Nat} (hc : c < 128) (hcx : tx p = Int32.ofNat c) {x : Int64} (hx : ∀ v, lb x v = true → v < n) :
    ∃ w, f_A_consume M MB L x (Int32.ofNat c) = some (w, M, MB, L) ∧ ∀ v, (lb w v = true ↔ ∃ u, lb x u = true ∧ cF nx ot u v ∧ lab u p (p + 1)) := by
  have hnb := h.hnb
  have fu := wk_FUEL_big
  unfold f_A_consume f_A_consume_e
  refine A_consume_go h hp hc hcx hx n 0 wk_FUEL _ _ (by omega) (by omega) (by omega) ?_ ?_ ?_ ?_ ?_
  · rw [upd_ne _ _ (by decide), upd_self]
  · exact upd_self _ _ _
  · intro v hv; rw [vpl_self] at hv; exact hv
  · intro v
    rw [vpl_ne _ _ (by decide), vpl_self, lb_zero, vpl_self]
    constructor
    · intro z; cases z
    · rintro ⟨u, a, b, _⟩; rw [a] at b; cases b
  · rw [vpl_self, ← cn_zero n]; exact cn_congr n (fun k _ => by cases lb x k <;> rfl)
def ProgT (tn : Nat) (lab : Nat → Rl) : Prop := ∀ u i j, lab u i j → j = i ∨ (j = i + 1 ∧ i < tn)
theorem ProgT.prog {tn : Nat} {lab : Nat → Rl} (h : ProgT tn lab) : Prog lab := fun u i j hl => (h u i j hl).elim Or.inl (fun z => Or.inr z.1)
theorem Pa.top {e : Nat → Nat → Prop} {lab : Nat → Rl} {tn : Nat} (hP : ProgT tn lab) {u i v j : Nat} (h : Pa e lab u i v j) : i ≤ tn → j ≤ tn := by
  induction h using Pa.ind with
  | nil => exact id
  | cons _ b _ ih => intro hi; rcases hP _ _ _ b with z | z
                     · exact ih (by omega)
                     · exact ih (by omega)
theorem cLab_progT (tn : Nat) (tx : Nat → Int32) (k : Int32) (lo hi : Int64) : ∀ i j, cLab tn tx k lo hi i j → j = i ∨ (j = i + 1 ∧ i < tn) := by
  intro i j h
  unfold cLab at h
  split at h
  · exact Or.inl h.symm
  · split at h
    · exact Or.inr ⟨h.1, h.2.1⟩
    · split at h
      · exact Or.inl h.1.symm
      · split at h
        · exact Or.inl h.1.symm
        · exact h.elim
/-- no label where there is no node -/
theorem CDone.clean {tn : Nat} {tx : Nat → Int32} {M : MI} {MB : MA} {L : ML} {n : Nat} {nx ot : Nat → Option Nat} {lab : Nat → Rl} {cs ce : Nat} {R : Rl} (h : CDone tn tx M MB L n nx ot lab cs ce R) : ∃ lab', CDone tn tx M MB L n nx ot lab' cs ce R ∧ ProgT tn lab' := by
  refine ⟨fun u => if u < n then lab u else rl_no, ⟨h.hn, h.hnb, h.hnx, h.hot, fun u hu => ?_, h.hcs, h.hce, h.fr.congr (fun _ => Iff.rfl) (fun _ _ _ => Iff.rfl) (fun u hu => ?_), ?_, h.hof⟩, fun u i j hl => ?_⟩
  · show (if u < n then lab u else rl_no) = _
    rw [if_pos hu]; exact h.hlab u hu
  · show _ = if u < n then lab u else rl_no
    rw [if_pos hu]
  · show (if ce < n then lab ce else rl_no) = _
    rw [if_pos h.fr.tU]; exact h.hid
  · simp only at hl
    by_cases q : u < n
    · rw [if_pos q, h.hlab u q] at hl; exact cLab_progT _ _ _ _ _ i j hl
    · rw [if_neg q] at hl; exact hl.elim
def SoFar (R : Rl) (f i : Nat) (x : Int32) : Prop := (∃ j, x = Int32.ofNat j ∧ f < j ∧ j ≤ i ∧ R f j ∧ ∀ j', j' ≤ i → R f j' → j' ≤ j) ∨ (x = -1 ∧ ∀ j, f < j → j ≤ i → ¬ R f j)
theorem SoFar.best {R : Rl} {f i : Nat} {x : Int32} (h : SoFar R f i x) (hi : i ≤ 160) (hR : ∀ j, R f j → j ≤ i) : BestOut R f x := by
  rcases h with ⟨j, e, h1, h2, h3, h4⟩ | ⟨e, h⟩
  · exact Or.inl ⟨j, e, by omega, h1, h3, fun j' hj' => h4 j' (hR j' hj') hj'⟩
  · exact Or.inr ⟨e, fun j hj hr => h j hj (hR j hr) hr⟩
theorem SoFar.yes {R : Rl} {f i : Nat} {x : Int32} (h : SoFar R f i x) (hf : f ≤ i) (hr : R f (i + 1)) : SoFar R f (i + 1) (Int32.ofNat (i + 1)) := Or.inl ⟨i + 1, rfl, by omega, Nat.le_refl _, hr, fun j' hj' _ => hj'⟩
theorem SoFar.no {R : Rl} {f i : Nat} {x : Int32} (h : SoFar R f i x) (hr : ¬ R f (i + 1)) : SoFar R f (i + 1) x := by
  rcases h with ⟨j, e, h1, h2, h3, h4⟩ | ⟨e, h⟩
  · refine Or.inl ⟨j, e, h1, by omega, h3, fun j' hj' hr' => ?_⟩
    by_cases q : j' = i + 1
    · rw [q] at hr'; exact (hr hr').elim
    · exact h4 j' (by omega) hr'
  · refine Or.inr ⟨e, fun j hj hj' hr' => ?_⟩
    by_cases q : j = i + 1
    · rw [q] at hr'; exact (hr hr').elim
    · exact h j hj (by omega) hr'
/-- what no longer lives leads nowhere -/
theorem Pa.dead {e : Nat → Nat → Prop} {lab : Nat → Rl} (hP : Prog lab) {h f i : Nat} (hf : f ≤ i) (hd : ∀ v, ¬ Pa e lab h f v i) : ∀ j, i ≤ j → ∀ v, ¬ Pa e lab h f v j := by
  intro j hj
  induction j with
  | zero => have e0 : i = 0 := by omega
            rw [e0] at hd; exact hd
  | succ j ih =>
    by_cases q : i = j + 1
    · rw [← q]; exact hd
    · intro v p
      obtain ⟨w, ⟨a, p1, _⟩, _⟩ := (Pa.next hP (by omega)).mp p
      exact ih (by omega) a p1
theorem A_longest_go {tn : Nat} {tx : Nat → Int32} (hT : Txt tn tx) {M : MI} {MB : MA} {L : ML} {n : Nat} {nx ot : Nat → Option Nat} {lab : Nat → Rl} {cs ce : Nat} {R : Rl} (h : CDone tn tx M MB L n nx ot lab cs ce R) (hP : ProgT tn lab) {f : Nat} (hfn : f ≤ tn) :
    ∀ (m i fuel : Nat) (X : Nat → Int32) (Y : Nat → Int64), tn - i ≤ m → m < fuel → f ≤ i → i ≤ tn → X 6 = Int32.ofNat i → (∀ v, lb (Y 4) v = true ↔ Pa (cF nx ot) lab cs f v i) → SoFar R f i (X 3) →
      ∃ x, f_A_longestFit_go tn tx fuel 19 M MB L X Y = some (x, M, MB, L) ∧ BestOut R f x := by
  have hnb := h.hnb
  have htb := hT.nb
  have hR : ∀ j, R f j ↔ Pa (cF nx ot) lab cs f ce j := fun j => h.fr.iff h.hid f j
  have hcen := h.fr.tU
  intro m
  induction m with
  | zero =>
    intro i fuel X Y hm hf hfi hin h6 h4 h3
    obtain ⟨g, rfl⟩ : ∃ g, fuel = g + 1 := ⟨fuel - 1, by omega⟩
    simp only [f_A_longestFit_go, f_A_longestFit_19, if_true, h6, f_A_longestFit_79]
    rw [if_pos ((pn_le (by omega) (by omega)).mpr (by omega))]
    exact ⟨X 3, rfl, h3.best (by omega) (fun j hj => by have := ((hR j).mp hj).top hP hfn; omega)⟩
  | succ m ih =>
    intro i fuel X Y hm hf hfi hin h6 h4 h3
    obtain ⟨g, rfl⟩ : ∃ g, fuel = g + 1 := ⟨fuel - 1, by omega⟩
    simp only [f_A_longestFit_go, f_A_longestFit_19, if_true, h6, f_A_longestFit_79]
    by_cases q : tn ≤ i
    · rw [if_pos ((pn_le (by omega) (by omega)).mpr q)]
      exact ⟨X 3, rfl, h3.best (by omega) (fun j hj => by have := ((hR j).mp hj).top hP hfn; omega)⟩
    · rw [if_neg (fun z => q ((pn_le (by omega) (by omega)).mp z))]
      by_cases q0 : Y 4 = 0
      · rw [if_pos ((lg_zero _).mpr q0)]
        refine ⟨X 3, rfl, h3.best (by omega) (fun j hj => ?_)⟩
        have hd : ∀ v, ¬ Pa (cF nx ot) lab cs f v i := fun v p => by have := (h4 v).mpr p; rw [q0, lb_zero] at this; cases this
        by_cases z : j ≤ i
        · exact z
        · exact (Pa.dead hP.prog hfi hd j (by omega) ce ((hR j).mp hj)).elim
      · rw [if_neg (fun z => q0 ((lg_zero _).mp z)), if_pos ((pn_inb (by omega)).mpr (by omega)), pn_nat (show i < 2147483648 by omega)]
        obtain ⟨c, hc, hcx⟩ := hT.ch i (by omega)
        have hlive : ∀ v, lb (Y 4) v = true → v < n := fun v hv => by
          have hp := (h4 v).mp hv
          have : ∀ u i w j, Pa (cF nx ot) lab u i w j → u < n → w < n := by
            intro u i w j p
            induction p using Pa.ind with
            | nil => exact id
            | cons a _ _ ih => exact fun hu => ih (h.fr.cl _ _ hu a)
          exact this _ _ _ _ hp h.fr.hU
        obtain ⟨w1, e1, b1⟩ := A_consume h (by omega) hc hcx hlive
        have hw1 : ∀ v, lb w1 v = true → v < n := fun v hv => by
          obtain ⟨u, hu, he, _⟩ := (b1 v).mp hv
          exact h.fr.cl u v (hlive u hu) he
        obtain ⟨w2, e2, b2⟩ := A_spread hT h hP.prog (p := i + 1) (by omega) hw1
        rw [hcx, e1]
        simp only [Option.bind_some, pn_succ]
        rw [e2]
        simp only [Option.bind_some, h.hce]
        have hl2 : ∀ v, lb w2 v = true ↔ Pa (cF nx ot) lab cs f v (i + 1) := by
          intro v
          rw [b2 v, Pa.next hP.prog hfi]
          constructor
          · rintro ⟨w, hw, hp⟩
            obtain ⟨u, hu, he, hl⟩ := (b1 w).mp hw
            exact ⟨w, ⟨u, (h4 u).mp hu, he, hl⟩, hp⟩
          · rintro ⟨w, ⟨u, hu, he, hl⟩, hp⟩
            exact ⟨w, (b1 w).mpr ⟨u, (h4 u).mpr hu, he, hl⟩, hp⟩
        have hgoal : (lg_cmp (w2 &&& ((1 : Int64) <<< ((Int32.ofNat ce).toInt64 &&& 63))) 0 = 0) ↔ ¬ R f (i + 1) := by
          rw [lg_zero, hR, ← hl2]
          constructor
          · intro e hb
            have : lb (w2 &&& ((1 : Int64) <<< ((Int32.ofNat ce).toInt64 &&& 63))) ce = true := by
              rw [lb_and, hb, lb_one (by omega)]; simp
            rw [e, lb_zero] at this; cases this
          · intro hb
            apply lb_ext
            intro k hk
            rw [lb_and, lb_one (by omega), lb_zero]
            by_cases e : k = ce
            · subst e
              cases hz : lb w2 k with
              | false => rfl
              | true => exact (hb hz).elim
            · simp [e]
        unfold f_A_longestFit_73
        by_cases qr : R f (i + 1)
        · rw [if_neg (fun z => hgoal.mp z qr)]
          refine ih (i + 1) g _ _ (by omega) (by omega) (by omega) (by omega) ?_ ?_ ?_
          · rw [upd_self, upd_ne _ _ (by decide), h6]; exact pn_succ _
          · intro v; rw [vpl_self]; exact hl2 v
          · rw [upd_ne _ _ (by decide), upd_self]; exact h3.yes hfi qr
        · rw [if_pos (hgoal.mpr qr)]
          refine ih (i + 1) g _ _ (by omega) (by omega) (by omega) (by omega) ?_ ?_ ?_
          · rw [upd_self, h6]; exact pn_succ _
          · intro v; rw [vpl_self]; exact hl2 v
          · rw [upd_ne _ _ (by decide)]; exact h3.no qr
theorem A_longestFit {tn : Nat} {tx : Nat → Int32} (hT : Txt tn tx) {M : MI} {MB : MA} {L : ML} {R : Rl} (h : CMean tn tx M MB L R) {f : Nat} (hfn : f ≤ tn) : ∃ x, f_A_longestFit tn tx M MB L (Int32.ofNat f) = some (x, M, MB, L) ∧ BestOut R f x := by
  obtain ⟨n, nx, ot, lab0, cs, ce, h0⟩ := h
  obtain ⟨lab, h, hP⟩ := h0.clean
  have hnb := h.hnb
  have htb := hT.nb
  have fu := wk_FUEL_big
  have hcs := h.fr.hU
  obtain ⟨w, e, b⟩ := A_spread hT h hP.prog hfn (x := (1 : Int64) <<< ((Int32.ofNat cs).toInt64 &&& 63)) (fun v hv => by
    rw [lb_one (by omega)] at hv
    rw [of_decide_eq_true hv]; exact hcs)
  unfold f_A_longestFit f_A_longestFit_e
  rw [h.hcs, e]
  simp only [Option.bind_some]
  refine A_longest_go hT h hP hfn (tn - f) f wk_FUEL _ _ (Nat.le_refl _) (by omega) (Nat.le_refl _) hfn (upd_self _ _ _) (fun v => ?_) ?_
  · rw [vpl_self, b v]
    constructor
    · rintro ⟨u, hu, hp⟩
      rw [lb_one (by omega)] at hu
      rw [of_decide_eq_true hu] at hp; exact hp
    · intro hp
      refine ⟨cs, ?_, hp⟩
      rw [lb_one (by omega)]; simp
  · rw [upd_ne _ _ (by decide), upd_self]
    exact Or.inr ⟨rfl, fun j h1 h2 => by omega⟩
/-- the first match from a place on -/
def Found (R : Rl) (tn p a b : Nat) : Prop := p ≤ a ∧ a < tn ∧ b ≤ tn ∧ IsBest R a b ∧ ∀ q, p ≤ q → q < a → NoBest R q
def NotFound (R : Rl) (tn p : Nat) : Prop := ∀ q, p ≤ q → q < tn → NoBest R q
theorem A_seek_go {tn : Nat} {tx : Nat → Int32} (hT : Txt tn tx) {M : MI} {MB : MA} {L : ML} {R : Rl} (h : CMean tn tx M MB L R) {p : Nat} :
    ∀ (m i fuel : Nat) (X : Nat → Int32) (Y : Nat → Int64), tn - i ≤ m → m < fuel → p ≤ i → i ≤ tn → X 3 = Int32.ofNat i → (∀ q, p ≤ q → q < i → NoBest R q) →
      (f_A_seek_go tn tx fuel 2 M MB L X Y = some (0, M, MB, L) ∧ NotFound R tn p) ∨ (∃ a b, f_A_seek_go tn tx fuel 2 M MB L X Y = some (1, upd (upd M 8 (Int32.ofNat a)) 9 (Int32.ofNat b), MB, L) ∧ p ≤ a ∧ IsBest R a b ∧ a < tn ∧ b ≤ 160 ∧ ∀ q, p ≤ q → q < a → NoBest R q) := by
  have htb := hT.nb
  intro m
  induction m with
  | zero =>
    intro i fuel X Y hm hf hpi hin h3 hno
    obtain ⟨g, rfl⟩ : ∃ g, fuel = g + 1 := ⟨fuel - 1, by omega⟩
    left
    simp only [f_A_seek_go, f_A_seek_2, if_true, h3]
    rw [if_pos ((pn_le (by omega) (by omega)).mpr (by omega))]
    exact ⟨rfl, fun q h1 h2 => hno q h1 (by omega)⟩
  | succ m ih =>
    intro i fuel X Y hm hf hpi hin h3 hno
    obtain ⟨g, rfl⟩ : ∃ g, fuel = g + 1 := ⟨fuel - 1, by omega⟩
    simp only [f_A_seek_go, f_A_seek_2, if_true, h3]
    by_cases q : tn ≤ i
    · left
      rw [if_pos ((pn_le (by omega) (by omega)).mpr q)]
      exact ⟨rfl, fun q h1 h2 => hno q h1 (by omega)⟩
    · rw [if_neg (fun z => q ((pn_le (by omega) (by omega)).mp z))]
      obtain ⟨x, e, hx⟩ := A_longestFit hT h hin
      rw [e]
      simp only [Option.bind_some]
      rcases hx with ⟨j, ex, hj, hb⟩ | ⟨ex, hb⟩
      · right
        rw [if_neg (by rw [ex]; exact pn_ne1 (by omega)), ex]
        exact ⟨i, j, rfl, hpi, hb, by omega, hj, hno⟩
      · rw [if_pos ex]
        refine ih (i + 1) g _ Y (by omega) (by omega) (by omega) (by omega) ?_ ?_
        · rw [upd_self]; exact pn_succ _
        · intro q' h1 h2
          by_cases z : q' = i
          · rw [z]; exact hb
          · exact hno q' h1 (by omega)
theorem CMean.top {tn : Nat} {tx : Nat → Int32} {M : MI} {MB : MA} {L : ML} {R : Rl} (h : CMean tn tx M MB L R) {i j : Nat} (hi : i ≤ tn) (hr : R i j) : j ≤ tn := by
  obtain ⟨n, nx, ot, lab0, cs, ce, h0⟩ := h
  obtain ⟨lab, h, hP⟩ := h0.clean
  exact ((h.fr.iff h.hid i j).mp hr).top hP hi
theorem A_seek {tn : Nat} {tx : Nat → Int32} (hT : Txt tn tx) {M : MI} {MB : MA} {L : ML} {R : Rl} (h : CMean tn tx M MB L R) {p : Nat} (hp : p ≤ tn) :
    (f_A_seek tn tx M MB L (Int32.ofNat p) = some (0, M, MB, L) ∧ NotFound R tn p) ∨ (∃ a b, f_A_seek tn tx M MB L (Int32.ofNat p) = some (1, upd (upd M 8 (Int32.ofNat a)) 9 (Int32.ofNat b), MB, L) ∧ Found R tn p a b) := by
  have htb := hT.nb
  have fu := wk_FUEL_big
  unfold f_A_seek f_A_seek_e
  rcases A_seek_go hT h (p := p) (tn - p) p wk_FUEL (upd (upd (fun _ => 0) 2 (Int32.ofNat p)) 3 (Int32.ofNat p)) (fun _ => 0) (Nat.le_refl _) (by omega) (Nat.le_refl _) hp (upd_self _ _ _) (fun q h1 h2 => by omega) with z | ⟨a, b, e, h1, h2, h3, h4, h5⟩
  · exact Or.inl z
  · exact Or.inr ⟨a, b, e, h1, h3, h.top (by omega) h2.2.1, h2, h5⟩
/-- the automaton does not speak of where it found the last match -/
theorem CMean.found {tn : Nat} {tx : Nat → Int32} {M : MI} {MB : MA} {L : ML} {R : Rl} (h : CMean tn tx M MB L R) (a b : Int32) : CMean tn tx (upd (upd M 8 a) 9 b) MB L R := by
  obtain ⟨n, nx, ot, lab, cs, ce, h⟩ := h
  refine ⟨n, nx, ot, lab, cs, ce, ?_, h.hnb, h.hnx, h.hot, h.hlab, ?_, ?_, h.fr, h.hid, h.hof⟩
  · rw [upd_ne _ _ (by decide), upd_ne _ _ (by decide)]; exact h.hn
  · rw [upd_ne _ _ (by decide), upd_ne _ _ (by decide)]; exact h.hcs
  · rw [upd_ne _ _ (by decide), upd_ne _ _ (by decide)]; exact h.hce
-- 42.rab
/-- a set of the reference: its first character may turn it round -/
def m_neg (s : Nat → Nat) (b : Nat) : Bool := decide (s b = 94)
def m_set (s : Nat → Nat) (b e c : Nat) : Bool := inset s e 24 (if m_neg s b then b + 1 else b) c != m_neg s b
/-- labels of the reference's nodes -/
def rLab (tn : Nat) (tx : Nat → Int32) (s : Nat → Nat) (k fr to : Int32) : Rl :=
  if k = 0 then rl_id else if k = 1 then tl_con tn tx (fun c => c = fr) else if k = 2 then tl_con tn tx (fun c => c ≠ 10) else if k = 3 then tl_con tn tx (fun c => m_set s fr.toNatClampNeg to.toNatClampNeg c.toNatClampNeg = true)
  else if k = 4 then tl_beg tx else if k = 5 then tl_end tn tx else rl_no
/-- where a set's characters stand -/
def SE (x y : Int32) : Prop := ∃ b e : Nat, x = Int32.ofNat b ∧ y = Int32.ofNat e ∧ b < e ∧ e ≤ 24
/-- the arrays of the reference's builder, and the graph -/
abbrev RAbs (tn : Nat) (tx : Nat → Int32) (s : Nat → Nat) (I : MI) (A : MA) (r : RR) : Prop := (I 17 = Int32.ofNat r.n) ∧ (r.n ≤ 160) ∧ (∀ u, u < r.n → nd r.n (A 21 u) (r.on u)) ∧ (∀ u, u < r.n → nd r.n (A 22 u) (r.tw u)) ∧ (∀ u, u < r.n → r.lab u = rLab tn tx s (A 18 u) (A 19 u) (A 20 u)) ∧ (I 25 = Int32.ofNat r.np) ∧ (r.np ≤ 160) ∧ (∀ p, p < r.np → A 26 p = Int32.ofNat (r.hd p) ∧ r.hd p < r.n) ∧ (∀ p, p < r.np → A 27 p = Int32.ofNat (r.tl p) ∧ r.tl p < r.n) ∧ (∀ p, p < r.np → A 18 (r.tl p) = 0) ∧ (∀ u, u < r.n → r.tw u ≠ none → A 18 u = 0) ∧ (I 28 = Int32.ofNat r.k) ∧ (r.k ≤ 10) ∧ (∀ j, j < r.k → nd r.np (A 29 j) (r.ch j)) ∧ (∀ j, j < r.k → A 30 j = Int32.ofNat (r.rw j) ∧ r.rw j < r.np) ∧ (∀ j, j < r.k → nd r.np (A 31 j) (r.pt j)) ∧ (∀ u, u < r.n → A 18 u = 3 → SE (A 19 u) (A 20 u)) ∧ (∀ u, u < r.n → A 18 u ≠ 0 → r.on u ≠ none)
theorem RAbs.n {tn : Nat} {tx : Nat → Int32} {s : Nat → Nat} {I : MI} {A : MA} {r : RR} (h_ : RAbs tn tx s I A r) : I 17 = Int32.ofNat r.n := h_.1
theorem RAbs.nb {tn : Nat} {tx : Nat → Int32} {s : Nat → Nat} {I : MI} {A : MA} {r : RR} (h_ : RAbs tn tx s I A r) : r.n ≤ 160 := h_.2.1
theorem RAbs.on {tn : Nat} {tx : Nat → Int32} {s : Nat → Nat} {I : MI} {A : MA} {r : RR} (h_ : RAbs tn tx s I A r) : ∀ u, u < r.n → nd r.n (A 21 u) (r.on u) := h_.2.2.1
theorem RAbs.tw {tn : Nat} {tx : Nat → Int32} {s : Nat → Nat} {I : MI} {A : MA} {r : RR} (h_ : RAbs tn tx s I A r) : ∀ u, u < r.n → nd r.n (A 22 u) (r.tw u) := h_.2.2.2.1
theorem RAbs.lab {tn : Nat} {tx : Nat → Int32} {s : Nat → Nat} {I : MI} {A : MA} {r : RR} (h_ : RAbs tn tx s I A r) : ∀ u, u < r.n → r.lab u = rLab tn tx s (A 18 u) (A 19 u) (A 20 u) := h_.2.2.2.2.1
theorem RAbs.np {tn : Nat} {tx : Nat → Int32} {s : Nat → Nat} {I : MI} {A : MA} {r : RR} (h_ : RAbs tn tx s I A r) : I 25 = Int32.ofNat r.np := h_.2.2.2.2.2.1
theorem RAbs.pb {tn : Nat} {tx : Nat → Int32} {s : Nat → Nat} {I : MI} {A : MA} {r : RR} (h_ : RAbs tn tx s I A r) : r.np ≤ 160 := h_.2.2.2.2.2.2.1
theorem RAbs.hd {tn : Nat} {tx : Nat → Int32} {s : Nat → Nat} {I : MI} {A : MA} {r : RR} (h_ : RAbs tn tx s I A r) : ∀ p, p < r.np → A 26 p = Int32.ofNat (r.hd p) ∧ r.hd p < r.n := h_.2.2.2.2.2.2.2.1
theorem RAbs.tl {tn : Nat} {tx : Nat → Int32} {s : Nat → Nat} {I : MI} {A : MA} {r : RR} (h_ : RAbs tn tx s I A r) : ∀ p, p < r.np → A 27 p = Int32.ofNat (r.tl p) ∧ r.tl p < r.n := h_.2.2.2.2.2.2.2.2.1
theorem RAbs.tk {tn : Nat} {tx : Nat → Int32} {s : Nat → Nat} {I : MI} {A : MA} {r : RR} (h_ : RAbs tn tx s I A r) : ∀ p, p < r.np → A 18 (r.tl p) = 0 := h_.2.2.2.2.2.2.2.2.2.1
theorem RAbs.of {tn : Nat} {tx : Nat → Int32} {s : Nat → Nat} {I : MI} {A : MA} {r : RR} (h_ : RAbs tn tx s I A r) : ∀ u, u < r.n → r.tw u ≠ none → A 18 u = 0 := h_.2.2.2.2.2.2.2.2.2.2.1
theorem RAbs.k {tn : Nat} {tx : Nat → Int32} {s : Nat → Nat} {I : MI} {A : MA} {r : RR} (h_ : RAbs tn tx s I A r) : I 28 = Int32.ofNat r.k := h_.2.2.2.2.2.2.2.2.2.2.2.1
theorem RAbs.kb {tn : Nat} {tx : Nat → Int32} {s : Nat → Nat} {I : MI} {A : MA} {r : RR} (h_ : RAbs tn tx s I A r) : r.k ≤ 10 := h_.2.2.2.2.2.2.2.2.2.2.2.2.1
theorem RAbs.ch {tn : Nat} {tx : Nat → Int32} {s : Nat → Nat} {I : MI} {A : MA} {r : RR} (h_ : RAbs tn tx s I A r) : ∀ j, j < r.k → nd r.np (A 29 j) (r.ch j) := h_.2.2.2.2.2.2.2.2.2.2.2.2.2.1
theorem RAbs.rw {tn : Nat} {tx : Nat → Int32} {s : Nat → Nat} {I : MI} {A : MA} {r : RR} (h_ : RAbs tn tx s I A r) : ∀ j, j < r.k → A 30 j = Int32.ofNat (r.rw j) ∧ r.rw j < r.np := h_.2.2.2.2.2.2.2.2.2.2.2.2.2.2.1
theorem RAbs.pt {tn : Nat} {tx : Nat → Int32} {s : Nat → Nat} {I : MI} {A : MA} {r : RR} (h_ : RAbs tn tx s I A r) : ∀ j, j < r.k → nd r.np (A 31 j) (r.pt j) := h_.2.2.2.2.2.2.2.2.2.2.2.2.2.2.2.1
theorem RAbs.se {tn : Nat} {tx : Nat → Int32} {s : Nat → Nat} {I : MI} {A : MA} {r : RR} (h_ : RAbs tn tx s I A r) : ∀ u, u < r.n → A 18 u = 3 → SE (A 19 u) (A 20 u) := h_.2.2.2.2.2.2.2.2.2.2.2.2.2.2.2.2.1
theorem RAbs.oo {tn : Nat} {tx : Nat → Int32} {s : Nat → Nat} {I : MI} {A : MA} {r : RR} (h_ : RAbs tn tx s I A r) : ∀ u, u < r.n → A 18 u ≠ 0 → r.on u ≠ none := h_.2.2.2.2.2.2.2.2.2.2.2.2.2.2.2.2.2
/-- what building changes -/
abbrev MFr (I I' : MI) (A A' : MA) : Prop := (∀ j, (j < 17 ∨ 29 ≤ j) → I' j = I j) ∧ (∀ j, (j < 18 ∨ 32 ≤ j) → A' j = A j)
theorem MFr.i {I I' : MI} {A A' : MA} (h_ : MFr I I' A A') : ∀ j, (j < 17 ∨ 29 ≤ j) → I' j = I j := h_.1
theorem MFr.a {I I' : MI} {A A' : MA} (h_ : MFr I I' A A') : ∀ j, (j < 18 ∨ 32 ≤ j) → A' j = A j := h_.2
theorem MFr.refl (I : MI) (A : MA) : MFr I I A A := ⟨fun _ _ => rfl, fun _ _ => rfl⟩
theorem MFr.trans {I I' I'' : MI} {A A' A'' : MA} (h : MFr I I' A A') (h' : MFr I' I'' A' A'') : MFr I I'' A A'' := ⟨fun j hj => (h'.i j hj).trans (h.i j hj), fun j hj => (h'.a j hj).trans (h.a j hj)⟩
theorem MFr.ui {I I' : MI} {A A' : MA} (h : MFr I I' A A') {j : Nat} (hj : 17 ≤ j ∧ j < 29) (v : Int32) : MFr I (upd I' j v) A A' := ⟨fun k hk => by rw [upd_ne _ _ (by omega)]; exact h.i k hk, h.a⟩
theorem MFr.ua {I I' : MI} {A A' : MA} (h : MFr I I' A A') {j : Nat} (hj : 18 ≤ j ∧ j < 32) (v : Nat → Int32) : MFr I I' A (va_up A' j v) := ⟨h.i, fun k hk => by rw [va_up_ne _ _ (by omega)]; exact h.a k hk⟩
theorem pn_i160 {n : Nat} (h : n < 160) : wk_inb (Int32.ofNat n) 160 = true := (pn_inb (by omega)).mpr h
theorem pn_i26 {n : Nat} (h : n < 26) : wk_inb (Int32.ofNat n) 26 = true := (pn_inb (by omega)).mpr h
theorem va_up2 {α : Type} (f : Nat → α) (k : Nat) (v w : α) : va_up (va_up f k v) k w = va_up f k w := by
  funext j; simp only [va_up]; split <;> rfl
theorem B_node {I : MI} {A : MA} {n : Nat} (a b c : Int32) (hn : I 17 = Int32.ofNat n) (h : n < 160) :
    f_M_node I A a b c = some (Int32.ofNat n, upd I 17 (Int32.ofNat (n + 1)), va_up (va_up (va_up (va_up (va_up A 18 (upd (A 18) n a)) 19 (upd (A 19) n b)) 20 (upd (A 20) n c)) 21 (upd (A 21) n (-1))) 22 (upd (A 22) n (-1))) := by
  have hi := pn_i160 h
  have h1 : va_up A 18 (upd (A 18) n a) 19 = A 19 := va_up_ne _ _ (by decide)
  have h2 : va_up (va_up A 18 (upd (A 18) n a)) 19 (upd (A 19) n b) 20 = A 20 := by rw [va_up_ne _ _ (by decide), va_up_ne _ _ (by decide)]
  have h3 : va_up (va_up (va_up A 18 (upd (A 18) n a)) 19 (upd (A 19) n b)) 20 (upd (A 20) n c) 21 = A 21 := by rw [va_up_ne _ _ (by decide), va_up_ne _ _ (by decide), va_up_ne _ _ (by decide)]
  have h4 : va_up (va_up (va_up (va_up A 18 (upd (A 18) n a)) 19 (upd (A 19) n b)) 20 (upd (A 20) n c)) 21 (upd (A 21) n (-1)) 22 = A 22 := by rw [va_up_ne _ _ (by decide), va_up_ne _ _ (by decide), va_up_ne _ _ (by decide), va_up_ne _ _ (by decide)]
  simp only [f_M_node, wk_let, hn, hi, if_true, pn_nat (show n < 2147483648 by omega), h1, h2, h3, h4, pn_succ, upd_self, pn_pred]
theorem B_link1 {I : MI} {A : MA} {a : Nat} (b : Int32) (h : a < 160) (hn : A 21 a = -1) : f_M_link I A (Int32.ofNat a) b = some (0, I, va_up A 21 (upd (A 21) a b)) := by
  have h0 : ¬ (0 : Int32) ≤ -1 := by decide
  simp only [f_M_link, pn_i160 h, if_true, pn_nat (show a < 2147483648 by omega), hn, if_neg h0, wk_let, f_M_link_26]
theorem B_link2 {I : MI} {A : MA} {a v : Nat} (b : Int32) (h : a < 160) (hv : v < 160) (hn : A 21 a = Int32.ofNat v) : f_M_link I A (Int32.ofNat a) b = some (0, I, va_up A 22 (upd (A 22) a b)) := by
  have h0 : (0 : Int32) ≤ Int32.ofNat v := pn_0le (by omega)
  simp only [f_M_link, pn_i160 h, if_true, pn_nat (show a < 2147483648 by omega), hn, if_pos h0, wk_let, f_M_link_26]
theorem B_piece {I : MI} {A : MA} {p : Nat} (a b : Int32) (hp : I 25 = Int32.ofNat p) (h : p < 160) :
    f_M_piece I A a b = some (Int32.ofNat p, upd I 25 (Int32.ofNat (p + 1)), va_up (va_up A 26 (upd (A 26) p a)) 27 (upd (A 27) p b)) := by
  have h1 : va_up A 26 (upd (A 26) p a) 27 = A 27 := va_up_ne _ _ (by decide)
  simp only [f_M_piece, wk_let, hp, pn_i160 h, if_true, pn_nat (show p < 2147483648 by omega), h1, pn_succ, upd_self, pn_pred]
theorem rlab_upd {tn : Nat} {tx : Nat → Int32} {s : Nat → Nat} {k u : Nat} {lab : Nat → Rl} {f fr to : Nat → Int32} {a b c : Int32} (h : u ≠ k → lab u = rLab tn tx s (f u) (fr u) (to u)) :
    sU lab k (rLab tn tx s a b c) u = rLab tn tx s (upd f k a u) (upd fr k b u) (upd to k c u) := by
  by_cases e : u = k
  · rw [e, upd_self, sU_self, upd_self, upd_self]
  · rw [upd_ne _ _ e, sU_ne _ _ e, upd_ne _ _ e, upd_ne _ _ e]; exact h e
theorem rlab_upd0 {tn : Nat} {tx : Nat → Int32} {s : Nat → Nat} {k u : Nat} {lab : Nat → Rl} {f fr to : Nat → Int32} {b c : Int32} (h : u ≠ k → lab u = rLab tn tx s (f u) (fr u) (to u)) :
    sU lab k rl_id u = rLab tn tx s (upd f k 0 u) (upd fr k b u) (upd to k c u) := rlab_upd (a := 0) h
theorem se_upd {k u : Nat} {f fr to : Nat → Int32} {a b c : Int32} (h : u ≠ k → f u = 3 → SE (fr u) (to u)) (hn : a = 3 → SE b c) : upd f k a u = 3 → SE (upd fr k b u) (upd to k c u) := by
  by_cases e : u = k
  · rw [e, upd_self, upd_self, upd_self]; exact hn
  · rw [upd_ne _ _ e, upd_ne _ _ e, upd_ne _ _ e]; exact h e
theorem oo_s {k u : Nat} {g : Nat → Option Nat} {v : Nat} (h : u ≠ k → g u ≠ none) : sU g k (some v) u ≠ none := by
  by_cases e : u = k
  · rw [e, sU_self]; exact fun z => by cases z
  · rw [sU_ne _ _ e]; exact h e
theorem oo_0 {k u : Nat} {f : Nat → Int32} {g : Nat → Option Nat} (h : u ≠ k → f u ≠ 0 → g u ≠ none) : upd f k 0 u ≠ 0 → sU g k none u ≠ none := by
  by_cases e : u = k
  · rw [e, upd_self]; exact fun z => (z rfl).elim
  · rw [upd_ne _ _ e, sU_ne _ _ e]; exact h e
theorem se_0 {b c : Int32} : (0 : Int32) = 3 → SE b c := fun z => absurd z (by decide)
/-- a kind that stays where no node is added -/
theorem kd_ne {f : Nat → Int32} {n u : Nat} {a : Int32} (h : u < n) : upd f n a u = f u := upd_ne _ _ (by omega)
/-- an empty piece -/
theorem RAbs.nothing {tn : Nat} {tx : Nat → Int32} {s : Nat → Nat} {I : MI} {A : MA} {r : RR} (h : RAbs tn tx s I A r) (hn : r.n < 160) (hp : r.np < 160) :
    Res (f_M_nothing I A) (fun z => z.1 = Int32.ofNat r.np ∧ RAbs tn tx s z.2.1 z.2.2 (r_nothing r) ∧ MFr I z.2.1 A z.2.2 ∧ z.2.2 29 = A 29) := by
  have e25 : upd I 17 (Int32.ofNat (r.n + 1)) 25 = Int32.ofNat r.np := by rw [upd_ne _ _ (by decide)]; exact h.np
  simp only [f_M_nothing, B_node 0 0 0 h.n hn, Option.bind_some, B_piece _ _ e25 hp]
  have hm : r.n ≤ (r_nothing r).n := Nat.le_succ _
  have hm1 : r.n < (r_nothing r).n := Nat.lt_succ_self _
  have hq : r.np ≤ (r_nothing r).np := Nat.le_succ _
  have hlt : ∀ u, u < (r_nothing r).n → u ≠ r.n → u < r.n := fun u hu e => by have : u < r.n + 1 := hu; omega
  have hlp : ∀ u, u < (r_nothing r).np → u ≠ r.np → u < r.np := fun u hu e => by have : u < r.np + 1 := hu; omega
  refine Res.mk ⟨rfl, ⟨?_, hn, fun u hu => ?_, fun u hu => ?_, fun u hu => ?_, ?_, hp, fun p hp' => ?_, fun p hp' => ?_, fun p hp' => ?_, fun u hu => ?_, ?_, h.kb, fun j hj => ?_, fun j hj => ?_, fun j hj => ?_, fun u hu => ?_, fun u hu => ?_⟩, ?_, ?_⟩
  · simp only [upd, if_true, if_false, Nat.reduceEqDiff]; rfl
  · simp only [va_up, if_true, if_false, Nat.reduceEqDiff]; exact nd_upd (fun e => (h.on u (hlt u hu e)).mono hm) rfl
  · simp only [va_up, if_true, if_false, Nat.reduceEqDiff]; exact nd_upd (fun e => (h.tw u (hlt u hu e)).mono hm) rfl
  · simp only [va_up, if_true, if_false, Nat.reduceEqDiff]; exact rlab_upd0 (fun e => h.lab u (hlt u hu e))
  · simp only [upd_self]; rfl
  · simp only [va_up, if_true, if_false, Nat.reduceEqDiff]; exact of_upd (fun e => ⟨(h.hd p (hlp p hp' e)).1, Nat.lt_of_lt_of_le (h.hd p (hlp p hp' e)).2 hm⟩) hm1
  · simp only [va_up, if_true, if_false, Nat.reduceEqDiff]; exact of_upd (fun e => ⟨(h.tl p (hlp p hp' e)).1, Nat.lt_of_lt_of_le (h.tl p (hlp p hp' e)).2 hm⟩) hm1
  · simp only [va_up, if_true, if_false, Nat.reduceEqDiff]
    by_cases e : p = r.np
    · have e2 : (r_nothing r).tl p = r.n := by rw [e]; exact sU_self _ _ _
      rw [e2, upd_self]
    · have e2 : (r_nothing r).tl p = r.tl p := sU_ne _ _ e
      rw [e2, kd_ne (h.tl p (hlp p hp' e)).2]; exact h.tk p (hlp p hp' e)
  · simp only [va_up, if_true, if_false, Nat.reduceEqDiff]; exact kz_upd (fun e => h.of u (hlt u hu e))
  · simp only [upd, if_true, if_false, Nat.reduceEqDiff]; exact h.k
  · simp only [va_up, if_true, if_false, Nat.reduceEqDiff]; exact (h.ch j hj).mono hq
  · simp only [va_up, if_true, if_false, Nat.reduceEqDiff]; exact ⟨(h.rw j hj).1, Nat.lt_of_lt_of_le (h.rw j hj).2 hq⟩
  · simp only [va_up, if_true, if_false, Nat.reduceEqDiff]; exact (h.pt j hj).mono hq
  · simp only [va_up, if_true, if_false, Nat.reduceEqDiff]; exact se_upd (fun e => h.se u (hlt u hu e)) se_0
  · simp only [va_up, if_true, if_false, Nat.reduceEqDiff]; exact oo_0 (fun e => h.oo u (hlt u hu e))
  · exact ((((((((MFr.refl I A).ui (j := 17) (by omega) _).ua (j := 18) (by omega) _).ua (j := 19) (by omega) _).ua (j := 20) (by omega) _).ua (j := 21) (by omega) _).ua (j := 22) (by omega) _).ui (j := 25) (by omega) _).ua (j := 26) (by omega) _ |>.ua (j := 27) (by omega) _
  · simp only [va_up, if_true, if_false, Nat.reduceEqDiff]
/-- a single node and its end -/
theorem RAbs.single {tn : Nat} {tx : Nat → Int32} {s : Nat → Nat} {I : MI} {A : MA} {r : RR} (h : RAbs tn tx s I A r) (hn : r.n + 1 < 160) (hp : r.np < 160) (k a b : Int32) (hse : k = 3 → SE a b) :
    Res (f_M_single I A k a b) (fun z => z.1 = Int32.ofNat r.np ∧ RAbs tn tx s z.2.1 z.2.2 (r_single r (rLab tn tx s k a b)) ∧ MFr I z.2.1 A z.2.2) := by
  have e17 : upd I 17 (Int32.ofNat (r.n + 1)) 17 = Int32.ofNat (r.n + 1) := upd_self _ _ _
  have e25 : upd (upd I 17 (Int32.ofNat (r.n + 1))) 17 (Int32.ofNat (r.n + 1 + 1)) 25 = Int32.ofNat r.np := by rw [upd_ne _ _ (by decide), upd_ne _ _ (by decide)]; exact h.np
  obtain ⟨A2, hA2⟩ : ∃ A2, A2 = va_up (va_up (va_up (va_up (va_up A 18 (upd (A 18) r.n k)) 19 (upd (A 19) r.n a)) 20 (upd (A 20) r.n b)) 21 (upd (A 21) r.n (-1))) 22 (upd (A 22) r.n (-1)) := ⟨_, rfl⟩
  obtain ⟨A3, hA3⟩ : ∃ A3, A3 = va_up (va_up (va_up (va_up (va_up A2 18 (upd (A2 18) (r.n + 1) 0)) 19 (upd (A2 19) (r.n + 1) 0)) 20 (upd (A2 20) (r.n + 1) 0)) 21 (upd (A2 21) (r.n + 1) (-1))) 22 (upd (A2 22) (r.n + 1) (-1)) := ⟨_, rfl⟩
  have a18 : A3 18 = upd (upd (A 18) r.n k) (r.n + 1) 0 := by rw [hA3, hA2]; simp only [va_up, if_true, if_false, Nat.reduceEqDiff]
  have a19 : A3 19 = upd (upd (A 19) r.n a) (r.n + 1) 0 := by rw [hA3, hA2]; simp only [va_up, if_true, if_false, Nat.reduceEqDiff]
  have a20 : A3 20 = upd (upd (A 20) r.n b) (r.n + 1) 0 := by rw [hA3, hA2]; simp only [va_up, if_true, if_false, Nat.reduceEqDiff]
  have a21 : A3 21 = upd (upd (A 21) r.n (-1)) (r.n + 1) (-1) := by rw [hA3, hA2]; simp only [va_up, if_true, if_false, Nat.reduceEqDiff]
  have a22 : A3 22 = upd (upd (A 22) r.n (-1)) (r.n + 1) (-1) := by rw [hA3, hA2]; simp only [va_up, if_true, if_false, Nat.reduceEqDiff]
  have ao : ∀ j, j < 18 ∨ 23 ≤ j → A3 j = A j := fun j hj => by
    rw [hA3, va_up_ne _ _ (by omega), va_up_ne _ _ (by omega), va_up_ne _ _ (by omega), va_up_ne _ _ (by omega), va_up_ne _ _ (by omega), hA2, va_up_ne _ _ (by omega), va_up_ne _ _ (by omega), va_up_ne _ _ (by omega), va_up_ne _ _ (by omega), va_up_ne _ _ (by omega)]
  have l1 : A3 21 r.n = -1 := by rw [a21, upd_ne _ _ (by omega), upd_self]
  have q26 : va_up A3 21 (upd (A3 21) r.n (Int32.ofNat (r.n + 1))) 26 = A 26 := by rw [va_up_ne _ _ (by decide)]; exact ao 26 (by omega)
  have q27 : va_up A3 21 (upd (A3 21) r.n (Int32.ofNat (r.n + 1))) 27 = A 27 := by rw [va_up_ne _ _ (by decide)]; exact ao 27 (by omega)
  simp only [f_M_single, B_node k a b h.n (show r.n < 160 by omega), Option.bind_some, ← hA2, B_node 0 0 0 e17 hn, ← hA3, B_link1 _ (show r.n < 160 by omega) l1, B_piece _ _ e25 hp, q26, q27]
  have hm : r.n ≤ (r_single r (rLab tn tx s k a b)).n := by show r.n ≤ r.n + 2; omega
  have hm1 : r.n < (r_single r (rLab tn tx s k a b)).n := by show r.n < r.n + 2; omega
  have hm2 : r.n + 1 < (r_single r (rLab tn tx s k a b)).n := by show r.n + 1 < r.n + 2; omega
  have hq : r.np ≤ (r_single r (rLab tn tx s k a b)).np := Nat.le_succ _
  have hlt : ∀ u, u < (r_single r (rLab tn tx s k a b)).n → u ≠ r.n → u ≠ r.n + 1 → u < r.n := fun u hu e e' => by have : u < r.n + 2 := hu; omega
  have hlp : ∀ u, u < (r_single r (rLab tn tx s k a b)).np → u ≠ r.np → u < r.np := fun u hu e => by have : u < r.np + 1 := hu; omega
  refine Res.mk ⟨rfl, ⟨?_, hn, fun u hu => ?_, fun u hu => ?_, fun u hu => ?_, ?_, hp, fun p hp' => ?_, fun p hp' => ?_, fun p hp' => ?_, fun u hu => ?_, ?_, h.kb, fun j hj => ?_, fun j hj => ?_, fun j hj => ?_, fun u hu => ?_, fun u hu hk0 => ?_⟩, ?_⟩
  · simp only [upd, if_true, if_false, Nat.reduceEqDiff]; rfl
  · simp only [va_up, if_true, if_false, Nat.reduceEqDiff, a21]
    exact nd_upd (fun _ => nd_upd (fun e1 => nd_upd (fun e => (h.on u (hlt u hu e e1)).mono hm) rfl) rfl) ⟨hm2, rfl⟩
  · simp only [va_up, if_true, if_false, Nat.reduceEqDiff, a22]
    exact nd_upd (fun e1 => nd_upd (fun e => (h.tw u (hlt u hu e e1)).mono hm) rfl) rfl
  · simp only [va_up, if_true, if_false, Nat.reduceEqDiff, a18, a19, a20]
    exact rlab_upd0 (fun e1 => rlab_upd (fun e => h.lab u (hlt u hu e e1)))
  · simp only [upd_self]; rfl
  · simp only [va_up, if_true, if_false, Nat.reduceEqDiff]; exact of_upd (fun e => ⟨(h.hd p (hlp p hp' e)).1, Nat.lt_of_lt_of_le (h.hd p (hlp p hp' e)).2 hm⟩) hm1
  · simp only [va_up, if_true, if_false, Nat.reduceEqDiff]; exact of_upd (fun e => ⟨(h.tl p (hlp p hp' e)).1, Nat.lt_of_lt_of_le (h.tl p (hlp p hp' e)).2 hm⟩) hm2
  · simp only [va_up, if_true, if_false, Nat.reduceEqDiff, a18]
    by_cases e : p = r.np
    · have e2 : (r_single r (rLab tn tx s k a b)).tl p = r.n + 1 := by rw [e]; exact sU_self _ _ _
      rw [e2, upd_self]
    · have e2 : (r_single r (rLab tn tx s k a b)).tl p = r.tl p := sU_ne _ _ e
      have := (h.tl p (hlp p hp' e)).2
      rw [e2, upd_ne _ _ (by omega), upd_ne _ _ (by omega)]; exact h.tk p (hlp p hp' e)
  · simp only [va_up, if_true, if_false, Nat.reduceEqDiff, a18]; exact kz_upd (fun e1 => kz_none (fun e => h.of u (hlt u hu e e1)))
  · simp only [upd, if_true, if_false, Nat.reduceEqDiff]; exact h.k
  · simp only [va_up, if_true, if_false, Nat.reduceEqDiff, ao 29 (by omega)]; exact (h.ch j hj).mono hq
  · simp only [va_up, if_true, if_false, Nat.reduceEqDiff, ao 30 (by omega)]; exact ⟨(h.rw j hj).1, Nat.lt_of_lt_of_le (h.rw j hj).2 hq⟩
  · simp only [va_up, if_true, if_false, Nat.reduceEqDiff, ao 31 (by omega)]; exact (h.pt j hj).mono hq
  · simp only [va_up, if_true, if_false, Nat.reduceEqDiff, a18, a19, a20]; exact se_upd (fun e1 => se_upd (fun e => h.se u (hlt u hu e e1)) hse) se_0
  · simp only [va_up, if_true, if_false, Nat.reduceEqDiff, a18] at hk0
    refine oo_s (fun e => ?_)
    by_cases e1 : u = r.n + 1
    · rw [e1, upd_self] at hk0; exact (hk0 rfl).elim
    · rw [upd_ne _ _ e1, upd_ne _ _ e] at hk0
      rw [sU_ne _ _ e1, sU_ne _ _ e]; exact h.oo u (hlt u hu e e1) hk0
  · refine ⟨fun j hj => ?_, fun j hj => ?_⟩
    · dsimp only; rw [upd_ne _ _ (by omega), upd_ne _ _ (by omega), upd_ne _ _ (by omega)]
    · dsimp only; rw [va_up_ne _ _ (by omega), va_up_ne _ _ (by omega), va_up_ne _ _ (by omega)]; exact ao j (by omega)
-- 43.rab2
/-- one piece behind another -/
theorem RAbs.behind {tn : Nat} {tx : Nat → Int32} {s : Nat → Nat} {I : MI} {A : MA} {r : RR} (h : RAbs tn tx s I A r) {p q : Nat} (hp : p < r.np) (hq : q < r.np) (hon : r.on (r.tl p) = none) (hnp : r.np < 160) :
    Res (f_M_behind I A (Int32.ofNat p) (Int32.ofNat q)) (fun z => z.1 = Int32.ofNat r.np ∧ RAbs tn tx s z.2.1 z.2.2 (r_seq r p q) ∧ MFr I z.2.1 A z.2.2) := by
  obtain ⟨t1, t2⟩ := h.tl p hp
  obtain ⟨d1, d2⟩ := h.hd q hq
  obtain ⟨d3, d4⟩ := h.hd p hp
  obtain ⟨t3, t4⟩ := h.tl q hq
  have hnb := h.nb
  have l1 : A 21 (r.tl p) = -1 := by have := h.on _ t2; rw [hon] at this; exact this
  have n1 : (Int32.ofNat p).toNatClampNeg = p := pn_nat (by omega)
  have n2 : (Int32.ofNat q).toNatClampNeg = q := pn_nat (by omega)
  have h0 : (0 : Int32) ≤ Int32.ofNat q := pn_0le (by omega)
  have q26 : va_up A 21 (upd (A 21) (r.tl p) (Int32.ofNat (r.hd q))) 26 = A 26 := va_up_ne _ _ (by decide)
  have q27 : va_up A 21 (upd (A 21) (r.tl p) (Int32.ofNat (r.hd q))) 27 = A 27 := va_up_ne _ _ (by decide)
  simp only [f_M_behind, if_pos h0, pn_i160 (show p < 160 by omega), pn_i160 (show q < 160 by omega), if_true, n1, n2, t1, d1, B_link1 _ (show r.tl p < 160 by omega) l1, Option.bind_some, q26, q27, d3, t3, B_piece _ _ h.np hnp]
  have hq' : r.np ≤ (r_seq r p q).np := Nat.le_succ _
  have hlp : ∀ u, u < (r_seq r p q).np → u ≠ r.np → u < r.np := fun u hu e => by have : u < r.np + 1 := hu; omega
  refine Res.mk ⟨rfl, ⟨?_, h.nb, fun u hu => ?_, fun u hu => ?_, fun u hu => ?_, ?_, hnp, fun p' hp' => ?_, fun p' hp' => ?_, fun p' hp' => ?_, fun u hu => ?_, ?_, h.kb, fun j hj => ?_, fun j hj => ?_, fun j hj => ?_, fun u hu => ?_, fun u hu hk0 => ?_⟩, ?_⟩
  · simp only [upd, if_true, if_false, Nat.reduceEqDiff]; exact h.n
  · simp only [va_up, if_true, if_false, Nat.reduceEqDiff]; exact nd_upd (fun _ => h.on u hu) ⟨d2, rfl⟩
  · simp only [va_up, if_true, if_false, Nat.reduceEqDiff]; exact h.tw u hu
  · simp only [va_up, if_true, if_false, Nat.reduceEqDiff]; exact h.lab u hu
  · simp only [upd_self]; rfl
  · simp only [va_up, if_true, if_false, Nat.reduceEqDiff]; exact of_upd (fun e => h.hd p' (hlp p' hp' e)) d4
  · simp only [va_up, if_true, if_false, Nat.reduceEqDiff]; exact of_upd (fun e => h.tl p' (hlp p' hp' e)) t4
  · simp only [va_up, if_true, if_false, Nat.reduceEqDiff]
    by_cases e : p' = r.np
    · have e2 : (r_seq r p q).tl p' = r.tl q := by rw [e]; exact sU_self _ _ _
      rw [e2]; exact h.tk q hq
    · have e2 : (r_seq r p q).tl p' = r.tl p' := sU_ne _ _ e
      rw [e2]; exact h.tk p' (hlp p' hp' e)
  · simp only [va_up, if_true, if_false, Nat.reduceEqDiff]; exact h.of u hu
  · simp only [upd, if_true, if_false, Nat.reduceEqDiff]; exact h.k
  · simp only [va_up, if_true, if_false, Nat.reduceEqDiff]; exact (h.ch j hj).mono hq'
  · simp only [va_up, if_true, if_false, Nat.reduceEqDiff]; exact ⟨(h.rw j hj).1, Nat.lt_of_lt_of_le (h.rw j hj).2 hq'⟩
  · simp only [va_up, if_true, if_false, Nat.reduceEqDiff]; exact (h.pt j hj).mono hq'
  · simp only [va_up, if_true, if_false, Nat.reduceEqDiff]; exact h.se u hu
  · simp only [va_up, if_true, if_false, Nat.reduceEqDiff] at hk0; exact oo_s (fun _ => h.oo u hu hk0)
  · refine ⟨fun j hj => ?_, fun j hj => ?_⟩
    · dsimp only; rw [upd_ne _ _ (by omega)]
    · dsimp only; rw [va_up_ne _ _ (by omega), va_up_ne _ _ (by omega), va_up_ne _ _ (by omega)]
theorem B_behind0 {I : MI} {A : MA} (p : Int32) : f_M_behind I A p (-1) = some (p, I, A) := by
  have h0 : ¬ (0 : Int32) ≤ -1 := by decide
  simp only [f_M_behind, if_neg h0]
/-- two empty nodes -/
def A_two (A : MA) (n : Nat) : MA :=
  va_up (va_up (va_up (va_up (va_up (va_up (va_up (va_up (va_up (va_up A 18 (upd (A 18) n 0)) 19 (upd (A 19) n 0)) 20 (upd (A 20) n 0)) 21 (upd (A 21) n (-1))) 22 (upd (A 22) n (-1))) 18 (upd (upd (A 18) n 0) (n + 1) 0)) 19 (upd (upd (A 19) n 0) (n + 1) 0)) 20 (upd (upd (A 20) n 0) (n + 1) 0)) 21 (upd (upd (A 21) n (-1)) (n + 1) (-1))) 22 (upd (upd (A 22) n (-1)) (n + 1) (-1))
theorem A_two18 (A : MA) (n : Nat) : A_two A n 18 = upd (upd (A 18) n 0) (n + 1) 0 := by simp only [A_two, va_up, if_true, if_false, Nat.reduceEqDiff]
theorem A_two19 (A : MA) (n : Nat) : A_two A n 19 = upd (upd (A 19) n 0) (n + 1) 0 := by simp only [A_two, va_up, if_true, if_false, Nat.reduceEqDiff]
theorem A_two20 (A : MA) (n : Nat) : A_two A n 20 = upd (upd (A 20) n 0) (n + 1) 0 := by simp only [A_two, va_up, if_true, if_false, Nat.reduceEqDiff]
theorem A_two21 (A : MA) (n : Nat) : A_two A n 21 = upd (upd (A 21) n (-1)) (n + 1) (-1) := by simp only [A_two, va_up, if_true, if_false, Nat.reduceEqDiff]
theorem A_two22 (A : MA) (n : Nat) : A_two A n 22 = upd (upd (A 22) n (-1)) (n + 1) (-1) := by simp only [A_two, va_up, if_true, if_false, Nat.reduceEqDiff]
theorem A_twoo (A : MA) (n : Nat) {j : Nat} (hj : j < 18 ∨ 23 ≤ j) : A_two A n j = A j := by
  unfold A_two
  rw [va_up_ne _ _ (by omega), va_up_ne _ _ (by omega), va_up_ne _ _ (by omega), va_up_ne _ _ (by omega), va_up_ne _ _ (by omega), va_up_ne _ _ (by omega), va_up_ne _ _ (by omega), va_up_ne _ _ (by omega), va_up_ne _ _ (by omega), va_up_ne _ _ (by omega)]
theorem B_two {I : MI} {A : MA} {n : Nat} (hn : I 17 = Int32.ofNat n) (h : n + 1 < 160) {β : Type} (g : Int32 → MI → MA → Int32 → MI → MA → Option β) :
    (f_M_node I A 0 0 0).bind (fun z1 => (f_M_node z1.2.1 z1.2.2 0 0 0).bind (fun z2 => g z1.1 z1.2.1 z1.2.2 z2.1 z2.2.1 z2.2.2)) = g (Int32.ofNat n) (upd I 17 (Int32.ofNat (n + 1))) (va_up (va_up (va_up (va_up (va_up A 18 (upd (A 18) n 0)) 19 (upd (A 19) n 0)) 20 (upd (A 20) n 0)) 21 (upd (A 21) n (-1))) 22 (upd (A 22) n (-1))) (Int32.ofNat (n + 1)) (upd (upd I 17 (Int32.ofNat (n + 1))) 17 (Int32.ofNat (n + 2))) (A_two A n) := by
  have e17 : upd I 17 (Int32.ofNat (n + 1)) 17 = Int32.ofNat (n + 1) := upd_self _ _ _
  rw [B_node 0 0 0 hn (by omega)]
  simp only [Option.bind_some]
  rw [B_node 0 0 0 e17 h]
  simp only [Option.bind_some]
  have e18 : va_up (va_up (va_up (va_up (va_up A 18 (upd (A 18) n 0)) 19 (upd (A 19) n 0)) 20 (upd (A 20) n 0)) 21 (upd (A 21) n (-1))) 22 (upd (A 22) n (-1)) 18 = upd (A 18) n 0 := by simp only [va_up, if_true, if_false, Nat.reduceEqDiff]
  have e19 : va_up (va_up (va_up (va_up (va_up A 18 (upd (A 18) n 0)) 19 (upd (A 19) n 0)) 20 (upd (A 20) n 0)) 21 (upd (A 21) n (-1))) 22 (upd (A 22) n (-1)) 19 = upd (A 19) n 0 := by simp only [va_up, if_true, if_false, Nat.reduceEqDiff]
  have e20 : va_up (va_up (va_up (va_up (va_up A 18 (upd (A 18) n 0)) 19 (upd (A 19) n 0)) 20 (upd (A 20) n 0)) 21 (upd (A 21) n (-1))) 22 (upd (A 22) n (-1)) 20 = upd (A 20) n 0 := by simp only [va_up, if_true, if_false, Nat.reduceEqDiff]
  have e21 : va_up (va_up (va_up (va_up (va_up A 18 (upd (A 18) n 0)) 19 (upd (A 19) n 0)) 20 (upd (A 20) n 0)) 21 (upd (A 21) n (-1))) 22 (upd (A 22) n (-1)) 21 = upd (A 21) n (-1) := by simp only [va_up, if_true, if_false, Nat.reduceEqDiff]
  have e22 : va_up (va_up (va_up (va_up (va_up A 18 (upd (A 18) n 0)) 19 (upd (A 19) n 0)) 20 (upd (A 20) n 0)) 21 (upd (A 21) n (-1))) 22 (upd (A 22) n (-1)) 22 = upd (A 22) n (-1) := by simp only [va_up, if_true, if_false, Nat.reduceEqDiff]
  rw [e18, e19, e20, e21, e22]
  rfl
/-- a choice of two -/
theorem RAbs.alt {tn : Nat} {tx : Nat → Int32} {s : Nat → Nat} {I : MI} {A : MA} {r : RR} (h : RAbs tn tx s I A r) {p q : Nat} (hp : p < r.np) (hq : q < r.np) (hop : r.on (r.tl p) = none) (hoq : r.on (r.tl q) = none) (hne : r.tl q ≠ r.tl p) (hn : r.n + 1 < 160) (hnp : r.np < 160) :
    Res (f_M_either I A (Int32.ofNat p) (Int32.ofNat q)) (fun z => z.1 = Int32.ofNat r.np ∧ RAbs tn tx s z.2.1 z.2.2 (r_alt r p q) ∧ MFr I z.2.1 A z.2.2) := by
  obtain ⟨t1, t2⟩ := h.tl p hp
  obtain ⟨t3, t4⟩ := h.tl q hq
  obtain ⟨d1, d2⟩ := h.hd q hq
  obtain ⟨d3, d4⟩ := h.hd p hp
  have hnb := h.nb
  have l1 : A 21 (r.tl p) = -1 := by have := h.on _ t2; rw [hop] at this; exact this
  have l2 : A 21 (r.tl q) = -1 := by have := h.on _ t4; rw [hoq] at this; exact this
  have n1 : (Int32.ofNat p).toNatClampNeg = p := pn_nat (by omega)
  have n2 : (Int32.ofNat q).toNatClampNeg = q := pn_nat (by omega)
  have h0 : (0 : Int32) ≤ Int32.ofNat p := pn_0le (by omega)
  have e25 : upd (upd I 17 (Int32.ofNat (r.n + 1))) 17 (Int32.ofNat (r.n + 2)) 25 = Int32.ofNat r.np := by rw [upd_ne _ _ (by decide), upd_ne _ _ (by decide)]; exact h.np
  unfold f_M_either
  rw [if_pos h0, B_two h.n hn (fun r1 _ _ r2 I2 A2 => if wk_inb (Int32.ofNat p) 160 = true then (f_M_link I2 A2 r1 ((A2 26) (Int32.ofNat p).toNatClampNeg)).bind (fun z3 => (fun r3 I3 A3 => if wk_inb (Int32.ofNat q) 160 = true then (f_M_link I3 A3 r1 ((A3 26) (Int32.ofNat q).toNatClampNeg)).bind (fun z4 => (fun r4 I4 A4 => if wk_inb (Int32.ofNat p) 160 = true then (f_M_link I4 A4 ((A4 27) (Int32.ofNat p).toNatClampNeg) r2).bind (fun z5 => (fun r5 I5 A5 => if wk_inb (Int32.ofNat q) 160 = true then (f_M_link I5 A5 ((A5 27) (Int32.ofNat q).toNatClampNeg) r2).bind (fun z6 => (fun r6 I6 A6 => (f_M_piece I6 A6 r1 r2).bind (fun z7 => (fun r7 I7 A7 => some (r7, I7, A7)) z7.1 z7.2.1 z7.2.2)) z6.1 z6.2.1 z6.2.2) else none) z5.1 z5.2.1 z5.2.2) else none) z4.1 z4.2.1 z4.2.2) else none) z3.1 z3.2.1 z3.2.2) else none)]
  obtain ⟨B, hB⟩ : ∃ B, B = A_two A r.n := ⟨_, rfl⟩
  have b26 : B 26 = A 26 := by rw [hB]; exact A_twoo A r.n (by omega)
  have b27 : B 27 = A 27 := by rw [hB]; exact A_twoo A r.n (by omega)
  have b21 : B 21 = upd (upd (A 21) r.n (-1)) (r.n + 1) (-1) := by rw [hB]; exact A_two21 A r.n
  rw [← hB]
  simp only [pn_i160 (show p < 160 by omega), pn_i160 (show q < 160 by omega), if_true, n1, n2, b26, d3]
  rw [B_link1 _ (show r.n < 160 by omega) (by rw [b21, upd_ne _ _ (by omega), upd_self])]
  simp only [Option.bind_some]
  obtain ⟨B1, hB1⟩ : ∃ B1, B1 = va_up B 21 (upd (B 21) r.n (Int32.ofNat (r.hd p))) := ⟨_, rfl⟩
  have c21 : B1 21 = upd (upd (upd (A 21) r.n (-1)) (r.n + 1) (-1)) r.n (Int32.ofNat (r.hd p)) := by rw [hB1, va_up_self, b21]
  have co : ∀ j, j ≠ 21 → B1 j = B j := fun j hj => by rw [hB1]; exact va_up_ne _ _ hj
  rw [← hB1, co 26 (by decide), b26, d1, B_link2 (v := r.hd p) _ (show r.n < 160 by omega) (by omega) (by rw [c21, upd_self])]
  simp only [Option.bind_some]
  obtain ⟨B2, hB2⟩ : ∃ B2, B2 = va_up B1 22 (upd (B1 22) r.n (Int32.ofNat (r.hd q))) := ⟨_, rfl⟩
  have do_ : ∀ j, j ≠ 22 → B2 j = B1 j := fun j hj => by rw [hB2]; exact va_up_ne _ _ hj
  rw [← hB2, do_ 27 (by decide), co 27 (by decide), b27, t1, B_link1 _ (show r.tl p < 160 by omega) (by rw [do_ 21 (by decide), c21, upd_ne _ _ (by omega), upd_ne _ _ (by omega), upd_ne _ _ (by omega)]; exact l1)]
  simp only [Option.bind_some]
  obtain ⟨B3, hB3⟩ : ∃ B3, B3 = va_up B2 21 (upd (B2 21) (r.tl p) (Int32.ofNat (r.n + 1))) := ⟨_, rfl⟩
  have eo : ∀ j, j ≠ 21 → B3 j = B2 j := fun j hj => by rw [hB3]; exact va_up_ne _ _ hj
  have e21 : B3 21 = upd (B2 21) (r.tl p) (Int32.ofNat (r.n + 1)) := by rw [hB3, va_up_self]
  rw [← hB3, eo 27 (by decide), do_ 27 (by decide), co 27 (by decide), b27, t3, B_link1 _ (show r.tl q < 160 by omega) (by rw [e21, upd_ne _ _ hne, do_ 21 (by decide), c21, upd_ne _ _ (by omega), upd_ne _ _ (by omega), upd_ne _ _ (by omega)]; exact l2)]
  simp only [Option.bind_some]
  obtain ⟨B4, hB4⟩ : ∃ B4, B4 = va_up B3 21 (upd (B3 21) (r.tl q) (Int32.ofNat (r.n + 1))) := ⟨_, rfl⟩
  have fo : ∀ j, j ≠ 21 → B4 j = B3 j := fun j hj => by rw [hB4]; exact va_up_ne _ _ hj
  rw [← hB4, B_piece _ _ e25 hnp]
  simp only [Option.bind_some]
  have g21 : B4 21 = upd (upd (upd (upd (upd (A 21) r.n (-1)) (r.n + 1) (-1)) r.n (Int32.ofNat (r.hd p))) (r.tl p) (Int32.ofNat (r.n + 1))) (r.tl q) (Int32.ofNat (r.n + 1)) := by
    rw [hB4, va_up_self, e21, do_ 21 (by decide), c21]
  have g22 : B4 22 = upd (upd (upd (A 22) r.n (-1)) (r.n + 1) (-1)) r.n (Int32.ofNat (r.hd q)) := by
    rw [fo 22 (by decide), eo 22 (by decide), hB2, va_up_self, co 22 (by decide), hB, A_two22]
  have gg : ∀ j, j ≠ 21 → j ≠ 22 → B4 j = A_two A r.n j := fun j h1 h2 => by rw [fo j h1, eo j h1, do_ j h2, co j h1, hB]
  have g18 : B4 18 = upd (upd (A 18) r.n 0) (r.n + 1) 0 := by rw [gg 18 (by decide) (by decide), A_two18]
  have g19 : B4 19 = upd (upd (A 19) r.n 0) (r.n + 1) 0 := by rw [gg 19 (by decide) (by decide), A_two19]
  have g20 : B4 20 = upd (upd (A 20) r.n 0) (r.n + 1) 0 := by rw [gg 20 (by decide) (by decide), A_two20]
  have go : ∀ j, j < 18 ∨ 23 ≤ j → B4 j = A j := fun j hj => by rw [gg j (by omega) (by omega)]; exact A_twoo A r.n hj
  have hm : r.n ≤ (r_alt r p q).n := by show r.n ≤ r.n + 2; omega
  have hm1 : r.n < (r_alt r p q).n := by show r.n < r.n + 2; omega
  have hm2 : r.n + 1 < (r_alt r p q).n := by show r.n + 1 < r.n + 2; omega
  have hq' : r.np ≤ (r_alt r p q).np := Nat.le_succ _
  have hlt : ∀ u, u < (r_alt r p q).n → u ≠ r.n → u ≠ r.n + 1 → u < r.n := fun u hu e e' => by have : u < r.n + 2 := hu; omega
  have hlp : ∀ u, u < (r_alt r p q).np → u ≠ r.np → u < r.np := fun u hu e => by have : u < r.np + 1 := hu; omega
  refine Res.mk ⟨rfl, ⟨?_, hn, fun u hu => ?_, fun u hu => ?_, fun u hu => ?_, ?_, hnp, fun p' hp' => ?_, fun p' hp' => ?_, fun p' hp' => ?_, fun u hu => ?_, ?_, h.kb, fun j hj => ?_, fun j hj => ?_, fun j hj => ?_, fun u hu => ?_, fun u hu hk0 => ?_⟩, ?_⟩
  · simp only [upd, if_true, if_false, Nat.reduceEqDiff]; rfl
  · simp only [va_up, if_true, if_false, Nat.reduceEqDiff, g21]
    exact nd_upd (fun _ => nd_upd (fun _ => nd_upd (fun _ => nd_upd (fun e1 => nd_upd (fun e => (h.on u (hlt u hu e e1)).mono hm) rfl) rfl) ⟨Nat.lt_of_lt_of_le d4 hm, rfl⟩) ⟨hm2, rfl⟩) ⟨hm2, rfl⟩
  · simp only [va_up, if_true, if_false, Nat.reduceEqDiff, g22]
    exact nd_upd (fun _ => nd_upd (fun e1 => nd_upd (fun e => (h.tw u (hlt u hu e e1)).mono hm) rfl) rfl) ⟨Nat.lt_of_lt_of_le d2 hm, rfl⟩
  · simp only [va_up, if_true, if_false, Nat.reduceEqDiff, g18, g19, g20]
    exact rlab_upd0 (fun e1 => rlab_upd0 (fun e => h.lab u (hlt u hu e e1)))
  · simp only [upd_self]; rfl
  · simp only [va_up, if_true, if_false, Nat.reduceEqDiff, go 26 (by omega)]; exact of_upd (fun e => ⟨(h.hd p' (hlp p' hp' e)).1, Nat.lt_of_lt_of_le (h.hd p' (hlp p' hp' e)).2 hm⟩) hm1
  · simp only [va_up, if_true, if_false, Nat.reduceEqDiff, go 27 (by omega)]; exact of_upd (fun e => ⟨(h.tl p' (hlp p' hp' e)).1, Nat.lt_of_lt_of_le (h.tl p' (hlp p' hp' e)).2 hm⟩) hm2
  · simp only [va_up, if_true, if_false, Nat.reduceEqDiff, g18]
    by_cases e : p' = r.np
    · have e2 : (r_alt r p q).tl p' = r.n + 1 := by rw [e]; exact sU_self _ _ _
      rw [e2, upd_self]
    · have e2 : (r_alt r p q).tl p' = r.tl p' := sU_ne _ _ e
      have := (h.tl p' (hlp p' hp' e)).2
      rw [e2, upd_ne _ _ (by omega), upd_ne _ _ (by omega)]; exact h.tk p' (hlp p' hp' e)
  · intro hne'
    simp only [va_up, if_true, if_false, Nat.reduceEqDiff, g18]
    by_cases e1 : u = r.n + 1
    · rw [e1, upd_self]
    · rw [upd_ne _ _ e1]
      by_cases e : u = r.n
      · rw [e, upd_self]
      · rw [upd_ne _ _ e]
        have hne2 : sU (sU (sU r.tw r.n none) (r.n + 1) none) r.n (some (r.hd q)) u ≠ none := hne'
        rw [sU_ne _ _ e, sU_ne _ _ e1, sU_ne _ _ e] at hne2
        exact h.of u (hlt u hu e e1) hne2
  · simp only [upd, if_true, if_false, Nat.reduceEqDiff]; exact h.k
  · simp only [va_up, if_true, if_false, Nat.reduceEqDiff, go 29 (by omega)]; exact (h.ch j hj).mono hq'
  · simp only [va_up, if_true, if_false, Nat.reduceEqDiff, go 30 (by omega)]; exact ⟨(h.rw j hj).1, Nat.lt_of_lt_of_le (h.rw j hj).2 hq'⟩
  · simp only [va_up, if_true, if_false, Nat.reduceEqDiff, go 31 (by omega)]; exact (h.pt j hj).mono hq'
  · simp only [va_up, if_true, if_false, Nat.reduceEqDiff, g18, g19, g20]; exact se_upd (fun e1 => se_upd (fun e => h.se u (hlt u hu e e1)) se_0) se_0
  · simp only [va_up, if_true, if_false, Nat.reduceEqDiff, g18] at hk0; exact oo_s (fun _ => oo_s (fun _ => oo_s (fun _ => oo_0 (fun e1 => oo_0 (fun e => h.oo u (hlt u hu e e1))) hk0)))
  · refine ⟨fun j hj => ?_, fun j hj => ?_⟩
    · dsimp only; rw [upd_ne _ _ (by omega), upd_ne _ _ (by omega), upd_ne _ _ (by omega)]
    · dsimp only; rw [va_up_ne _ _ (by omega), va_up_ne _ _ (by omega)]; exact go j (by omega)
-- 44.rab3
/-- the second ways of a repetition -/
def t_tw (f : Nat → Int32) (n t h : Nat) (leave again : Bool) : Nat → Int32 :=
  if leave then (if again then upd (upd (upd (upd f n (-1)) (n + 1) (-1)) n (Int32.ofNat (n + 1))) t (Int32.ofNat h) else upd (upd (upd f n (-1)) (n + 1) (-1)) n (Int32.ofNat (n + 1)))
  else (if again then upd (upd (upd f n (-1)) (n + 1) (-1)) t (Int32.ofNat h) else upd (upd f n (-1)) (n + 1) (-1))
/-- a repetition -/
theorem RAbs.times {tn : Nat} {tx : Nat → Int32} {s : Nat → Nat} {I : MI} {A : MA} {r : RR} (h : RAbs tn tx s I A r) {p : Nat} (hp : p < r.np) (hop : r.on (r.tl p) = none) (hn : r.n + 1 < 160) (hnp : r.np < 160) (leave again : Bool) {k2 k3 : Int32} (hk2 : k2 = 0 ↔ leave = false) (hk3 : k3 = 0 ↔ again = false) :
    Res (f_M_times I A (Int32.ofNat p) k2 k3) (fun z => z.1 = Int32.ofNat r.np ∧ RAbs tn tx s z.2.1 z.2.2 (r_times r p leave again) ∧ MFr I z.2.1 A z.2.2) := by
  obtain ⟨t1, t2⟩ := h.tl p hp
  obtain ⟨d3, d4⟩ := h.hd p hp
  have hnb := h.nb
  have l1 : A 21 (r.tl p) = -1 := by have := h.on _ t2; rw [hop] at this; exact this
  have n1 : (Int32.ofNat p).toNatClampNeg = p := pn_nat (by omega)
  have e25 : upd (upd I 17 (Int32.ofNat (r.n + 1))) 17 (Int32.ofNat (r.n + 2)) 25 = Int32.ofNat r.np := by rw [upd_ne _ _ (by decide), upd_ne _ _ (by decide)]; exact h.np
  unfold f_M_times
  rw [B_two h.n hn (fun r1 _ _ r2 I2 A2 => if wk_inb (Int32.ofNat p) 160 = true then (f_M_link I2 A2 r1 ((A2 26) (Int32.ofNat p).toNatClampNeg)).bind (fun z3 => (fun r3 I3 A3 => if wk_inb (Int32.ofNat p) 160 = true then (f_M_link I3 A3 ((A3 27) (Int32.ofNat p).toNatClampNeg) r2).bind (fun z4 => (fun r4 I4 A4 => if k2 = 0 then f_M_times_54 I4 A4 (upd (upd (upd (upd (upd (fun _ => 0) 1 (Int32.ofNat p)) 2 k2) 3 k3) 4 r1) 5 r2) else (f_M_link I4 A4 r1 r2).bind (fun z5 => (fun r5 I5 A5 => f_M_times_54 I5 A5 (upd (upd (upd (upd (upd (fun _ => 0) 1 (Int32.ofNat p)) 2 k2) 3 k3) 4 r1) 5 r2)) z5.1 z5.2.1 z5.2.2)) z4.1 z4.2.1 z4.2.2) else none) z3.1 z3.2.1 z3.2.2) else none)]
  obtain ⟨B, hB⟩ : ∃ B, B = A_two A r.n := ⟨_, rfl⟩
  have b26 : B 26 = A 26 := by rw [hB]; exact A_twoo A r.n (by omega)
  have b27 : B 27 = A 27 := by rw [hB]; exact A_twoo A r.n (by omega)
  have b21 : B 21 = upd (upd (A 21) r.n (-1)) (r.n + 1) (-1) := by rw [hB]; exact A_two21 A r.n
  have b22 : B 22 = upd (upd (A 22) r.n (-1)) (r.n + 1) (-1) := by rw [hB]; exact A_two22 A r.n
  rw [← hB]
  simp only [pn_i160 (show p < 160 by omega), if_true, n1, b26, d3]
  rw [B_link1 _ (show r.n < 160 by omega) (by rw [b21, upd_ne _ _ (by omega), upd_self])]
  simp only [Option.bind_some]
  obtain ⟨B1, hB1⟩ : ∃ B1, B1 = va_up B 21 (upd (B 21) r.n (Int32.ofNat (r.hd p))) := ⟨_, rfl⟩
  have c21 : B1 21 = upd (upd (upd (A 21) r.n (-1)) (r.n + 1) (-1)) r.n (Int32.ofNat (r.hd p)) := by rw [hB1, va_up_self, b21]
  have co : ∀ j, j ≠ 21 → B1 j = B j := fun j hj => by rw [hB1]; exact va_up_ne _ _ hj
  rw [← hB1, co 27 (by decide), b27, t1, B_link1 _ (show r.tl p < 160 by omega) (by rw [c21, upd_ne _ _ (by omega), upd_ne _ _ (by omega), upd_ne _ _ (by omega)]; exact l1)]
  simp only [Option.bind_some]
  obtain ⟨B2, hB2⟩ : ∃ B2, B2 = va_up B1 21 (upd (B1 21) (r.tl p) (Int32.ofNat (r.n + 1))) := ⟨_, rfl⟩
  have d21 : B2 21 = upd (upd (upd (upd (A 21) r.n (-1)) (r.n + 1) (-1)) r.n (Int32.ofNat (r.hd p))) (r.tl p) (Int32.ofNat (r.n + 1)) := by rw [hB2, va_up_self, c21]
  have do_ : ∀ j, j ≠ 21 → B2 j = B j := fun j hj => by rw [hB2, va_up_ne _ _ hj]; exact co j hj
  rw [← hB2]
  have x1 : upd (upd (upd (upd (upd (fun _ => (0 : Int32)) 1 (Int32.ofNat p)) 2 k2) 3 k3) 4 (Int32.ofNat r.n)) 5 (Int32.ofNat (r.n + 1)) 1 = Int32.ofNat p := rfl
  have x3 : upd (upd (upd (upd (upd (fun _ => (0 : Int32)) 1 (Int32.ofNat p)) 2 k2) 3 k3) 4 (Int32.ofNat r.n)) 5 (Int32.ofNat (r.n + 1)) 3 = k3 := rfl
  have x4 : upd (upd (upd (upd (upd (fun _ => (0 : Int32)) 1 (Int32.ofNat p)) 2 k2) 3 k3) 4 (Int32.ofNat r.n)) 5 (Int32.ofNat (r.n + 1)) 4 = Int32.ofNat r.n := rfl
  have x5 : upd (upd (upd (upd (upd (fun _ => (0 : Int32)) 1 (Int32.ofNat p)) 2 k2) 3 k3) 4 (Int32.ofNat r.n)) 5 (Int32.ofNat (r.n + 1)) 5 = Int32.ofNat (r.n + 1) := rfl
  -- the end, for any second ways
  have fin : ∀ B4 : MA, (∀ j, j ≠ 22 → B4 j = B2 j) → B4 22 = t_tw (A 22) r.n (r.tl p) (r.hd p) leave again → Res (f_M_times_74 (upd (upd I 17 (Int32.ofNat (r.n + 1))) 17 (Int32.ofNat (r.n + 2))) B4 (upd (upd (upd (upd (upd (fun _ => 0) 1 (Int32.ofNat p)) 2 k2) 3 k3) 4 (Int32.ofNat r.n)) 5 (Int32.ofNat (r.n + 1)))) (fun z => z.1 = Int32.ofNat r.np ∧ RAbs tn tx s z.2.1 z.2.2 (r_times r p leave again) ∧ MFr I z.2.1 A z.2.2) := by
    intro B4 ho4 g22
    unfold f_M_times_74
    rw [x4, x5, B_piece _ _ e25 hnp]
    simp only [Option.bind_some]
    have g21 : B4 21 = upd (upd (upd (upd (A 21) r.n (-1)) (r.n + 1) (-1)) r.n (Int32.ofNat (r.hd p))) (r.tl p) (Int32.ofNat (r.n + 1)) := by rw [ho4 21 (by decide), d21]
    have gg : ∀ j, j ≠ 21 → j ≠ 22 → B4 j = A_two A r.n j := fun j h1 h2 => by rw [ho4 j h2, do_ j h1, hB]
    have g18 : B4 18 = upd (upd (A 18) r.n 0) (r.n + 1) 0 := by rw [gg 18 (by decide) (by decide), A_two18]
    have g19 : B4 19 = upd (upd (A 19) r.n 0) (r.n + 1) 0 := by rw [gg 19 (by decide) (by decide), A_two19]
    have g20 : B4 20 = upd (upd (A 20) r.n 0) (r.n + 1) 0 := by rw [gg 20 (by decide) (by decide), A_two20]
    have go : ∀ j, j < 18 ∨ 23 ≤ j → B4 j = A j := fun j hj => by rw [gg j (by omega) (by omega)]; exact A_twoo A r.n hj
    have hm : r.n ≤ (r_times r p leave again).n := by show r.n ≤ r.n + 2; omega
    have hm1 : r.n < (r_times r p leave again).n := by show r.n < r.n + 2; omega
    have hm2 : r.n + 1 < (r_times r p leave again).n := by show r.n + 1 < r.n + 2; omega
    have hq' : r.np ≤ (r_times r p leave again).np := Nat.le_succ _
    have hlt : ∀ u, u < (r_times r p leave again).n → u ≠ r.n → u ≠ r.n + 1 → u < r.n := fun u hu e e' => by have : u < r.n + 2 := hu; omega
    have hlp : ∀ u, u < (r_times r p leave again).np → u ≠ r.np → u < r.np := fun u hu e => by have : u < r.np + 1 := hu; omega
    have htk := h.tk p hp
    refine Res.mk ⟨rfl, ⟨?_, hn, fun u hu => ?_, fun u hu => ?_, fun u hu => ?_, ?_, hnp, fun p' hp' => ?_, fun p' hp' => ?_, fun p' hp' => ?_, fun u hu => ?_, ?_, h.kb, fun j hj => ?_, fun j hj => ?_, fun j hj => ?_, fun u hu => ?_, fun u hu hk0 => ?_⟩, ?_⟩
    · simp only [upd, if_true, if_false, Nat.reduceEqDiff]; rfl
    · simp only [va_up, if_true, if_false, Nat.reduceEqDiff, g21]
      exact nd_upd (fun _ => nd_upd (fun _ => nd_upd (fun e1 => nd_upd (fun e => (h.on u (hlt u hu e e1)).mono hm) rfl) rfl) ⟨Nat.lt_of_lt_of_le d4 hm, rfl⟩) ⟨hm2, rfl⟩
    · simp only [va_up, if_true, if_false, Nat.reduceEqDiff, g22]
      have hb : nd (r_times r p leave again).n (upd (upd (A 22) r.n (-1)) (r.n + 1) (-1) u) (sU (sU r.tw r.n none) (r.n + 1) none u) := nd_upd (fun e1 => nd_upd (fun e => (h.tw u (hlt u hu e e1)).mono hm) rfl) rfl
      cases leave <;> cases again
      · exact hb
      · exact nd_upd (fun _ => hb) ⟨Nat.lt_of_lt_of_le d4 hm, rfl⟩
      · exact nd_upd (fun _ => hb) ⟨hm2, rfl⟩
      · exact nd_upd (fun _ => nd_upd (fun _ => hb) ⟨hm2, rfl⟩) ⟨Nat.lt_of_lt_of_le d4 hm, rfl⟩
    · simp only [va_up, if_true, if_false, Nat.reduceEqDiff, g18, g19, g20]
      exact rlab_upd0 (fun e1 => rlab_upd0 (fun e => h.lab u (hlt u hu e e1)))
    · simp only [upd_self]; rfl
    · simp only [va_up, if_true, if_false, Nat.reduceEqDiff, go 26 (by omega)]; exact of_upd (fun e => ⟨(h.hd p' (hlp p' hp' e)).1, Nat.lt_of_lt_of_le (h.hd p' (hlp p' hp' e)).2 hm⟩) hm1
    · simp only [va_up, if_true, if_false, Nat.reduceEqDiff, go 27 (by omega)]; exact of_upd (fun e => ⟨(h.tl p' (hlp p' hp' e)).1, Nat.lt_of_lt_of_le (h.tl p' (hlp p' hp' e)).2 hm⟩) hm2
    · simp only [va_up, if_true, if_false, Nat.reduceEqDiff, g18]
      by_cases e : p' = r.np
      · have e2 : (r_times r p leave again).tl p' = r.n + 1 := by rw [e]; exact sU_self _ _ _
        rw [e2, upd_self]
      · have e2 : (r_times r p leave again).tl p' = r.tl p' := sU_ne _ _ e
        have := (h.tl p' (hlp p' hp' e)).2
        rw [e2, upd_ne _ _ (by omega), upd_ne _ _ (by omega)]; exact h.tk p' (hlp p' hp' e)
    · intro hne'
      simp only [va_up, if_true, if_false, Nat.reduceEqDiff, g18]
      by_cases e1 : u = r.n + 1
      · rw [e1, upd_self]
      · rw [upd_ne _ _ e1]
        by_cases e : u = r.n
        · rw [e, upd_self]
        · rw [upd_ne _ _ e]
          by_cases et : u = r.tl p
          · rw [et]; exact htk
          · rw [r_times_tw1 leave again (hlt u hu e e1) et] at hne'
            exact h.of u (hlt u hu e e1) hne'
    · simp only [upd, if_true, if_false, Nat.reduceEqDiff]; exact h.k
    · simp only [va_up, if_true, if_false, Nat.reduceEqDiff, go 29 (by omega)]; exact (h.ch j hj).mono hq'
    · simp only [va_up, if_true, if_false, Nat.reduceEqDiff, go 30 (by omega)]; exact ⟨(h.rw j hj).1, Nat.lt_of_lt_of_le (h.rw j hj).2 hq'⟩
    · simp only [va_up, if_true, if_false, Nat.reduceEqDiff, go 31 (by omega)]; exact (h.pt j hj).mono hq'
    · simp only [va_up, if_true, if_false, Nat.reduceEqDiff, g18, g19, g20]; exact se_upd (fun e1 => se_upd (fun e => h.se u (hlt u hu e e1)) se_0) se_0
    · simp only [va_up, if_true, if_false, Nat.reduceEqDiff, g18] at hk0; exact oo_s (fun _ => oo_s (fun _ => oo_0 (fun e1 => oo_0 (fun e => h.oo u (hlt u hu e e1))) hk0))
    · refine ⟨fun j hj => ?_, fun j hj => ?_⟩
      · dsimp only; rw [upd_ne _ _ (by omega), upd_ne _ _ (by omega), upd_ne _ _ (by omega)]
      · dsimp only; rw [va_up_ne _ _ (by omega), va_up_ne _ _ (by omega)]; exact go j (by omega)
  -- from the first way out on
  have mid : ∀ B3 : MA, (∀ j, j ≠ 22 → B3 j = B2 j) → B3 22 = t_tw (A 22) r.n (r.tl p) (r.hd p) leave false → Res (f_M_times_54 (upd (upd I 17 (Int32.ofNat (r.n + 1))) 17 (Int32.ofNat (r.n + 2))) B3 (upd (upd (upd (upd (upd (fun _ => 0) 1 (Int32.ofNat p)) 2 k2) 3 k3) 4 (Int32.ofNat r.n)) 5 (Int32.ofNat (r.n + 1)))) (fun z => z.1 = Int32.ofNat r.np ∧ RAbs tn tx s z.2.1 z.2.2 (r_times r p leave again) ∧ MFr I z.2.1 A z.2.2) := by
    intro B3 ho3 h22
    unfold f_M_times_54
    rw [x3, x1]
    by_cases q : again = false
    · rw [if_pos (hk3.mpr q)]
      exact fin B3 ho3 (by rw [h22, q])
    · have qa : again = true := by cases again <;> simp_all
      rw [if_neg (fun z => q (hk3.mp z)), if_pos (pn_i160 (show p < 160 by omega)), if_pos (pn_i160 (show p < 160 by omega)), n1, ho3 27 (by decide), do_ 27 (by decide), b27, t1, ho3 26 (by decide), do_ 26 (by decide), b26, d3]
      rw [B_link2 (v := r.n + 1) _ (show r.tl p < 160 by omega) (by omega) (by rw [ho3 21 (by decide), d21, upd_self])]
      simp only [Option.bind_some]
      refine fin _ (fun j hj => by rw [va_up_ne _ _ hj]; exact ho3 j hj) ?_
      rw [va_up_self, h22, qa]
      cases leave <;> rfl
  by_cases q : leave = false
  · rw [if_pos (hk2.mpr q)]
    refine mid B2 (fun _ _ => rfl) ?_
    rw [do_ 22 (by decide), b22, q]; rfl
  · have ql : leave = true := by cases leave <;> simp_all
    rw [if_neg (fun z => q (hk2.mp z)), B_link2 (v := r.hd p) _ (show r.n < 160 by omega) (by omega) (by rw [d21, upd_ne _ _ (by omega), upd_self])]
    simp only [Option.bind_some]
    refine mid _ (fun j hj => by rw [va_up_ne _ _ hj]) ?_
    rw [va_up_self, do_ 22 (by decide), b22, ql]; rfl
-- 45.rst
theorem RAbs.set29 {tn : Nat} {tx : Nat → Int32} {s : Nat → Nat} {I : MI} {A : MA} {r : RR} (h : RAbs tn tx s I A r) {j : Nat} {x : Int32} {v : Option Nat} (hv : nd r.np x v) : RAbs tn tx s I (va_up A 29 (upd (A 29) j x)) (RR.mk r.n r.on r.tw r.lab r.np r.hd r.tl r.k (sU r.ch j v) r.rw r.pt) := by
  refine ⟨h.n, h.nb, fun u hu => ?_, fun u hu => ?_, fun u hu => ?_, h.np, h.pb, fun p hp => ?_, fun p hp => ?_, fun p hp => ?_, fun u hu => ?_, h.k, h.kb, fun i hi => ?_, fun i hi => ?_, fun i hi => ?_, fun u hu => ?_, fun u hu => ?_⟩
  · rw [va_up_ne _ _ (by decide)]; exact h.on u hu
  · rw [va_up_ne _ _ (by decide)]; exact h.tw u hu
  · rw [va_up_ne _ _ (by decide), va_up_ne _ _ (by decide), va_up_ne _ _ (by decide)]; exact h.lab u hu
  · rw [va_up_ne _ _ (by decide)]; exact h.hd p hp
  · rw [va_up_ne _ _ (by decide)]; exact h.tl p hp
  · rw [va_up_ne _ _ (by decide)]; exact h.tk p hp
  · rw [va_up_ne _ _ (by decide)]; exact h.of u hu
  · rw [va_up_self]; exact nd_upd (fun _ => h.ch i hi) hv
  · rw [va_up_ne _ _ (by decide)]; exact h.rw i hi
  · rw [va_up_ne _ _ (by decide)]; exact h.pt i hi
  · rw [va_up_ne _ _ (by decide), va_up_ne _ _ (by decide), va_up_ne _ _ (by decide)]; exact h.se u hu
  · rw [va_up_ne _ _ (by decide)]; exact h.oo u hu
theorem RAbs.set31 {tn : Nat} {tx : Nat → Int32} {s : Nat → Nat} {I : MI} {A : MA} {r : RR} (h : RAbs tn tx s I A r) {j : Nat} {x : Int32} {v : Option Nat} (hv : nd r.np x v) : RAbs tn tx s I (va_up A 31 (upd (A 31) j x)) (RR.mk r.n r.on r.tw r.lab r.np r.hd r.tl r.k r.ch r.rw (sU r.pt j v)) := by
  refine ⟨h.n, h.nb, fun u hu => ?_, fun u hu => ?_, fun u hu => ?_, h.np, h.pb, fun p hp => ?_, fun p hp => ?_, fun p hp => ?_, fun u hu => ?_, h.k, h.kb, fun i hi => ?_, fun i hi => ?_, fun i hi => ?_, fun u hu => ?_, fun u hu => ?_⟩
  · rw [va_up_ne _ _ (by decide)]; exact h.on u hu
  · rw [va_up_ne _ _ (by decide)]; exact h.tw u hu
  · rw [va_up_ne _ _ (by decide), va_up_ne _ _ (by decide), va_up_ne _ _ (by decide)]; exact h.lab u hu
  · rw [va_up_ne _ _ (by decide)]; exact h.hd p hp
  · rw [va_up_ne _ _ (by decide)]; exact h.tl p hp
  · rw [va_up_ne _ _ (by decide)]; exact h.tk p hp
  · rw [va_up_ne _ _ (by decide)]; exact h.of u hu
  · rw [va_up_ne _ _ (by decide)]; exact h.ch i hi
  · rw [va_up_ne _ _ (by decide)]; exact h.rw i hi
  · rw [va_up_self]; exact nd_upd (fun _ => h.pt i hi) hv
  · rw [va_up_ne _ _ (by decide), va_up_ne _ _ (by decide), va_up_ne _ _ (by decide)]; exact h.se u hu
  · rw [va_up_ne _ _ (by decide)]; exact h.oo u hu
theorem RAbs.set30 {tn : Nat} {tx : Nat → Int32} {s : Nat → Nat} {I : MI} {A : MA} {r : RR} (h : RAbs tn tx s I A r) {j v : Nat} (hv : v < r.np) : RAbs tn tx s I (va_up A 30 (upd (A 30) j (Int32.ofNat v))) (RR.mk r.n r.on r.tw r.lab r.np r.hd r.tl r.k r.ch (sU r.rw j v) r.pt) := by
  refine ⟨h.n, h.nb, fun u hu => ?_, fun u hu => ?_, fun u hu => ?_, h.np, h.pb, fun p hp => ?_, fun p hp => ?_, fun p hp => ?_, fun u hu => ?_, h.k, h.kb, fun i hi => ?_, fun i hi => ?_, fun i hi => ?_, fun u hu => ?_, fun u hu => ?_⟩
  · rw [va_up_ne _ _ (by decide)]; exact h.on u hu
  · rw [va_up_ne _ _ (by decide)]; exact h.tw u hu
  · rw [va_up_ne _ _ (by decide), va_up_ne _ _ (by decide), va_up_ne _ _ (by decide)]; exact h.lab u hu
  · rw [va_up_ne _ _ (by decide)]; exact h.hd p hp
  · rw [va_up_ne _ _ (by decide)]; exact h.tl p hp
  · rw [va_up_ne _ _ (by decide)]; exact h.tk p hp
  · rw [va_up_ne _ _ (by decide)]; exact h.of u hu
  · rw [va_up_ne _ _ (by decide)]; exact h.ch i hi
  · rw [va_up_self]; exact of_upd (fun _ => h.rw i hi) hv
  · rw [va_up_ne _ _ (by decide)]; exact h.pt i hi
  · rw [va_up_ne _ _ (by decide), va_up_ne _ _ (by decide), va_up_ne _ _ (by decide)]; exact h.se u hu
  · rw [va_up_ne _ _ (by decide)]; exact h.oo u hu
/-- the depth goes one down -/
theorem RAbs.setK {tn : Nat} {tx : Nat → Int32} {s : Nat → Nat} {I : MI} {A : MA} {r : RR} (h : RAbs tn tx s I A r) {k : Nat} (hk : k ≤ r.k) : RAbs tn tx s (upd I 28 (Int32.ofNat k)) A (RR.mk r.n r.on r.tw r.lab r.np r.hd r.tl (k) r.ch r.rw r.pt) := by
  have hkb := h.kb
  refine ⟨?_, h.nb, h.on, h.tw, h.lab, ?_, h.pb, h.hd, h.tl, h.tk, h.of, upd_self _ _ _, by show k ≤ 10; omega, fun i hi => h.ch i (Nat.lt_of_lt_of_le hi hk), fun i hi => h.rw i (Nat.lt_of_lt_of_le hi hk), fun i hi => h.pt i (Nat.lt_of_lt_of_le hi hk), h.se, h.oo⟩
  · rw [upd_ne _ _ (by decide)]; exact h.n
  · rw [upd_ne _ _ (by decide)]; exact h.np
theorem RAbs.behindO {tn : Nat} {tx : Nat → Int32} {s : Nat → Nat} {I : MI} {A : MA} {r : RR} (h : RAbs tn tx s I A r) {p : Nat} {x : Int32} {q : Option Nat} (hp : p < r.np) (hq : nd r.np x q) (hon : r.on (r.tl p) = none) (hnp : r.np < 160) :
    Res (f_M_behind I A (Int32.ofNat p) x) (fun z => z.1 = Int32.ofNat (r_behind r p q).2 ∧ RAbs tn tx s z.2.1 z.2.2 (r_behind r p q).1 ∧ MFr I z.2.1 A z.2.2 ∧ (r_behind r p q).2 < (r_behind r p q).1.np ∧ (r_behind r p q).1.np ≤ r.np + 1 ∧ (r_behind r p q).1.n = r.n) := by
  cases q with
  | none =>
    have e : x = -1 := hq
    rw [e, B_behind0]
    exact Res.mk ⟨rfl, h, MFr.refl I A, hp, Nat.le_succ _, rfl⟩
  | some q =>
    obtain ⟨hq1, e⟩ := hq
    rw [e]
    refine (h.behind hp hq1 hon hnp).imp (fun z hz => ?_)
    exact ⟨hz.1, hz.2.1, hz.2.2, Nat.lt_succ_self _, Nat.le_refl _, rfl⟩
theorem B_either0 {I : MI} {A : MA} (q : Int32) : f_M_either I A (-1) q = some (q, I, A) := by
  have h0 : ¬ (0 : Int32) ≤ -1 := by decide
  simp only [f_M_either, if_neg h0]
/-- a piece becomes the latest part -/
theorem RAbs.newPart {tn : Nat} {tx : Nat → Int32} {s : Nat → Nat} {I : MI} {A : MA} {r : RR} (h : RAbs tn tx s I A r) (hk : 0 < r.k) {p : Nat} (hp : p < r.np) (hon : r.on (r.tl (r.rw (r.k - 1))) = none) (hnp : r.np < 160) :
    Res (f_M_newPart I A (Int32.ofNat p)) (fun z => RAbs tn tx s z.2.1 z.2.2 (r_newPart r p) ∧ MFr I z.2.1 A z.2.2 ∧ (r_newPart r p).np ≤ r.np + 1 ∧ (r_newPart r p).n = r.n) := by
  have hkb := h.kb
  have e1 : Int32.ofNat r.k - 1 = Int32.ofNat (r.k - 1) := pn_sub (a := r.k) (b := 1) hk
  obtain ⟨w1, w2⟩ := h.rw (r.k - 1) (by omega)
  have n1 : (Int32.ofNat (r.k - 1)).toNatClampNeg = r.k - 1 := pn_nat (by omega)
  simp only [f_M_newPart, h.k, e1, pn_i26 (show r.k - 1 < 26 by omega), if_true, n1, w1]
  refine (h.behindO w2 (h.pt (r.k - 1) (by omega)) hon hnp).bind ?_
  rintro ⟨z0, z1, z2⟩ ⟨a1, a2, a3, a4, a5, a6⟩
  simp only at a1 a2 a3
  subst a1
  simp only [wk_let]
  have b1 := a2.set30 (j := r.k - 1) a4
  have b2 := b1.set31 (j := r.k - 1) (x := Int32.ofNat p) (v := some p) ⟨by show p < (r_behind r (r.rw (r.k - 1)) (r.pt (r.k - 1))).1.np; revert a4; cases r.pt (r.k - 1) <;> (intro a4; first | exact hp | exact Nat.lt_succ_of_lt hp), rfl⟩
  refine Res.mk ⟨b2, (a3.ua (by omega) _).ua (by omega) _, a5, a6⟩
/-- the open row and with it the choice -/
theorem RAbs.endRow {tn : Nat} {tx : Nat → Int32} {s : Nat → Nat} {I : MI} {A : MA} {r : RR} (h : RAbs tn tx s I A r) {own : Nat → Nat} {x : RLv} {st : List RLv} (hR : RInv r own (x :: st)) (hn : r.n + 1 < 160) (hnp : r.np + 1 < 160) {r' : RR} {p' : Nat} (he : r_end r = (r', p')) :
    Res (f_M_endRow I A) (fun z => RAbs tn tx s z.2.1 z.2.2 (RR.mk (RR.n (r')) (RR.on (r')) (RR.tw (r')) (RR.lab (r')) (RR.np (r')) (RR.hd (r')) (RR.tl (r')) (RR.k (r')) (sU r'.ch (r.k - 1) (some p')) (RR.rw (r')) (sU r'.pt (r.k - 1) none)) ∧ MFr I z.2.1 A z.2.2 ∧ r'.np ≤ r.np + 2 ∧ r'.n ≤ r.n + 2 ∧ p' < r'.np) := by
  have hkl : r.k = st.length + 1 := hR.k
  have hk : r.k - 1 = st.length := by omega
  have hkb := h.kb
  have e1 : Int32.ofNat r.k - 1 = Int32.ofNat (r.k - 1) := pn_sub (a := r.k) (b := 1) (by omega)
  obtain ⟨w1, w2⟩ := h.rw (r.k - 1) (by omega)
  have n1 : (Int32.ofNat (r.k - 1)).toNatClampNeg = r.k - 1 := pn_nat (by omega)
  obtain ⟨r1, p1, hz⟩ : ∃ r1 p1, r_behind r (r.rw st.length) (r.pt st.length) = (r1, p1) := ⟨_, _, rfl⟩
  obtain ⟨hRP, hF, en, ek, ec, ew, ep⟩ := r_behind_ok hR.l.1 hz
  have hw : r.on (r.tl (r.rw (r.k - 1))) = none := by rw [hk]; exact hR.l.1.w.tn
  simp only [f_M_endRow, h.k, e1, pn_i26 (show r.k - 1 < 26 by omega), if_true, n1, w1]
  refine (h.behindO w2 (h.pt (r.k - 1) (by omega)) hw (by omega)).bind ?_
  rintro ⟨z0, z1, z2⟩ ⟨a1, a2, a3, a4, a5, a6⟩
  simp only at a1 a2 a3
  rw [hk, hz] at a1 a2 a4 a5 a6
  simp only at a1 a2 a4 a5 a6
  subst a1
  unfold r_end at he
  rw [hk, hz] at he
  have hch := a2.ch (r.k - 1) (by rw [ek]; omega)
  rw [ec] at hch
  have hc := hR.l.1.c
  have i26 : wk_inb (Int32.ofNat (r.k - 1)) 26 = true := pn_i26 (show r.k - 1 < 26 by omega)
  simp only
  obtain ⟨cc, y⟩ := x
  cases cc with
  | none =>
    obtain ⟨c1, _⟩ := hc
    rw [c1] at he
    cases he
    rw [hk, c1] at hch
    have e : z2 29 st.length = -1 := hch
    rw [hk] at *
    rw [e, B_either0]
    simp only [Option.bind_some, wk_let]
    have b1 := a2.set29 (j := st.length) (x := Int32.ofNat p') (v := some p') ⟨a4, rfl⟩
    have b2 := b1.set31 (j := st.length) (x := -1) (v := none) rfl
    exact Res.mk ⟨b2, (a3.ua (by omega) _).ua (by omega) _, by omega, by omega, a4⟩
  | some cR =>
    obtain ⟨q, c1, c2⟩ := hc
    rw [c1] at he
    cases he
    rw [hk, c1] at hch
    obtain ⟨hq1, e⟩ := hch
    have hq : RP r1 (rU r own (3 * st.length)) q cR := c2.frame hF (fun u a b => by have := a.2; have := b.2; omega) (fun _ => Iff.rfl)
    have hne : r1.tl p1 ≠ r1.tl q := fun e => by
      have t1 := hq.fr.tU
      have t2 := hRP.fr.tU
      rw [← e] at t1
      have := t1.2
      rcases t2 with t2 | t2 <;> (have := t2.2; omega)
    rw [hk] at *
    rw [e]
    refine (a2.alt hq1 a4 hq.tn hRP.tn hne (by omega) (by omega)).bind ?_
    rintro ⟨y0, y1, y2⟩ ⟨f1, f2, f3⟩
    simp only at f1 f2 f3
    subst f1
    simp only [wk_let]
    have b1 := f2.set29 (j := st.length) (x := Int32.ofNat r1.np) (v := some r1.np) ⟨Nat.lt_succ_self _, rfl⟩
    have b2 := b1.set31 (j := st.length) (x := -1) (v := none) rfl
    exact Res.mk ⟨b2, ((a3.trans f3).ua (by omega) _).ua (by omega) _, by show r1.np + 1 ≤ _; omega, by show r1.n + 2 ≤ _; omega, Nat.lt_succ_self _⟩
-- 46.bld
theorem RAbs.grow {tn : Nat} {tx : Nat → Int32} {s : Nat → Nat} {I : MI} {A : MA} {r : RR} (h : RAbs tn tx s I A r) (hk : r.k + 1 ≤ 10) (c : nd r.np (A 29 r.k) (r.ch r.k)) (w : A 30 r.k = Int32.ofNat (r.rw r.k) ∧ r.rw r.k < r.np) (p : nd r.np (A 31 r.k) (r.pt r.k)) : RAbs tn tx s (upd I 28 (Int32.ofNat (r.k + 1))) A (RR.mk r.n r.on r.tw r.lab r.np r.hd r.tl (r.k + 1) r.ch r.rw r.pt) := by
  have hlt : ∀ i, i < r.k + 1 → i ≠ r.k → i < r.k := fun i h1 h2 => by omega
  refine ⟨?_, h.nb, h.on, h.tw, h.lab, ?_, h.pb, h.hd, h.tl, h.tk, h.of, upd_self _ _ _, hk, fun i hi => ?_, fun i hi => ?_, fun i hi => ?_, h.se, h.oo⟩
  · rw [upd_ne _ _ (by decide)]; exact h.n
  · rw [upd_ne _ _ (by decide)]; exact h.np
  · by_cases e : i = r.k
    · rw [e]; exact c
    · exact h.ch i (hlt i hi e)
  · by_cases e : i = r.k
    · rw [e]; exact w
    · exact h.rw i (hlt i hi e)
  · by_cases e : i = r.k
    · rw [e]; exact p
    · exact h.pt i (hlt i hi e)
theorem RAbs.openG {tn : Nat} {tx : Nat → Int32} {s : Nat → Nat} {I : MI} {A : MA} {r : RR} (h : RAbs tn tx s I A r) (hk : r.k + 1 ≤ 10) (hn : r.n < 160) (hnp : r.np < 160) :
    Res (f_M_openGroup I A) (fun z => RAbs tn tx s z.2.1 z.2.2 (r_open r) ∧ MFr I z.2.1 A z.2.2) := by
  have n1 : (Int32.ofNat r.k).toNatClampNeg = r.k := pn_nat (by omega)
  simp only [f_M_openGroup, h.k, pn_i26 (show r.k < 26 by omega), if_true, wk_let, n1]
  have b0 := h.set29 (j := r.k) (x := -1) (v := none) rfl
  refine (b0.nothing hn hnp).bind ?_
  rintro ⟨z0, z1, z2⟩ ⟨a1, a2, a3, a9⟩
  simp only at a1 a2 a3 a9
  have a1' : z0 = Int32.ofNat r.np := a1
  subst a1'
  have i28 : z1 28 = Int32.ofNat r.k := a2.k
  simp only [i28, pn_i26 (show r.k < 26 by omega), if_true, n1, pn_succ]
  have b2 := a2.set30 (j := r.k) (v := r.np) (Nat.lt_succ_self _)
  have b3 := b2.set31 (j := r.k) (x := -1) (v := none) rfl
  have b4 := b3.grow hk ?_ ?_ ?_
  · exact Res.mk ⟨b4, ((((MFr.refl I A).ua (by omega) _).trans a3).ua (by omega) _ |>.ua (by omega) _).ui (by omega) _⟩
  · show nd _ (va_up (va_up z2 30 _) 31 _ 29 r.k) (sU r.ch r.k none r.k)
    rw [va_up_ne _ _ (by decide), va_up_ne _ _ (by decide), sU_self]
    rw [a9, va_up_self, upd_self]; rfl
  · show va_up (va_up z2 30 _) 31 _ 30 r.k = Int32.ofNat (sU r.rw r.k r.np r.k) ∧ sU r.rw r.k r.np r.k < _
    rw [va_up_ne _ _ (by decide), va_up_self, upd_self, sU_self]
    exact ⟨rfl, Nat.lt_succ_self _⟩
  · show nd _ (va_up (va_up z2 30 _) 31 _ 31 r.k) (sU r.pt r.k none r.k)
    rw [va_up_self, upd_self, sU_self]; rfl

theorem B_isTimes {c : Nat} (hc : c < 128) : f_M_isTimes (Int32.ofNat c) = some (if c = 42 ∨ c = 43 ∨ c = 63 then 1 else 0) := by
  have h : ∀ c : Fin 128, f_M_isTimes (Int32.ofNat c.val) = some (if c.val = 42 ∨ c.val = 43 ∨ c.val = 63 then 1 else 0) := by decide +kernel
  exact h ⟨c, hc⟩
theorem rLab_one {tn : Nat} {tx : Nat → Int32} {s : Nat → Nat} (hT : Txt tn tx) {c : Nat} (hc : c < 128) (b : Int32) : rLab tn tx s 1 (Int32.ofNat c) b = ls_rl tn tx (LSp.con (fun x => decide (x = c))) := by
  show tl_con tn tx (fun x => x = Int32.ofNat c) = tl_con tn tx (fun x => decide (x.toNatClampNeg = c) = true)
  funext i j
  apply propext
  refine and_congr_right (fun _ => and_congr_right (fun hi => ?_))
  obtain ⟨d, hd, e⟩ := hT.ch i hi
  rw [e]
  show Int32.ofNat d = Int32.ofNat c ↔ decide ((Int32.ofNat d).toNatClampNeg = c) = true
  rw [pn_nat (show d < 2147483648 by omega), decide_eq_true_iff]
  exact pn_eq (by omega) (by omega)
theorem rLab_any {tn : Nat} {tx : Nat → Int32} {s : Nat → Nat} (hT : Txt tn tx) (a b : Int32) : rLab tn tx s 2 a b = ls_rl tn tx (LSp.con (fun x => decide (x ≠ 10))) := by
  show tl_con tn tx (fun x => x ≠ 10) = tl_con tn tx (fun x => decide (x.toNatClampNeg ≠ 10) = true)
  funext i j
  apply propext
  refine and_congr_right (fun _ => and_congr_right (fun hi => ?_))
  obtain ⟨d, hd, e⟩ := hT.ch i hi
  rw [e]
  show Int32.ofNat d ≠ 10 ↔ decide ((Int32.ofNat d).toNatClampNeg ≠ 10) = true
  rw [pn_nat (show d < 2147483648 by omega), decide_eq_true_iff]
  exact not_congr (pn_eqc (x := 10) 10 rfl (by omega) (by omega))
theorem rLab_set {tn : Nat} {tx : Nat → Int32} {s : Nat → Nat} {b e : Nat} (hb : b < 100) (he : e < 100) : rLab tn tx s 3 (Int32.ofNat b) (Int32.ofNat e) = ls_rl tn tx (LSp.con (fun c => m_set s b e c)) := by
  show tl_con tn tx (fun x => m_set s (Int32.ofNat b).toNatClampNeg (Int32.ofNat e).toNatClampNeg x.toNatClampNeg = true) = _
  rw [pn_nat (show b < 2147483648 by omega), pn_nat (show e < 2147483648 by omega)]
  rfl
/-- what building one token leaves -/
def BldOut (tn : Nat) (tx : Nat → Int32) (s : Nat → Nat) (I : MI) (A : MA) (k' : Nat) (st' : List RLv) (z : Int32 × MI × MA) : Prop := z.1 = Int32.ofNat k' ∧ MFr I z.2.1 A z.2.2 ∧ ∃ r own, RAbs tn tx s z.2.1 z.2.2 r ∧ RInv r own st' ∧ r.n ≤ 1 + 3 * k' ∧ r.np ≤ 1 + 3 * k'
/-- a single part -/
theorem B_single {tn : Nat} {tx : Nat → Int32} {s : Nat → Nat} {I : MI} {A : MA} {r : RR} {own : Nat → Nat} {st : List RLv} (h : RAbs tn tx s I A r) (hR : RInv r own st) (hne : st ≠ []) (hn : r.n + 2 ≤ 150) (hnp : r.np + 2 ≤ 150) (k a b : Int32) (hse : k = 3 → SE a b) {β : Type} {g : Int32 → MI → MA → Option β} {Q : β → Prop}
    (hg : ∀ I' A' r' own', MFr I I' A A' → RAbs tn tx s I' A' r' → RInv r' own' (st_single (rLab tn tx s k a b) st) → r'.n = r.n + 2 → r'.np ≤ r.np + 2 → Res (g 0 I' A') Q) :
    Res ((f_M_single I A k a b).bind (fun z1 => (f_M_newPart z1.2.1 z1.2.2 z1.1).bind (fun z2 => g 0 z2.2.1 z2.2.2))) Q := by
  cases st with
  | nil => exact (hne rfl).elim
  | cons x st =>
    refine (h.single (by omega) (by omega) k a b hse).bind ?_
    rintro ⟨z0, z1, z2⟩ ⟨a1, a2, a3⟩
    simp only at a1 a2 a3
    subst a1
    have hw := hR.l.1.w.frame (r_single_fr r (rLab tn tx s k a b)) (fun u hu => hu.1) (fun _ => Iff.rfl)
    have hkk : (r_single r (rLab tn tx s k a b)).k = st.length + 1 := hR.k
    have hon : (r_single r (rLab tn tx s k a b)).on ((r_single r (rLab tn tx s k a b)).tl ((r_single r (rLab tn tx s k a b)).rw ((r_single r (rLab tn tx s k a b)).k - 1))) = none := by
      rw [hkk]; exact hw.tn
    simp only
    refine (a2.newPart (by rw [hkk]; omega) (Nat.lt_succ_self _) hon (by show r.np + 1 < 160; omega)).bind ?_
    rintro ⟨y0, y1, y2⟩ ⟨b1, b2, b3, b4⟩
    simp only at b1 b2 b3 b4
    obtain ⟨own', hinv⟩ := r_single_inv hR hne (rLab tn tx s k a b)
    exact hg y1 y2 _ own' (a3.trans b2) b1 hinv b4 b3
-- 47.bld2
theorem RInv.pos {r : RR} {own : Nat → Nat} {st : List RLv} (h : RInv r own st) (hne : st ≠ []) : 0 < r.k := by
  rw [h.k]
  cases st with
  | nil => exact (hne rfl).elim
  | cons x s => exact Nat.succ_pos _
/-- the walk to a set's bracket -/
theorem B_set_go {tn : Nat} {tx : Nat → Int32} {s : Nat → Nat} {n e : Nat} {I : MI} {A : MA} {r : RR} {own : Nat → Nat} {st : List RLv} (hS : Slip (A 16) s n) (he : e < n) (h93 : s e = 93) (h : RAbs tn tx s I A r) (hR : RInv r own st) (hne : st ≠ []) (hn : r.n + 2 ≤ 150) (hnp : r.np + 2 ≤ 150) {k : Nat} (hke : k + 1 < e) {Q : Int32 × MI × MA → Prop}
    (hQ : ∀ I' A' r' own', MFr I I' A A' → RAbs tn tx s I' A' r' → RInv r' own' (st_single (rLab tn tx s 3 (Int32.ofNat (k + 1)) (Int32.ofNat e)) st) → r'.n = r.n + 2 → r'.np ≤ r.np + 2 → Q (Int32.ofNat (e + 1), I', A')) :
    ∀ (m p fuel : Nat) (X : Nat → Int32), e - p ≤ m → p ≤ e → m < fuel → (∀ j, p ≤ j → j < e → s j ≠ 93) → X 1 = Int32.ofNat k → X 4 = Int32.ofNat p → Res (f_M_build_go fuel 150 I A X) Q := by
  have hnb := hS.nb
  intro m
  induction m with
  | zero =>
    intro p fuel X hm hp hf hno h1 h4
    obtain ⟨g, rfl⟩ : ∃ g, fuel = g + 1 := ⟨fuel - 1, by omega⟩
    have epe : p = e := by omega
    subst epe
    obtain ⟨e0, c0⟩ := hS.ch p he
    simp only [f_M_build_go, f_M_build_150, if_true, h4, pn_i24 (show p < 24 by omega), pn_nat (show p < 2147483648 by omega), e0]
    rw [if_pos ((pn_eqc (x := 93) 93 rfl (by omega) (by omega)).mpr h93), h1, pn_succ]
    refine B_single h hR hne hn hnp 3 (Int32.ofNat (k + 1)) (Int32.ofNat p) (fun _ => ⟨k + 1, p, rfl, rfl, hke, by omega⟩) (g := fun _ I' A' => f_M_build_273 (f_M_build_go g) I' A' (upd X 4 (Int32.ofNat p + 1))) (fun I' A' r' own' a1 a2 a3 a4 a5 => ?_)
    unfold f_M_build_273
    rw [upd_self, pn_succ]
    exact Res.mk (hQ I' A' r' own' a1 a2 a3 a4 a5)
  | succ m ih =>
    intro p fuel X hm hp hf hno h1 h4
    by_cases q : p = e
    · exact ih p fuel X (by omega) hp (by omega) hno h1 h4
    · obtain ⟨g, rfl⟩ : ∃ g, fuel = g + 1 := ⟨fuel - 1, by omega⟩
      obtain ⟨e0, c0⟩ := hS.ch p (by omega)
      have hn93 := hno p (Nat.le_refl _) (by omega)
      simp only [f_M_build_go, f_M_build_150, if_true, h4, pn_i24 (show p < 24 by omega), pn_nat (show p < 2147483648 by omega), e0]
      rw [if_neg (fun z => hn93 ((pn_eqc (x := 93) 93 rfl (by omega) (by omega)).mp z)), pn_succ]
      refine ih (p + 1) g _ (by omega) (by omega) (by omega) (fun j h1 h2 => hno j (by omega) h2) ?_ (upd_self _ _ _)
      rw [upd_ne _ _ (by decide)]; exact h1
theorem BldOut.of {tn : Nat} {tx : Nat → Int32} {s : Nat → Nat} {I : MI} {A : MA} {k' : Nat} {st' : List RLv} {I' : MI} {A' : MA} {r : RR} {own : Nat → Nat} (h1 : MFr I I' A A') (h2 : RAbs tn tx s I' A' r) (h3 : RInv r own st') (h4 : r.n ≤ 1 + 3 * k') (h5 : r.np ≤ 1 + 3 * k') : BldOut tn tx s I A k' st' (Int32.ofNat k', I', A') := ⟨rfl, h1, r, own, h2, h3, h4, h5⟩
/-- '*', '+', '?' -/
theorem B_times {tn : Nat} {tx : Nat → Int32} {s : Nat → Nat} {I : MI} {A : MA} {r : RR} {own : Nat → Nat} {st st' : List RLv} (h : RAbs tn tx s I A r) (hR : RInv r own st) (hn : r.n + 2 ≤ 150) (hnp : r.np + 2 ≤ 150) {k : Nat} (hrn : r.n ≤ 1 + 3 * k) (hrp : r.np ≤ 1 + 3 * k) (leave again : Bool) (hst : st_rep leave again st = some st') {a0 l0 : Int32} (hl0 : l0 = 0 ↔ leave = false) (ha0 : a0 = 0 ↔ again = false)
    (rc : Nat → MI → MA → (Nat → Int32) → Option (Int32 × MI × MA)) {X : Nat → Int32} (h4 : X 4 = Int32.ofNat (k + 1)) :
    Res (f_M_build_132 rc I A X a0 l0 (A 31 (r.k - 1)) (Int32.ofNat (r.k - 1))) (BldOut tn tx s I A (k + 1) st') := by
  have hkb := h.kb
  cases st with
  | nil => cases hst
  | cons x st =>
    obtain ⟨c, q, p⟩ := x
    cases p with
    | none => cases hst
    | some pr =>
      have hkk : r.k = st.length + 1 := hR.k
      obtain ⟨p, e1, e2⟩ := hR.l.1.p
      have hpt := h.pt (r.k - 1) (by omega)
      have hk1 : r.k - 1 = st.length := by omega
      rw [hk1, e1] at hpt
      obtain ⟨hp, e3⟩ := hpt
      unfold f_M_build_132
      rw [hk1, e3]
      refine (h.times hp e2.tn (by omega) (by omega) leave again hl0 ha0).bind ?_
      rintro ⟨z0, z1, z2⟩ ⟨a1, a2, a3⟩
      simp only at a1 a2 a3
      subst a1
      simp only [pn_i26 (show st.length < 26 by omega), if_true, wk_let, pn_nat (show st.length < 2147483648 by omega), f_M_build_273, h4]
      have b1 := a2.set31 (j := st.length) (x := Int32.ofNat r.np) (v := some r.np) ⟨Nat.lt_succ_self _, rfl⟩
      obtain ⟨own', hinv⟩ := r_rep_inv hR e1 leave again
      have es : st' = st_times leave again ((c, q, some pr) :: st) := by
        have : some (st_times leave again ((c, q, some pr) :: st)) = some st' := hst
        exact (Option.some.inj this).symm
      rw [es]
      refine Res.mk (BldOut.of (r := r_rep r p leave again) (a3.ua (by omega) _) ?_ hinv (by show r.n + 2 ≤ _; omega) (by show r.np + 1 ≤ _; omega))
      unfold r_rep
      rw [hk1]
      exact b1
-- 48.bld3
theorem lx_tok_inj {t t' : Tk} {k k' : Nat} (h : Lx.tok t k = Lx.tok t' k') : t = t' ∧ k = k' := by
  have h1 := Sum.inr.inj h
  exact ⟨congrArg Prod.fst h1, congrArg Prod.snd h1⟩
theorem B_build {tn : Nat} {tx : Nat → Int32} {s : Nat → Nat} {n k k' : Nat} {I : MI} {A : MA} {r : RR} {own : Nat → Nat} {st st' : List RLv} {t : Tk} (hT : Txt tn tx) (hS : Slip (A 16) s n) (hk : k < n) (h : RAbs tn tx s I A r) (hR : RInv r own st) (hne : st ≠ []) (hlen : st.length ≤ 9) (hrn : r.n ≤ 1 + 3 * k) (hrp : r.np ≤ 1 + 3 * k)
    (hl : lx s n k = Lx.tok t k') (hst : stk tn tx t st = some st') : Res (f_M_build I A (Int32.ofNat k)) (BldOut tn tx s I A k' st') := by
  have hn24 := hS.nb
  obtain ⟨e0, c0⟩ := hS.ch k hk
  have hkl := hR.k
  have hkp := hR.pos hne
  have fu := wk_FUEL_big
  have heq : ∀ (l : Nat) (x : Int32), x = Int32.ofNat l → l < 128 → (Int32.ofNat (s k) = x ↔ s k = l) := fun l x hx hl => pn_eqc l hx (by omega) (by omega)
  have ek : Int32.ofNat r.k - 1 = Int32.ofNat (r.k - 1) := pn_sub (a := r.k) (b := 1) hkp
  have nk : (Int32.ofNat (r.k - 1)).toNatClampNeg = r.k - 1 := pn_nat (by omega)
  unfold f_M_build f_M_build_e
  simp only [pn_i24 (show k < 24 by omega), if_true, pn_nat (show k < 2147483648 by omega), e0, h.k, pn_succ]
  unfold lx at hl
  by_cases q40 : s k = 40
  · rw [if_pos q40] at hl
    obtain ⟨ht, hk'⟩ := lx_tok_inj hl
    subst ht; subst hk'
    rw [stk_opn] at hst
    have hl9 : st.length ≠ 9 := fun e => by rw [if_pos e] at hst; cases hst
    rw [if_neg hl9] at hst
    cases hst
    rw [if_pos ((heq 40 40 rfl (by omega)).mpr q40)]
    refine (h.openG (by omega) (by omega) (by omega)).bind ?_
    rintro ⟨z0, z1, z2⟩ ⟨a1, a2⟩
    simp only at a1 a2
    obtain ⟨own', hinv⟩ := r_open_inv hR
    exact Res.mk (BldOut.of a2 a1 hinv (by show r.n + 1 ≤ _; omega) (by show r.np + 1 ≤ _; omega))
  rw [if_neg q40] at hl
  rw [if_neg (fun z => q40 ((heq 40 40 rfl (by omega)).mp z))]
  by_cases q41 : s k = 41
  · rw [if_pos q41] at hl
    obtain ⟨ht, hk'⟩ := lx_tok_inj hl
    subst ht; subst hk'
    rw [stk_cls] at hst
    have hl1 : ¬ st.length ≤ 1 := fun e => by rw [if_pos e] at hst; cases hst
    rw [if_neg hl1] at hst
    cases hst
    rw [if_pos ((heq 41 41 rfl (by omega)).mpr q41)]
    cases st with
    | nil => exact (hne rfl).elim
    | cons x st => cases st with
      | nil => exact (hl1 (Nat.le_refl _)).elim
      | cons y st =>
        obtain ⟨r1, p1, hz⟩ : ∃ r1 p1, r_end r = (r1, p1) := ⟨_, _, rfl⟩
        obtain ⟨hRP, hF, e_k, e_c, e_w, e_p⟩ := r_end_ok hR hz
        have hkk : r.k = st.length + 2 := hkl
        refine (h.endRow hR (by omega) (by omega) hz).bind ?_
        rintro ⟨z0, z1, z2⟩ ⟨a1, a2, a3, a4, a5⟩
        simp only at a1 a2
        have i28 : z1 28 = Int32.ofNat r.k := by rw [← e_k]; exact a1.k
        simp only [i28, ek, wk_let, upd_self, pn_i26 (show r.k - 1 < 26 by omega), if_true, nk]
        have hc := a1.ch (r.k - 1) (by show r.k - 1 < r1.k; rw [e_k]; omega)
        have hc2 : nd r1.np (z2 29 (r.k - 1)) (some p1) := by
          have e : sU r1.ch (r.k - 1) (some p1) (r.k - 1) = some p1 := sU_self _ _ _
          rw [← e]; exact hc
        rw [hc2.2]
        have b1 := a1.setK (k := r.k - 1) (by show r.k - 1 ≤ r1.k; rw [e_k]; omega)
        have hw := hR.l.2.1.w.frame hF (fun u hu => ⟨hu.1, by have := hu.2; show own u < 3 * (y :: st).length; rw [this]; show 3 * st.length + 1 < 3 * (st.length + 1); omega⟩) (fun _ => Iff.rfl)
        have hon : r1.on (r1.tl (r1.rw (r.k - 1 - 1))) = none := by
          rw [e_w, show r.k - 1 - 1 = st.length by omega]; exact hw.tn
        refine (b1.newPart (p := p1) (by show 0 < r.k - 1; omega) a5 hon (by show r1.np < 160; omega)).bind ?_
        rintro ⟨y0, y1, y2⟩ ⟨b2, b3, b4, b5⟩
        simp only at b2 b3
        obtain ⟨own', hinv⟩ := r_close_inv hR
        have er : r_close r = r_newPart (RR.mk r1.n r1.on r1.tw r1.lab r1.np r1.hd r1.tl (r.k - 1) (sU r1.ch (r.k - 1) (some p1)) r1.rw (sU r1.pt (r.k - 1) none)) p1 := by
          unfold r_close
          rw [hz]
        rw [er] at hinv
        refine Res.mk (BldOut.of ((a2.ui (by omega) _).trans b3) b2 hinv ?_ ?_)
        · exact Nat.le_trans (Nat.le_of_eq b5) (by show r1.n ≤ _; omega)
        · have b4' : (r_newPart (RR.mk r1.n r1.on r1.tw r1.lab r1.np r1.hd r1.tl (r.k - 1) (sU r1.ch (r.k - 1) (some p1)) r1.rw (sU r1.pt (r.k - 1) none)) p1).np ≤ r1.np + 1 := b4
          exact Nat.le_trans b4' (by omega)
  rw [if_neg q41] at hl
  rw [if_neg (fun z => q41 ((heq 41 41 rfl (by omega)).mp z))]
  by_cases q124 : s k = 124
  · rw [if_neg (by omega), if_neg (by omega), if_neg (by omega), if_neg (by omega), if_neg (by omega), if_neg (by omega), if_pos q124] at hl
    obtain ⟨ht, hk'⟩ := lx_tok_inj hl
    subst ht; subst hk'
    rw [stk_bar] at hst
    cases hst
    rw [if_pos ((heq 124 124 rfl (by omega)).mpr q124)]
    cases st with
    | nil => exact (hne rfl).elim
    | cons x st =>
      obtain ⟨r1, p1, hz⟩ : ∃ r1 p1, r_end r = (r1, p1) := ⟨_, _, rfl⟩
      obtain ⟨hRP, hF, e_k, e_c, e_w, e_p⟩ := r_end_ok hR hz
      refine (h.endRow hR (by omega) (by omega) hz).bind ?_
      rintro ⟨z0, z1, z2⟩ ⟨a1, a2, a3, a4, a5⟩
      simp only at a1 a2
      simp only
      refine (a1.nothing (by show r1.n < 160; omega) (by show r1.np < 160; omega)).bind ?_
      rintro ⟨y0, y1, y2⟩ ⟨b1, b2, b3, b4⟩
      simp only at b1 b2 b3
      have b1' : y0 = Int32.ofNat r1.np := b1
      subst b1'
      simp only [ek, pn_i26 (show r.k - 1 < 26 by omega), if_true, nk, wk_let]
      have c1 := b2.set30 (j := r.k - 1) (v := r1.np) (Nat.lt_succ_self _)
      obtain ⟨own', hinv⟩ := r_bar_inv hR hne
      have er : r_bar r = (let q : RR := RR.mk r1.n r1.on r1.tw r1.lab r1.np r1.hd r1.tl r1.k (sU r1.ch (r.k - 1) (some p1)) r1.rw (sU r1.pt (r.k - 1) none)
          RR.mk (RR.n (r_nothing q)) (RR.on (r_nothing q)) (RR.tw (r_nothing q)) (RR.lab (r_nothing q)) (RR.np (r_nothing q)) (RR.hd (r_nothing q)) (RR.tl (r_nothing q)) (RR.k (r_nothing q)) (RR.ch (r_nothing q)) (sU q.rw (r.k - 1) q.np) (RR.pt (r_nothing q))) := by
        unfold r_bar
        rw [hz]
      rw [er] at hinv
      exact Res.mk (BldOut.of ((a2.trans b3).ua (by omega) _) c1 hinv (by show r1.n + 1 ≤ _; omega) (by show r1.np + 1 ≤ _; omega))
  rw [if_neg (fun z => q124 ((heq 124 124 rfl (by omega)).mp z)), B_isTimes c0]
  simp only [Option.bind_some]
  by_cases qt : s k = 42 ∨ s k = 43 ∨ s k = 63
  · rw [if_pos qt]
    have h10 : ¬ (1 : Int32) = 0 := by decide
    rw [if_neg h10, ek, if_pos (pn_i26 (show r.k - 1 < 26 by omega)), nk]
    have x2 : upd (upd (upd (upd (fun _ => (0 : Int32)) 1 (Int32.ofNat k)) 2 (Int32.ofNat (s k))) 3 (Int32.ofNat (r.k - 1))) 4 (Int32.ofNat (k + 1)) 2 = Int32.ofNat (s k) := rfl
    have x4 : upd (upd (upd (upd (fun _ => (0 : Int32)) 1 (Int32.ofNat k)) 2 (Int32.ofNat (s k))) 3 (Int32.ofNat (r.k - 1))) 4 (Int32.ofNat (k + 1)) 4 = Int32.ofNat (k + 1) := rfl
    by_cases q43 : s k = 43
    · rw [if_neg (by omega), if_pos q43] at hl
      obtain ⟨ht, hk'⟩ := lx_tok_inj hl
      subst ht; subst hk'
      rw [if_pos ((heq 43 43 rfl (by omega)).mpr q43)]
      unfold f_M_build_121
      rw [x2, if_neg (fun z => by have := (heq 63 63 rfl (by omega)).mp z; omega)]
      exact B_times h hR (by omega) (by omega) hrn hrp false true hst (by decide) (by decide) _ x4
    · rw [if_neg (fun z => q43 ((heq 43 43 rfl (by omega)).mp z))]
      unfold f_M_build_121
      rw [x2]
      by_cases q63 : s k = 63
      · rw [if_neg (by omega), if_neg q43, if_pos q63] at hl
        obtain ⟨ht, hk'⟩ := lx_tok_inj hl
        subst ht; subst hk'
        rw [if_pos ((heq 63 63 rfl (by omega)).mpr q63)]
        exact B_times h hR (by omega) (by omega) hrn hrp true false hst (by decide) (by decide) _ x4
      · rw [if_pos (by omega)] at hl
        obtain ⟨ht, hk'⟩ := lx_tok_inj hl
        subst ht; subst hk'
        rw [if_neg (fun z => q63 ((heq 63 63 rfl (by omega)).mp z))]
        exact B_times h hR (by omega) (by omega) hrn hrp true true hst (by decide) (by decide) _ x4
  rw [if_neg qt, if_pos rfl]
  rw [if_neg (by omega), if_neg (by omega), if_neg (by omega)] at hl
  -- the singles
  have one : ∀ (kd a : Int32) (l : LSp) (kk : Nat) (X : Nat → Int32), kd ≠ 3 → k < kk → t = Tk.sing l → k' = kk → rLab tn tx s kd a 0 = ls_rl tn tx l → X 4 = Int32.ofNat kk → Res ((f_M_single I A kd a 0).bind (fun z1 => (f_M_newPart z1.2.1 z1.2.2 z1.1).bind (fun z2 => f_M_build_273 (f_M_build_go wk_FUEL) z2.2.1 z2.2.2 X))) (BldOut tn tx s I A k' st') := by
    intro kd a l kk X hkd hkk ht hk' hlab h4
    subst ht; subst hk'
    rw [stk_sing] at hst
    cases hst
    refine B_single h hR hne (by omega) (by omega) kd a 0 (fun z => (hkd z).elim) (g := fun _ I' A' => f_M_build_273 (f_M_build_go wk_FUEL) I' A' X) (fun I' A' r' own' a1 a2 a3 a4 a5 => ?_)
    unfold f_M_build_273
    rw [h4]
    rw [hlab] at a3
    exact Res.mk (BldOut.of a1 a2 a3 (by omega) (by omega))
  by_cases q91 : s k = 91
  · rw [if_pos q91] at hl
    rw [if_pos ((heq 91 91 rfl (by omega)).mpr q91), pn_add2]
    unfold lxSet at hl
    by_cases qb : lxE s n k = n ∨ lxE s n k = lxB s n k
    · rw [if_pos qb] at hl; cases hl
    rw [if_neg qb] at hl
    obtain ⟨ht, hk'⟩ := lx_tok_inj hl
    subst ht; subst hk'
    rw [stk_sing] at hst
    cases hst
    obtain ⟨f1, f2, f3, f4⟩ := fbr_ok s (n - lxB s n k) (lxB s n k)
    have e1 : fbr s (n - lxB s n k) (lxB s n k) = lxE s n k := rfl
    rw [e1] at f1 f2 f3 f4
    have hb1 : k + 1 ≤ lxB s n k ∧ lxB s n k ≤ k + 2 := by unfold lxB; split <;> omega
    have hb2 : lxB s n k ≤ n := by
      unfold lxB
      split
      · rename_i hh
        have := of_decide_eq_true hh
        omega
      · omega
    have hen : lxE s n k < n := by
      have : lxE s n k ≠ n := fun z => qb (Or.inl z)
      omega
    have h93 : s (lxE s n k) = 93 := by
      rcases f4 with z | z
      · omega
      · exact z
    have hbe : lxB s n k < lxE s n k := by
      have : lxE s n k ≠ lxB s n k := fun z => qb (Or.inr z)
      omega
    have hneg : m_neg s (k + 1) = lxNeg s n k := by
      unfold m_neg lxNeg
      apply decide_eq_decide.mpr
      exact ⟨fun z => ⟨by omega, z⟩, fun z => z.2⟩
    have hlab : rLab tn tx s 3 (Int32.ofNat (k + 1)) (Int32.ofNat (lxE s n k)) = ls_rl tn tx (LSp.con (fun c => inset s (lxE s n k) 24 (lxB s n k) c != lxNeg s n k)) := by
      rw [rLab_set (by omega) (by omega)]
      unfold m_set
      rw [hneg]
      have : (if lxNeg s n k = true then k + 1 + 1 else k + 1) = lxB s n k := by unfold lxB; split <;> rfl
      rw [this]
    refine B_set_go hS hen h93 h hR hne (by omega) (by omega) (k := k) (by omega) (fun I' A' r' own' a1 a2 a3 a4 a5 => ?_) (lxE s n k - (k + 2)) (k + 2) wk_FUEL _ (Nat.le_refl _) (by omega) (by omega) (fun j h1 h2 => f3 j (by omega) h2) rfl rfl
    rw [hlab] at a3
    exact BldOut.of a1 a2 a3 (by omega) (by omega)
  rw [if_neg q91] at hl
  rw [if_neg (fun z => q91 ((heq 91 91 rfl (by omega)).mp z))]
  by_cases q92 : s k = 92
  · rw [if_pos q92] at hl
    by_cases qe : k + 1 = n
    · rw [if_pos qe] at hl; cases hl
    rw [if_neg qe] at hl
    obtain ⟨ht, hk'⟩ := lx_tok_inj hl
    obtain ⟨e1, c1⟩ := hS.ch (k + 1) (by omega)
    rw [if_pos ((heq 92 92 rfl (by omega)).mpr q92), if_pos (pn_i24 (show k + 1 < 24 by omega)), pn_nat (show k + 1 < 2147483648 by omega), e1, pn_add2]
    exact one 1 (Int32.ofNat (s (k + 1))) _ (k + 2) _ (by decide) (by omega) ht.symm hk'.symm (rLab_one hT c1 0) rfl
  rw [if_neg q92] at hl
  rw [if_neg (fun z => q92 ((heq 92 92 rfl (by omega)).mp z))]
  by_cases q93 : s k = 93
  · rw [if_pos q93] at hl; cases hl
  rw [if_neg q93, if_neg q124] at hl
  unfold f_M_build_260
  by_cases q46 : s k = 46
  · rw [if_neg (by omega), if_pos q46] at hl
    obtain ⟨ht, hk'⟩ := lx_tok_inj hl
    rw [if_pos ((heq 46 46 rfl (by omega)).mpr q46)]
    exact one 2 _ _ (k + 1) _ (by decide) (by omega) ht.symm hk'.symm (rLab_any hT _ 0) rfl
  rw [if_neg (fun z => q46 ((heq 46 46 rfl (by omega)).mp z))]
  by_cases q94 : s k = 94
  · rw [if_neg (by omega), if_neg q46, if_pos q94] at hl
    obtain ⟨ht, hk'⟩ := lx_tok_inj hl
    rw [if_pos ((heq 94 94 rfl (by omega)).mpr q94)]
    exact one 4 _ _ (k + 1) _ (by decide) (by omega) ht.symm hk'.symm rfl rfl
  rw [if_neg (fun z => q94 ((heq 94 94 rfl (by omega)).mp z))]
  by_cases q36 : s k = 36
  · rw [if_pos q36] at hl
    obtain ⟨ht, hk'⟩ := lx_tok_inj hl
    rw [if_pos ((heq 36 36 rfl (by omega)).mpr q36)]
    exact one 5 _ _ (k + 1) _ (by decide) (by omega) ht.symm hk'.symm rfl rfl
  rw [if_neg (fun z => q36 ((heq 36 36 rfl (by omega)).mp z))]
  rw [if_neg q36, if_neg q46, if_neg q94] at hl
  obtain ⟨ht, hk'⟩ := lx_tok_inj hl
  exact one 1 _ _ (k + 1) _ (by decide) (by omega) ht.symm hk'.symm (rLab_one hT c0 0) rfl
-- 49.good
theorem pn_addm1 {d : Nat} (h : 0 < d) : Int32.ofNat d + (-1) = Int32.ofNat (d - 1) := by
  rw [← Int32.sub_eq_add_neg]; exact pn_sub (a := d) (b := 1) h
/-- has the open row a part -/
def st_has (st : List RLv) : Bool := match st with
  | (_, _, some _) :: _ => true
  | _ => false
def g_flag (b : Bool) : Int32 := if b then 1 else 0
/-- the reference's answer to a reading -/
def GRes (n : Nat) (o : Rd) (x : Int32) : Prop := match o with
  | Sum.inl p => (p < n ∧ x = Int32.ofNat p) ∨ (p = n ∧ x = -1 - Int32.ofNat n)
  | Sum.inr _ => x = Int32.ofNat n
theorem B_isPlain {c : Nat} (hc : c < 128) : f_M_isPlain (Int32.ofNat c) = some (if c = 40 ∨ c = 41 ∨ c = 91 ∨ c = 93 ∨ c = 124 ∨ c = 42 ∨ c = 43 ∨ c = 63 ∨ c = 46 ∨ c = 94 ∨ c = 36 ∨ c = 92 then 0 else 1) := by
  have h : ∀ c : Fin 128, f_M_isPlain (Int32.ofNat c.val) = some (if c.val = 40 ∨ c.val = 41 ∨ c.val = 91 ∨ c.val = 93 ∨ c.val = 124 ∨ c.val = 42 ∨ c.val = 43 ∨ c.val = 63 ∨ c.val = 46 ∨ c.val = 94 ∨ c.val = 36 ∨ c.val = 92 then 0 else 1) := by decide +kernel
  exact h ⟨c, hc⟩
/-- inside a set, behind its first character -/
theorem B_good5 {s : Nat → Nat} {n e : Nat} {I : MI} {A : MA} (hS : Slip (A 2) s n) (h1 : I 1 = Int32.ofNat n) (hen : e ≤ n) (hee : e = n ∨ s e = 93) :
    ∀ (m p fuel : Nat) (X : Nat → Int32), e - p ≤ m → p ≤ e → e - p + 1 ≤ fuel → (∀ j, p ≤ j → j < e → s j ≠ 93) → X 1 = 5 → X 3 = Int32.ofNat p →
      (e = n → f_M_good_go fuel 6 I A X = some (-1 - Int32.ofNat n, I, A)) ∧ (e < n → ∃ X', X' 1 = 1 ∧ X' 2 = X 2 ∧ X' 3 = Int32.ofNat (e + 1) ∧ f_M_good_go fuel 6 I A X = f_M_good_go (fuel - (e - p) - 1) 6 I A X') := by
  have hnb := hS.nb
  have h52 : ¬ (5 : Int32) = 2 := by decide
  have h53 : ¬ (5 : Int32) = 3 := by decide
  have h5le : ¬ (5 : Int32) ≤ 2 := by decide
  have h55 : (5 : Int32) ≤ 5 := by decide
  have h15 : (1 : Int32) < 5 := by decide
  intro m
  induction m with
  | zero =>
    intro p fuel X hm hp hf hno x1 x3
    obtain ⟨g, rfl⟩ : ∃ g, fuel = g + 1 := ⟨fuel - 1, by omega⟩
    have epe : p = e := by omega
    subst epe
    refine ⟨fun q => ?_, fun q => ?_⟩
    · simp only [f_M_good_go, f_M_good_6, if_true, h1, x3, x1]
      rw [if_pos ((pn_le (by omega) (by omega)).mpr (by omega)), if_pos h15]
      simp only [f_M_good_231, f_M_good_244, h1]
    · have h93 : s p = 93 := by
        rcases hee with z | z
        · omega
        · exact z
      obtain ⟨e0, c0⟩ := hS.ch p q
      refine ⟨upd (upd (upd X 4 (Int32.ofNat (s p))) 1 1) 3 (Int32.ofNat (p + 1)), ?_, ?_, upd_self _ _ _, ?_⟩
      · rw [upd_ne _ _ (by decide), upd_self]
      · rw [upd_ne _ _ (by decide), upd_ne _ _ (by decide), upd_ne _ _ (by decide)]
      · have eg : g + 1 - (p - p) - 1 = g := by omega
        rw [eg]
        have y1 : upd X 4 (Int32.ofNat (s p)) 1 = 5 := by rw [upd_ne _ _ (by decide)]; exact x1
        have y3 : upd X 4 (Int32.ofNat (s p)) 3 = Int32.ofNat p := by rw [upd_ne _ _ (by decide)]; exact x3
        have y4 : upd X 4 (Int32.ofNat (s p)) 4 = Int32.ofNat (s p) := upd_self _ _ _
        have e93 : Int32.ofNat (s p) = 93 := (pn_eqc 93 rfl (by omega) (by omega)).mpr h93
        conv => lhs; unfold f_M_good_go
        simp only [f_M_good_6, if_true, h1, x3, x1, pn_nat (show p < 2147483648 by omega), e0]
        rw [if_neg (fun z => by have := (pn_le (a := n) (b := p) (by omega) (by omega)).mp z; omega), if_pos (pn_i24 (show p < 24 by omega)), if_neg h52, if_neg h53]
        unfold f_M_good_49
        rw [y1, y4, if_neg h5le, if_pos e93, if_pos h55]
        unfold f_M_good_68
        rw [y4, if_pos e93]
        unfold f_M_good_80 f_M_good_216
        rw [upd_ne _ _ (by decide), y3, pn_succ]
  | succ m ih =>
    intro p fuel X hm hp hf hno x1 x3
    by_cases q0 : p = e
    · exact ih p fuel X (by omega) hp hf hno x1 x3
    · obtain ⟨g, rfl⟩ : ∃ g, fuel = g + 1 := ⟨fuel - 1, by omega⟩
      obtain ⟨e0, c0⟩ := hS.ch p (by omega)
      have hn93 := hno p (Nat.le_refl _) (by omega)
      have ne93 : ¬ Int32.ofNat (s p) = 93 := fun z => hn93 ((pn_eqc 93 rfl (by omega) (by omega)).mp z)
      have y1 : upd X 4 (Int32.ofNat (s p)) 1 = 5 := by rw [upd_ne _ _ (by decide)]; exact x1
      have y3 : upd X 4 (Int32.ofNat (s p)) 3 = Int32.ofNat p := by rw [upd_ne _ _ (by decide)]; exact x3
      have y4 : upd X 4 (Int32.ofNat (s p)) 4 = Int32.ofNat (s p) := upd_self _ _ _
      have step : f_M_good_go (g + 1) 6 I A X = f_M_good_go g 6 I A (upd (upd (upd X 4 (Int32.ofNat (s p))) 1 5) 3 (Int32.ofNat (p + 1))) := by
        conv => lhs; unfold f_M_good_go
        simp only [f_M_good_6, if_true, h1, x3, x1, pn_nat (show p < 2147483648 by omega), e0]
        rw [if_neg (fun z => by have := (pn_le (a := n) (b := p) (by omega) (by omega)).mp z; omega), if_pos (pn_i24 (show p < 24 by omega)), if_neg h52, if_neg h53]
        unfold f_M_good_49
        rw [y1, y4, if_neg h5le, if_neg ne93]
        unfold f_M_good_68
        rw [y4, if_neg ne93]
        unfold f_M_good_80 f_M_good_216
        rw [upd_ne _ _ (by decide), y3, pn_succ]
      obtain ⟨i1, i2⟩ := ih (p + 1) g (upd (upd (upd X 4 (Int32.ofNat (s p))) 1 5) 3 (Int32.ofNat (p + 1))) (by omega) (by omega) (by omega) (fun j h1 h2 => hno j (by omega) h2) (by rw [upd_ne _ _ (by decide), upd_self]) (upd_self _ _ _)
      refine ⟨fun q => by rw [step]; exact i1 q, fun q => ?_⟩
      obtain ⟨X', a1, a2, a3, a4⟩ := i2 q
      refine ⟨X', a1, ?_, a3, ?_⟩
      · rw [a2, upd_ne _ _ (by decide), upd_ne _ _ (by decide), upd_ne _ _ (by decide)]
      · rw [step, a4, show g + 1 - (e - p) - 1 = g - (e - (p + 1)) - 1 by omega]
/-- a set from its bracket on: its first character stands at b, the state is 3 or 4 -/
theorem B_goodB {s : Nat → Nat} {n b e : Nat} {I : MI} {A : MA} (hS : Slip (A 2) s n) (h1 : I 1 = Int32.ofNat n) (hb : b ≤ n) (he : e = fbr s (n - b) b) {fuel : Nat} (hf : n - b + 1 ≤ fuel) {X : Nat → Int32} (x1 : X 1 = 4 ∨ (X 1 = 3 ∧ (b < n → s b ≠ 94))) (x3 : X 3 = Int32.ofNat b) :
    (e = n → f_M_good_go fuel 6 I A X = some (-1 - Int32.ofNat n, I, A)) ∧ (e < n → e = b → f_M_good_go fuel 6 I A X = some (Int32.ofNat b, I, A)) ∧ (e < n → e ≠ b → ∃ X', X' 1 = 1 ∧ X' 2 = X 2 ∧ X' 3 = Int32.ofNat (e + 1) ∧ f_M_good_go fuel 6 I A X = f_M_good_go (fuel - (e - b) - 1) 6 I A X') := by
  have hnb := hS.nb
  obtain ⟨f1, f2, f3, f4⟩ := fbr_ok s (n - b) b
  rw [← he] at f1 f2 f3 f4
  have hen : e ≤ n := by omega
  have hee : e = n ∨ s e = 93 := by
    rcases f4 with z | z
    · exact Or.inl (by omega)
    · exact Or.inr z
  obtain ⟨g, rfl⟩ : ∃ g, fuel = g + 1 := ⟨fuel - 1, by omega⟩
  have k1 : (1 : Int32) < X 1 := by rcases x1 with z | ⟨z, _⟩ <;> (rw [z]; decide)
  have k2 : ¬ X 1 = 2 := by rcases x1 with z | ⟨z, _⟩ <;> (rw [z]; decide)
  have k3 : ¬ X 1 ≤ 2 := by rcases x1 with z | ⟨z, _⟩ <;> (rw [z]; decide)
  have k5 : ¬ (5 : Int32) ≤ X 1 := by rcases x1 with z | ⟨z, _⟩ <;> (rw [z]; decide)
  by_cases qn : b = n
  · have een : e = n := by omega
    refine ⟨fun _ => ?_, fun z => by omega, fun z => by omega⟩
    simp only [f_M_good_go, f_M_good_6, if_true, h1, x3]
    rw [if_pos ((pn_le (by omega) (by omega)).mpr (by omega)), if_pos k1]
    simp only [f_M_good_231, f_M_good_244, h1]
  · obtain ⟨e0, c0⟩ := hS.ch b (by omega)
    have y1 : upd X 4 (Int32.ofNat (s b)) 1 = X 1 := upd_ne _ _ (by decide)
    have y3 : upd X 4 (Int32.ofNat (s b)) 3 = Int32.ofNat b := by rw [upd_ne _ _ (by decide)]; exact x3
    have y4 : upd X 4 (Int32.ofNat (s b)) 4 = Int32.ofNat (s b) := upd_self _ _ _
    have to49 : f_M_good_go (g + 1) 6 I A X = f_M_good_49 (f_M_good_go g) I A (upd X 4 (Int32.ofNat (s b))) := by
      conv => lhs; unfold f_M_good_go
      simp only [f_M_good_6, if_true, h1, x3, pn_nat (show b < 2147483648 by omega), e0]
      rw [if_neg (fun z => by have := (pn_le (a := n) (b := b) (by omega) (by omega)).mp z; omega), if_pos (pn_i24 (show b < 24 by omega)), if_neg k2]
      rcases x1 with z | ⟨z, z2⟩
      · rw [if_neg (by rw [z]; decide)]
      · rw [if_pos z, if_neg (fun w => z2 (by omega) ((pn_eqc (x := 94) 94 rfl (by omega) (by omega)).mp w))]
    by_cases q93 : s b = 93
    · have eb : e = b := by
        by_cases w : b < e
        · exact (f3 b (Nat.le_refl _) w q93).elim
        · omega
      refine ⟨fun z => by omega, fun _ _ => ?_, fun _ z => (z eb).elim⟩
      rw [to49]
      unfold f_M_good_49
      rw [y1, y4, if_neg k3, if_pos ((pn_eqc (x := 93) 93 rfl (by omega) (by omega)).mpr q93), if_neg k5, y3]
    · have hbe : b < e := by
        by_cases w : e = b
        · rcases hee with z | z
          · omega
          · rw [w] at z; exact (q93 z).elim
        · omega
      have step : f_M_good_go (g + 1) 6 I A X = f_M_good_go g 6 I A (upd (upd (upd X 4 (Int32.ofNat (s b))) 1 5) 3 (Int32.ofNat (b + 1))) := by
        have ne93 : ¬ Int32.ofNat (s b) = 93 := fun z => q93 ((pn_eqc 93 rfl (by omega) (by omega)).mp z)
        rw [to49]
        unfold f_M_good_49
        rw [y1, y4, if_neg k3, if_neg ne93]
        unfold f_M_good_68
        rw [y4, if_neg ne93]
        unfold f_M_good_80 f_M_good_216
        rw [upd_ne _ _ (by decide), y3, pn_succ]
      obtain ⟨i1, i2⟩ := B_good5 hS h1 hen hee (e - (b + 1)) (b + 1) g (upd (upd (upd X 4 (Int32.ofNat (s b))) 1 5) 3 (Int32.ofNat (b + 1))) (Nat.le_refl _) hbe (by omega) (fun j h1 h2 => f3 j (by omega) h2) (by rw [upd_ne _ _ (by decide), upd_self]) (upd_self _ _ _)
      refine ⟨fun z => by rw [step]; exact i1 z, fun _ z => by omega, fun z _ => ?_⟩
      obtain ⟨X', a1, a2, a3, a4⟩ := i2 z
      refine ⟨X', a1, ?_, a3, ?_⟩
      · rw [a2, upd_ne _ _ (by decide), upd_ne _ _ (by decide), upd_ne _ _ (by decide)]
      · rw [step, a4, show g + 1 - (e - b) - 1 = g - (e - (b + 1)) - 1 by omega]
-- 50.good2
theorem st_has_single (l : Rl) {st : List RLv} (h : st ≠ []) : st_has (st_single l st) = true := by
  cases st with
  | nil => exact (h rfl).elim
  | cons x s => rfl
theorem st_len_single (l : Rl) (st : List RLv) : (st_single l st).length = st.length := by
  cases st <;> rfl
theorem st_single_ne (l : Rl) {st : List RLv} (h : st ≠ []) : st_single l st ≠ [] := by
  cases st with
  | nil => exact (h rfl).elim
  | cons x s => exact List.cons_ne_nil _ _
theorem rd_bad {tn : Nat} {tx : Nat → Int32} {s : Nat → Nat} {n m k p : Nat} {st : List RLv} (hk : k < n) (hl : lx s n k = Lx.bad p) : rd tn tx s n (m + 1) k st = Rd.fault p := by
  unfold rd; rw [if_neg (by omega), hl]
theorem rd_none {tn : Nat} {tx : Nat → Int32} {s : Nat → Nat} {n m k k' : Nat} {t : Tk} {st : List RLv} (hk : k < n) (hl : lx s n k = Lx.tok t k') (hs : stk tn tx t st = none) : rd tn tx s n (m + 1) k st = Rd.fault k := by
  unfold rd; rw [if_neg (by omega), hl]; simp only [hs]
theorem rd_some {tn : Nat} {tx : Nat → Int32} {s : Nat → Nat} {n m k k' : Nat} {t : Tk} {st st' : List RLv} (hk : k < n) (hl : lx s n k = Lx.tok t k') (hs : stk tn tx t st = some st') : rd tn tx s n (m + 1) k st = rd tn tx s n m k' st' := by
  conv => lhs; unfold rd
  rw [if_neg (by omega), hl]; simp only [hs]
theorem B_good_go {tn : Nat} {tx : Nat → Int32} {s : Nat → Nat} {n : Nat} {I : MI} {A : MA} (hS : Slip (A 2) s n) (h1 : I 1 = Int32.ofNat n) :
    ∀ (m k fuel : Nat) (st : List RLv) (X : Nat → Int32), n - k < m → n - k + 1 ≤ fuel → k ≤ n → st ≠ [] → st.length ≤ 9 → X 1 = g_flag (st_has st) → X 2 = Int32.ofNat (st.length - 1) → X 3 = Int32.ofNat k →
      ∃ x, f_M_good_go fuel 6 I A X = some (x, I, A) ∧ GRes n (rd tn tx s n m k st) x := by
  have hnb := hS.nb
  intro m
  induction m with
  | zero => intros; omega
  | succ m ih =>
    intro k fuel st X hm hf hkn hne hlen x1 x2 x3
    obtain ⟨g, rfl⟩ : ∃ g, fuel = g + 1 := ⟨fuel - 1, by omega⟩
    have hlp : 0 < st.length := by
      cases st with
      | nil => exact (hne rfl).elim
      | cons x s => exact Nat.succ_pos _
    have kf1 : ¬ (1 : Int32) < X 1 := by rw [x1]; cases st_has st <;> decide
    have kf2 : ¬ X 1 = 2 := by rw [x1]; cases st_has st <;> decide
    have kf3 : ¬ X 1 = 3 := by rw [x1]; cases st_has st <;> decide
    have kf4 : X 1 ≤ 2 := by rw [x1]; cases st_has st <;> decide
    by_cases qk : n ≤ k
    · simp only [f_M_good_go, f_M_good_6, if_true, h1, x3, x2]
      rw [if_pos ((pn_le (by omega) (by omega)).mpr qk), if_neg kf1]
      unfold rd
      rw [if_pos qk]
      by_cases q : 1 < st.length
      · rw [if_neg (fun z => by have := (pn_lec (x := 0) 0 rfl (by omega) (by omega)).mp z; omega), if_pos q]
        simp only [f_M_good_231, f_M_good_244, h1]
        exact ⟨_, rfl, Or.inr ⟨rfl, rfl⟩⟩
      · rw [if_pos ((pn_lec (x := 0) 0 rfl (by omega) (by omega)).mpr (by omega)), if_neg q]
        simp only [f_M_good_244]
        exact ⟨_, rfl, rfl⟩
    · obtain ⟨e0, c0⟩ := hS.ch k (by omega)
      have hk : k < n := by omega
      have heq : ∀ (l : Nat) (x : Int32), x = Int32.ofNat l → l < 128 → (Int32.ofNat (s k) = x ↔ s k = l) := fun l x hx hl => pn_eqc l hx (by omega) (by omega)
      obtain ⟨X0, hX0⟩ : ∃ X0, X0 = upd X 4 (Int32.ofNat (s k)) := ⟨_, rfl⟩
      have y1 : X0 1 = g_flag (st_has st) := by rw [hX0, upd_ne _ _ (by decide)]; exact x1
      have y2 : X0 2 = Int32.ofNat (st.length - 1) := by rw [hX0, upd_ne _ _ (by decide)]; exact x2
      have y3 : X0 3 = Int32.ofNat k := by rw [hX0, upd_ne _ _ (by decide)]; exact x3
      have y4 : X0 4 = Int32.ofNat (s k) := by rw [hX0, upd_self]
      have yf4 : X0 1 ≤ 2 := by rw [y1, ← x1]; exact kf4
      have to49 : f_M_good_go (g + 1) 6 I A X = f_M_good_49 (f_M_good_go g) I A X0 := by
        rw [hX0]
        conv => lhs; unfold f_M_good_go
        simp only [f_M_good_6, if_true, h1, x3, pn_nat (show k < 2147483648 by omega), e0]
        rw [if_neg (fun z => qk ((pn_le (by omega) (by omega)).mp z)), if_pos (pn_i24 (show k < 24 by omega)), if_neg kf2, if_neg kf3]
      rw [to49]
      -- a token of one character that goes on
      have goOn : ∀ (t : Tk) (st' : List RLv) (X' : Nat → Int32), lx s n k = Lx.tok t (k + 1) → stk tn tx t st = some st' → st' ≠ [] → st'.length ≤ 9 → X' 1 = g_flag (st_has st') → X' 2 = Int32.ofNat (st'.length - 1) → X' 3 = Int32.ofNat k →
          ∃ x, f_M_good_216 (f_M_good_go g) I A X' = some (x, I, A) ∧ GRes n (rd tn tx s n (m + 1) k st) x := by
        intro t st' X' hl hs hne' hlen' z1 z2 z3
        unfold f_M_good_216
        rw [z3, pn_succ, rd_some hk hl hs]
        exact ih (k + 1) g st' _ (by omega) (by omega) (by omega) hne' hlen' (by rw [upd_ne _ _ (by decide)]; exact z1) (by rw [upd_ne _ _ (by decide)]; exact z2) (upd_self _ _ _)
      have bad : lx s n k = Lx.bad k ∨ (∃ t k', lx s n k = Lx.tok t k' ∧ stk tn tx t st = none) → ∃ x, some (Int32.ofNat k, I, A) = some (x, I, A) ∧ GRes n (rd tn tx s n (m + 1) k st) x := by
        rintro (hl | ⟨t, k', hl, hs⟩)
        · rw [rd_bad hk hl]; exact ⟨_, rfl, Or.inl ⟨hk, rfl⟩⟩
        · rw [rd_none hk hl hs]; exact ⟨_, rfl, Or.inl ⟨hk, rfl⟩⟩
      unfold f_M_good_49
      rw [if_pos yf4, y4, y2, y3]
      by_cases q40 : s k = 40
      · have hl : lx s n k = Lx.tok Tk.opn (k + 1) := by unfold lx; rw [if_pos q40]
        rw [if_pos ((heq 40 40 rfl (by omega)).mpr q40)]
        by_cases q9 : st.length = 9
        · rw [if_pos ((pn_eqc (x := 8) 8 rfl (by omega) (by omega)).mpr (by omega))]
          exact bad (Or.inr ⟨_, _, hl, by rw [stk_opn, if_pos q9]⟩)
        · rw [if_neg (fun z => by have := (pn_eqc (x := 8) 8 rfl (by omega) (by omega)).mp z; omega), pn_succ]
          refine goOn _ (st_open st) _ hl (by rw [stk_opn, if_neg q9]) (List.cons_ne_nil _ _) (by show st.length + 1 ≤ 9; omega) ?_ ?_ ?_
          · rw [upd_ne _ _ (by decide), upd_self]; rfl
          · rw [upd_self]; show Int32.ofNat (st.length - 1 + 1) = Int32.ofNat (st.length + 1 - 1); rw [show st.length - 1 + 1 = st.length + 1 - 1 by omega]
          · rw [upd_ne _ _ (by decide), upd_ne _ _ (by decide)]; exact y3
      rw [if_neg (fun z => q40 ((heq 40 40 rfl (by omega)).mp z))]
      -- what is behind the groups
      have rest : s k ≠ 41 ∨ st.length ≤ 1 → ∃ x, f_M_good_126 (f_M_good_go g) I A X0 = some (x, I, A) ∧ GRes n (rd tn tx s n (m + 1) k st) x := by
        intro hr
        unfold f_M_good_126
        rw [y4]
        by_cases q124 : s k = 124
        · have hl : lx s n k = Lx.tok Tk.bar (k + 1) := by unfold lx; rw [if_neg q40, if_neg (by omega), if_neg (by omega), if_neg (by omega), if_neg (by omega), if_neg (by omega), if_neg (by omega), if_neg (by omega), if_pos q124]
          rw [if_pos ((heq 124 124 rfl (by omega)).mpr q124)]
          refine goOn _ (st_bar st) _ hl (stk_bar _ _ _) ?_ ?_ ?_ ?_ ?_
          · cases st with
            | nil => exact (hne rfl).elim
            | cons x st => exact List.cons_ne_nil _ _
          · cases st <;> exact hlen
          · rw [upd_self]; cases st <;> rfl
          · rw [upd_ne _ _ (by decide), y2]; cases st <;> rfl
          · rw [upd_ne _ _ (by decide)]; exact y3
        rw [if_neg (fun z => q124 ((heq 124 124 rfl (by omega)).mp z))]
        -- a single that is complete at once
        have sing : ∀ l : LSp, lx s n k = Lx.tok (Tk.sing l) (k + 1) → ∃ x, f_M_good_197 (f_M_good_go g) I A X0 = some (x, I, A) ∧ GRes n (rd tn tx s n (m + 1) k st) x := by
          intro l hl
          unfold f_M_good_197
          refine goOn _ _ _ hl (stk_sing _ _ _ _) (st_single_ne _ hne) (by rw [st_len_single]; exact hlen) ?_ ?_ ?_
          · rw [upd_self, st_has_single _ hne]; rfl
          · rw [upd_ne _ _ (by decide), y2, st_len_single]
          · rw [upd_ne _ _ (by decide)]; exact y3
        by_cases q91 : s k = 91
        · rw [if_pos ((heq 91 91 rfl (by omega)).mpr q91)]
          have hl : lx s n k = lxSet s n k := by unfold lx; rw [if_neg q40, if_neg (by omega), if_neg (by omega), if_neg (by omega), if_neg (by omega), if_pos q91]
          unfold f_M_good_152 f_M_good_164 f_M_good_216
          rw [y4, if_pos ((heq 91 91 rfl (by omega)).mpr q91), upd_ne _ _ (by decide), y3, pn_succ]
          -- what follows the first character's place
          have tail : ∀ (fuel' : Nat) (X' : Nat → Int32), n - lxB s n k + 1 ≤ fuel' → lxB s n k ≤ n → k + 1 ≤ lxB s n k → (X' 1 = 4 ∨ (X' 1 = 3 ∧ (lxB s n k < n → s (lxB s n k) ≠ 94))) → X' 2 = Int32.ofNat (st.length - 1) → X' 3 = Int32.ofNat (lxB s n k) →
              ∃ x, f_M_good_go fuel' 6 I A X' = some (x, I, A) ∧ GRes n (rd tn tx s n (m + 1) k st) x := by
            intro fuel' X' hf' hb hkb z1 z2 z3
            obtain ⟨i1, i2, i3⟩ := B_goodB (e := lxE s n k) hS h1 hb rfl hf' z1 z3
            obtain ⟨f1, f2, f3, f4⟩ := fbr_ok s (n - lxB s n k) (lxB s n k)
            have e1 : fbr s (n - lxB s n k) (lxB s n k) = lxE s n k := rfl
            rw [e1] at f1 f2 f3 f4
            unfold lxSet at hl
            by_cases qn : lxE s n k = n
            · rw [if_pos (Or.inl qn)] at hl
              rw [i1 qn, rd_bad hk hl]
              exact ⟨_, rfl, Or.inr ⟨qn, rfl⟩⟩
            · by_cases qb : lxE s n k = lxB s n k
              · rw [if_pos (Or.inr qb)] at hl
                rw [i2 (by omega) qb, rd_bad hk hl, qb]
                exact ⟨_, rfl, Or.inl ⟨by omega, rfl⟩⟩
              · rw [if_neg (fun z => z.elim qn qb)] at hl
                obtain ⟨X2, a1, a2, a3, a4⟩ := i3 (by omega) qb
                rw [a4, rd_some hk hl (stk_sing _ _ _ _)]
                refine ih (lxE s n k + 1) _ _ X2 (by omega) (by omega) (by omega) (st_single_ne _ hne) (by rw [st_len_single]; exact hlen) ?_ ?_ a3
                · rw [a1, st_has_single _ hne]; rfl
                · rw [a2, z2, st_len_single]
          by_cases qneg : k + 1 < n ∧ s (k + 1) = 94
          · have hneg : lxNeg s n k = true := decide_eq_true qneg
            have hb : lxB s n k = k + 2 := by unfold lxB; rw [hneg]; rfl
            obtain ⟨g', hg'⟩ : ∃ g', g = g' + 1 := ⟨g - 1, by omega⟩
            obtain ⟨e1, c1⟩ := hS.ch (k + 1) qneg.1
            have h33 : ¬ (3 : Int32) = 2 := by decide
            have w1 : upd (upd X0 1 3) 3 (Int32.ofNat (k + 1)) 1 = 3 := by rw [upd_ne _ _ (by decide), upd_self]
            have w3 : upd (upd X0 1 3) 3 (Int32.ofNat (k + 1)) 3 = Int32.ofNat (k + 1) := upd_self _ _ _
            have st1 : f_M_good_go g 6 I A (upd (upd X0 1 3) 3 (Int32.ofNat (k + 1))) = f_M_good_go g' 6 I A (upd (upd (upd (upd (upd X0 1 3) 3 (Int32.ofNat (k + 1))) 1 4) 4 (Int32.ofNat (s (k + 1)))) 3 (Int32.ofNat (k + 2))) := by
              rw [hg']
              conv => lhs; unfold f_M_good_go
              simp only [f_M_good_6, if_true, h1, w3, w1, pn_nat (show k + 1 < 2147483648 by omega), e1]
              rw [if_neg (fun z => by have := (pn_le (a := n) (b := k + 1) (by omega) (by omega)).mp z; omega), if_pos (pn_i24 (show k + 1 < 24 by omega)), if_neg h33, if_pos ((pn_eqc (x := 94) 94 rfl (by omega) (by omega)).mpr qneg.2)]
              unfold f_M_good_216
              rw [upd_ne _ _ (by decide), upd_ne _ _ (by decide), w3, pn_succ]
            rw [st1]
            refine tail g' _ (by omega) (by omega) (by omega) (Or.inl ?_) ?_ (by rw [upd_self, hb])
            · rw [upd_ne _ _ (by decide), upd_ne _ _ (by decide), upd_self]
            · rw [upd_ne _ _ (by decide), upd_ne _ _ (by decide), upd_ne _ _ (by decide), upd_ne _ _ (by decide), upd_ne _ _ (by decide)]; exact y2
          · have hneg : lxNeg s n k = false := decide_eq_false qneg
            have hb : lxB s n k = k + 1 := by unfold lxB; rw [hneg]; rfl
            refine tail g _ (by omega) (by omega) (by omega) (Or.inr ⟨?_, fun w1 w2 => ?_⟩) ?_ (by rw [upd_self, hb])
            · rw [upd_ne _ _ (by decide), upd_self]
            · rw [hb] at w1 w2; exact qneg ⟨w1, w2⟩
            · rw [upd_ne _ _ (by decide), upd_ne _ _ (by decide)]; exact y2
        rw [if_neg (fun z => q91 ((heq 91 91 rfl (by omega)).mp z))]
        by_cases q92 : s k = 92
        · rw [if_pos ((heq 92 92 rfl (by omega)).mpr q92)]
          have hl : lx s n k = (if k + 1 = n then Lx.bad n else Lx.tok (Tk.sing (LSp.con (fun c => decide (c = s (k + 1))))) (k + 2)) := by unfold lx; rw [if_neg q40, if_neg (by omega), if_neg (by omega), if_neg (by omega), if_neg (by omega), if_neg q91, if_pos q92]
          unfold f_M_good_152 f_M_good_164 f_M_good_216
          rw [y4, if_neg (fun z => q91 ((heq 91 91 rfl (by omega)).mp z)), upd_ne _ _ (by decide), y3, pn_succ]
          obtain ⟨g', hg'⟩ : ∃ g', g = g' + 1 := ⟨g - 1, by omega⟩
          have w1 : upd (upd X0 1 2) 3 (Int32.ofNat (k + 1)) 1 = 2 := by rw [upd_ne _ _ (by decide), upd_self]
          have w2 : upd (upd X0 1 2) 3 (Int32.ofNat (k + 1)) 2 = Int32.ofNat (st.length - 1) := by rw [upd_ne _ _ (by decide), upd_ne _ _ (by decide)]; exact y2
          have w3 : upd (upd X0 1 2) 3 (Int32.ofNat (k + 1)) 3 = Int32.ofNat (k + 1) := upd_self _ _ _
          have h12 : (1 : Int32) < 2 := by decide
          by_cases qe : k + 1 = n
          · rw [if_pos qe] at hl
            rw [rd_bad hk hl, hg']
            simp only [f_M_good_go, f_M_good_6, if_true, h1, w3, w1]
            rw [if_pos ((pn_le (by omega) (by omega)).mpr (by omega)), if_pos h12]
            simp only [f_M_good_231, f_M_good_244, h1]
            exact ⟨_, rfl, Or.inr ⟨rfl, rfl⟩⟩
          · rw [if_neg qe] at hl
            rw [rd_some hk hl (stk_sing _ _ _ _)]
            obtain ⟨e1, c1⟩ := hS.ch (k + 1) (by omega)
            have st1 : f_M_good_go g 6 I A (upd (upd X0 1 2) 3 (Int32.ofNat (k + 1))) = f_M_good_go g' 6 I A (upd (upd (upd (upd (upd X0 1 2) 3 (Int32.ofNat (k + 1))) 1 1) 4 (Int32.ofNat (s (k + 1)))) 3 (Int32.ofNat (k + 2))) := by
              rw [hg']
              conv => lhs; unfold f_M_good_go
              simp only [f_M_good_6, if_true, h1, w3, w1, pn_nat (show k + 1 < 2147483648 by omega), e1]
              rw [if_neg (fun z => by have := (pn_le (a := n) (b := k + 1) (by omega) (by omega)).mp z; omega), if_pos (pn_i24 (show k + 1 < 24 by omega))]
              unfold f_M_good_216
              rw [upd_ne _ _ (by decide), upd_ne _ _ (by decide), w3, pn_succ]
            rw [st1]
            refine ih (k + 2) g' _ _ (by omega) (by omega) (by omega) (st_single_ne _ hne) (by rw [st_len_single]; exact hlen) ?_ ?_ (upd_self _ _ _)
            · rw [upd_ne _ _ (by decide), upd_ne _ _ (by decide), upd_self, st_has_single _ hne]; rfl
            · rw [upd_ne _ _ (by decide), upd_ne _ _ (by decide), upd_ne _ _ (by decide), w2, st_len_single]
        rw [if_neg (fun z => q92 ((heq 92 92 rfl (by omega)).mp z)), B_isPlain c0]
        simp only [Option.bind_some]
        have h10 : ¬ (1 : Int32) = 0 := by decide
        by_cases q46 : s k = 46
        · rw [if_pos (show s k = 40 ∨ s k = 41 ∨ s k = 91 ∨ s k = 93 ∨ s k = 124 ∨ s k = 42 ∨ s k = 43 ∨ s k = 63 ∨ s k = 46 ∨ s k = 94 ∨ s k = 36 ∨ s k = 92 by omega), if_pos rfl, if_pos ((heq 46 46 rfl (by omega)).mpr q46)]
          exact sing _ (by unfold lx; rw [if_neg q40, if_neg (by omega), if_neg (by omega), if_neg (by omega), if_neg (by omega), if_neg q91, if_neg q92, if_neg (by omega), if_neg q124, if_neg (by omega), if_pos q46])
        by_cases q94 : s k = 94
        · rw [if_pos (show s k = 40 ∨ s k = 41 ∨ s k = 91 ∨ s k = 93 ∨ s k = 124 ∨ s k = 42 ∨ s k = 43 ∨ s k = 63 ∨ s k = 46 ∨ s k = 94 ∨ s k = 36 ∨ s k = 92 by omega), if_pos rfl, if_neg (fun z => q46 ((heq 46 46 rfl (by omega)).mp z)), if_pos ((heq 94 94 rfl (by omega)).mpr q94)]
          exact sing _ (by unfold lx; rw [if_neg q40, if_neg (by omega), if_neg (by omega), if_neg (by omega), if_neg (by omega), if_neg q91, if_neg q92, if_neg (by omega), if_neg q124, if_neg (by omega), if_neg q46, if_pos q94])
        by_cases q36 : s k = 36
        · rw [if_pos (show s k = 40 ∨ s k = 41 ∨ s k = 91 ∨ s k = 93 ∨ s k = 124 ∨ s k = 42 ∨ s k = 43 ∨ s k = 63 ∨ s k = 46 ∨ s k = 94 ∨ s k = 36 ∨ s k = 92 by omega), if_pos rfl, if_neg (fun z => q46 ((heq 46 46 rfl (by omega)).mp z)), if_neg (fun z => q94 ((heq 94 94 rfl (by omega)).mp z)), if_pos ((heq 36 36 rfl (by omega)).mpr q36)]
          exact sing _ (by unfold lx; rw [if_neg q40, if_neg (by omega), if_neg (by omega), if_neg (by omega), if_neg (by omega), if_neg q91, if_neg q92, if_neg (by omega), if_neg q124, if_pos q36])
        by_cases qs : s k = 41 ∨ s k = 93 ∨ s k = 42 ∨ s k = 43 ∨ s k = 63
        · rw [if_pos (show s k = 40 ∨ s k = 41 ∨ s k = 91 ∨ s k = 93 ∨ s k = 124 ∨ s k = 42 ∨ s k = 43 ∨ s k = 63 ∨ s k = 46 ∨ s k = 94 ∨ s k = 36 ∨ s k = 92 by omega), if_pos rfl, if_neg (fun z => q46 ((heq 46 46 rfl (by omega)).mp z)), if_neg (fun z => q94 ((heq 94 94 rfl (by omega)).mp z)), if_neg (fun z => q36 ((heq 36 36 rfl (by omega)).mp z)), B_isTimes c0]
          simp only [Option.bind_some]
          by_cases qt : s k = 42 ∨ s k = 43 ∨ s k = 63
          · rw [if_pos qt, if_neg h10, y1]
            have hl : ∃ l a, lx s n k = Lx.tok (Tk.rep l a) (k + 1) := by
              rcases qt with q | q | q
              · exact ⟨true, true, by unfold lx; rw [if_neg q40, if_neg (by omega), if_pos q]⟩
              · exact ⟨false, true, by unfold lx; rw [if_neg q40, if_neg (by omega), if_neg (by omega), if_pos q]⟩
              · exact ⟨true, false, by unfold lx; rw [if_neg q40, if_neg (by omega), if_neg (by omega), if_neg (by omega), if_pos q]⟩
            obtain ⟨l, a, hl⟩ := hl
            cases st with
            | nil => exact (hne rfl).elim
            | cons x st =>
              obtain ⟨c, q, p⟩ := x
              cases p with
              | none =>
                have e : g_flag (st_has ((c, q, (none : Option Rl)) :: st)) = 0 := rfl
                rw [e, if_pos rfl]
                unfold f_M_good_214
                rw [y3]
                exact bad (Or.inr ⟨_, _, hl, rfl⟩)
              | some p =>
                have e : ¬ g_flag (st_has ((c, q, some p) :: st)) = 0 := by
                  have e2 : g_flag (st_has ((c, q, some p) :: st)) = 1 := rfl
                  rw [e2]; exact h10
                rw [if_neg e]
                refine goOn _ (st_times l a ((c, q, some p) :: st)) X0 hl rfl (List.cons_ne_nil _ _) hlen ?_ ?_ y3
                · rw [y1]; rfl
                · rw [y2]; rfl
          · rw [if_neg qt, if_pos rfl]
            unfold f_M_good_214
            rw [y3]
            by_cases q93 : s k = 93
            · exact bad (Or.inl (by unfold lx; rw [if_neg q40, if_neg (by omega), if_neg (by omega), if_neg (by omega), if_neg (by omega), if_neg q91, if_neg q92, if_pos q93]))
            · have q41 : s k = 41 := by omega
              refine bad (Or.inr ⟨Tk.cls, k + 1, by unfold lx; rw [if_neg q40, if_pos q41], ?_⟩)
              rw [stk_cls, if_pos (by omega)]
        · rw [if_neg (show ¬ (s k = 40 ∨ s k = 41 ∨ s k = 91 ∨ s k = 93 ∨ s k = 124 ∨ s k = 42 ∨ s k = 43 ∨ s k = 63 ∨ s k = 46 ∨ s k = 94 ∨ s k = 36 ∨ s k = 92) by omega), if_neg h10]
          exact sing _ (by unfold lx; rw [if_neg q40, if_neg (by omega), if_neg (by omega), if_neg (by omega), if_neg (by omega), if_neg q91, if_neg q92, if_neg (by omega), if_neg q124, if_neg q36, if_neg q46, if_neg q94])
      by_cases q41 : s k = 41
      · rw [if_pos ((heq 41 41 rfl (by omega)).mpr q41)]
        by_cases q1 : st.length ≤ 1
        · rw [if_pos ((pn_lec (x := 0) 0 rfl (by omega) (by omega)).mpr (by omega))]
          exact rest (Or.inr q1)
        · have hl : lx s n k = Lx.tok Tk.cls (k + 1) := by unfold lx; rw [if_neg q40, if_pos q41]
          rw [if_neg (fun z => by have := (pn_lec (x := 0) 0 rfl (by omega) (by omega)).mp z; omega), pn_addm1 (by omega)]
          cases st with
          | nil => exact (hne rfl).elim
          | cons x st => cases st with
            | nil => exact (q1 (Nat.le_refl _)).elim
            | cons y st =>
              refine goOn _ (st_close (x :: y :: st)) _ hl (by rw [stk_cls, if_neg q1]) (List.cons_ne_nil _ _) (by show st.length + 1 ≤ 9; have : st.length + 2 ≤ 9 := hlen; omega) ?_ ?_ ?_
              · rw [upd_ne _ _ (by decide), upd_self]; rfl
              · rw [upd_self]; rfl
              · rw [upd_ne _ _ (by decide), upd_ne _ _ (by decide)]; exact y3
      · rw [if_neg (fun z => q41 ((heq 41 41 rfl (by omega)).mp z))]
        exact rest (Or.inl q41)
theorem B_good {tn : Nat} {tx : Nat → Int32} {s : Nat → Nat} {n : Nat} {I : MI} {A : MA} (hS : Slip (A 2) s n) (h1 : I 1 = Int32.ofNat n) : ∃ x, f_M_good I A = some (x, I, A) ∧ GRes n (rd tn tx s n (n + 1) 0 (st_open [])) x := by
  have fu := wk_FUEL_big
  have hnb := hS.nb
  unfold f_M_good f_M_good_e
  exact B_good_go hS h1 (n + 1) 0 wk_FUEL (st_open []) _ (by omega) (by omega) (by omega) (List.cons_ne_nil _ _) (by decide) rfl rfl rfl
-- 51.comp
theorem nar_ch {c : Nat} (hc : c < 128) : vp_nar .char (Int32.ofNat c) = Int32.ofNat c := by
  have h : ∀ c : Fin 128, vp_nar .char (Int32.ofNat c.val) = Int32.ofNat c.val := by decide +kernel
  exact h ⟨c, hc⟩
/-- an automaton of the reference that means a relation on the places of a text -/
abbrev RDone (tn : Nat) (tx : Nat → Int32) (I : MI) (A : MA) (s : Nat → Nat) (n : Nat) (on tw : Nat → Option Nat) (lab : Nat → Rl) (fs ls : Nat) (R : Rl) : Prop := (I 17 = Int32.ofNat n) ∧ (n ≤ 160) ∧ (∀ u, u < n → nd n (A 21 u) (on u)) ∧ (∀ u, u < n → nd n (A 22 u) (tw u)) ∧ (∀ u, u < n → lab u = rLab tn tx s (A 18 u) (A 19 u) (A 20 u)) ∧ (I 23 = Int32.ofNat fs) ∧ (I 24 = Int32.ofNat ls) ∧ (Fr (cF on tw) lab (fun u => u < n) fs ls R) ∧ (lab ls = rl_id) ∧ (∀ u, u < n → tw u ≠ none → A 18 u = 0) ∧ (∀ u, u < n → A 18 u = 3 → SE (A 19 u) (A 20 u)) ∧ (∀ u, u < n → A 18 u ≠ 0 → on u ≠ none) ∧ (∀ k, k < 24 → A 16 k = Int32.ofNat (s k) ∧ s k < 128)
theorem RDone.hn {tn : Nat} {tx : Nat → Int32} {I : MI} {A : MA} {s : Nat → Nat} {n : Nat} {on tw : Nat → Option Nat} {lab : Nat → Rl} {fs ls : Nat} {R : Rl} (h_ : RDone tn tx I A s n on tw lab fs ls R) : I 17 = Int32.ofNat n := h_.1
theorem RDone.hnb {tn : Nat} {tx : Nat → Int32} {I : MI} {A : MA} {s : Nat → Nat} {n : Nat} {on tw : Nat → Option Nat} {lab : Nat → Rl} {fs ls : Nat} {R : Rl} (h_ : RDone tn tx I A s n on tw lab fs ls R) : n ≤ 160 := h_.2.1
theorem RDone.hon {tn : Nat} {tx : Nat → Int32} {I : MI} {A : MA} {s : Nat → Nat} {n : Nat} {on tw : Nat → Option Nat} {lab : Nat → Rl} {fs ls : Nat} {R : Rl} (h_ : RDone tn tx I A s n on tw lab fs ls R) : ∀ u, u < n → nd n (A 21 u) (on u) := h_.2.2.1
theorem RDone.htw {tn : Nat} {tx : Nat → Int32} {I : MI} {A : MA} {s : Nat → Nat} {n : Nat} {on tw : Nat → Option Nat} {lab : Nat → Rl} {fs ls : Nat} {R : Rl} (h_ : RDone tn tx I A s n on tw lab fs ls R) : ∀ u, u < n → nd n (A 22 u) (tw u) := h_.2.2.2.1
theorem RDone.hlab {tn : Nat} {tx : Nat → Int32} {I : MI} {A : MA} {s : Nat → Nat} {n : Nat} {on tw : Nat → Option Nat} {lab : Nat → Rl} {fs ls : Nat} {R : Rl} (h_ : RDone tn tx I A s n on tw lab fs ls R) : ∀ u, u < n → lab u = rLab tn tx s (A 18 u) (A 19 u) (A 20 u) := h_.2.2.2.2.1
theorem RDone.hfs {tn : Nat} {tx : Nat → Int32} {I : MI} {A : MA} {s : Nat → Nat} {n : Nat} {on tw : Nat → Option Nat} {lab : Nat → Rl} {fs ls : Nat} {R : Rl} (h_ : RDone tn tx I A s n on tw lab fs ls R) : I 23 = Int32.ofNat fs := h_.2.2.2.2.2.1
theorem RDone.hls {tn : Nat} {tx : Nat → Int32} {I : MI} {A : MA} {s : Nat → Nat} {n : Nat} {on tw : Nat → Option Nat} {lab : Nat → Rl} {fs ls : Nat} {R : Rl} (h_ : RDone tn tx I A s n on tw lab fs ls R) : I 24 = Int32.ofNat ls := h_.2.2.2.2.2.2.1
theorem RDone.fr {tn : Nat} {tx : Nat → Int32} {I : MI} {A : MA} {s : Nat → Nat} {n : Nat} {on tw : Nat → Option Nat} {lab : Nat → Rl} {fs ls : Nat} {R : Rl} (h_ : RDone tn tx I A s n on tw lab fs ls R) : Fr (cF on tw) lab (fun u => u < n) fs ls R := h_.2.2.2.2.2.2.2.1
theorem RDone.hid {tn : Nat} {tx : Nat → Int32} {I : MI} {A : MA} {s : Nat → Nat} {n : Nat} {on tw : Nat → Option Nat} {lab : Nat → Rl} {fs ls : Nat} {R : Rl} (h_ : RDone tn tx I A s n on tw lab fs ls R) : lab ls = rl_id := h_.2.2.2.2.2.2.2.2.1
theorem RDone.hof {tn : Nat} {tx : Nat → Int32} {I : MI} {A : MA} {s : Nat → Nat} {n : Nat} {on tw : Nat → Option Nat} {lab : Nat → Rl} {fs ls : Nat} {R : Rl} (h_ : RDone tn tx I A s n on tw lab fs ls R) : ∀ u, u < n → tw u ≠ none → A 18 u = 0 := h_.2.2.2.2.2.2.2.2.2.1
theorem RDone.hse {tn : Nat} {tx : Nat → Int32} {I : MI} {A : MA} {s : Nat → Nat} {n : Nat} {on tw : Nat → Option Nat} {lab : Nat → Rl} {fs ls : Nat} {R : Rl} (h_ : RDone tn tx I A s n on tw lab fs ls R) : ∀ u, u < n → A 18 u = 3 → SE (A 19 u) (A 20 u) := h_.2.2.2.2.2.2.2.2.2.2.1
theorem RDone.hoo {tn : Nat} {tx : Nat → Int32} {I : MI} {A : MA} {s : Nat → Nat} {n : Nat} {on tw : Nat → Option Nat} {lab : Nat → Rl} {fs ls : Nat} {R : Rl} (h_ : RDone tn tx I A s n on tw lab fs ls R) : ∀ u, u < n → A 18 u ≠ 0 → on u ≠ none := h_.2.2.2.2.2.2.2.2.2.2.2.1
theorem RDone.hpat {tn : Nat} {tx : Nat → Int32} {I : MI} {A : MA} {s : Nat → Nat} {n : Nat} {on tw : Nat → Option Nat} {lab : Nat → Rl} {fs ls : Nat} {R : Rl} (h_ : RDone tn tx I A s n on tw lab fs ls R) : ∀ k, k < 24 → A 16 k = Int32.ofNat (s k) ∧ s k < 128 := h_.2.2.2.2.2.2.2.2.2.2.2.2
def RMean (tn : Nat) (tx : Nat → Int32) (I : MI) (A : MA) (R : Rl) : Prop := ∃ s n on tw lab fs ls, RDone tn tx I A s n on tw lab fs ls R
theorem stk_len {tn : Nat} {tx : Nat → Int32} {t : Tk} {st st' : List RLv} (h : stk tn tx t st = some st') (hlen : st.length ≤ 9) (hne : st ≠ []) : st'.length ≤ 9 ∧ st' ≠ [] := by
  unfold stk at h
  by_cases q0 : t.1 = 0
  · rw [if_pos q0] at h
    by_cases q9 : st.length = 9
    · rw [if_pos q9] at h; cases h
    · rw [if_neg q9] at h; cases h
      exact ⟨by show st.length + 1 ≤ 9; omega, List.cons_ne_nil _ _⟩
  rw [if_neg q0] at h
  by_cases q1 : t.1 = 1
  · rw [if_pos q1] at h
    by_cases q9 : st.length ≤ 1
    · rw [if_pos q9] at h; cases h
    · rw [if_neg q9] at h; cases h
      cases st with
      | nil => exact (hne rfl).elim
      | cons x st => cases st with
        | nil => exact (q9 (Nat.le_refl _)).elim
        | cons y st => exact ⟨by show st.length + 1 ≤ 9; have : st.length + 2 ≤ 9 := hlen; omega, List.cons_ne_nil _ _⟩
  rw [if_neg q1] at h
  by_cases q2 : t.1 = 2
  · rw [if_pos q2] at h; cases h
    cases st with
    | nil => exact (hne rfl).elim
    | cons x st => exact ⟨hlen, List.cons_ne_nil _ _⟩
  rw [if_neg q2] at h
  by_cases q3 : t.1 = 3
  · rw [if_pos q3] at h
    cases st with
    | nil => exact (hne rfl).elim
    | cons x st =>
      obtain ⟨c, q, p⟩ := x
      cases p with
      | none => cases h
      | some p => cases h; exact ⟨hlen, List.cons_ne_nil _ _⟩
  rw [if_neg q3] at h
  cases h
  exact ⟨by rw [st_len_single]; exact hlen, st_single_ne _ hne⟩
theorem lx_tok_lt {s : Nat → Nat} {n k k' : Nat} {t : Tk} (hk : k < n) (h : lx s n k = Lx.tok t k') : k < k' ∧ k' ≤ n := by
  unfold lx at h
  by_cases q40 : s k = 40
  · rw [if_pos q40] at h; have := (lx_tok_inj h).2; omega
  rw [if_neg q40] at h
  by_cases q41 : s k = 41
  · rw [if_pos q41] at h; have := (lx_tok_inj h).2; omega
  rw [if_neg q41] at h
  by_cases q42 : s k = 42
  · rw [if_pos q42] at h; have := (lx_tok_inj h).2; omega
  rw [if_neg q42] at h
  by_cases q43 : s k = 43
  · rw [if_pos q43] at h; have := (lx_tok_inj h).2; omega
  rw [if_neg q43] at h
  by_cases q63 : s k = 63
  · rw [if_pos q63] at h; have := (lx_tok_inj h).2; omega
  rw [if_neg q63] at h
  by_cases q91 : s k = 91
  · rw [if_pos q91] at h
    unfold lxSet at h
    by_cases qb : lxE s n k = n ∨ lxE s n k = lxB s n k
    · rw [if_pos qb] at h; cases h
    rw [if_neg qb] at h
    obtain ⟨f1, f2, f3, f4⟩ := fbr_ok s (n - lxB s n k) (lxB s n k)
    have e1 : fbr s (n - lxB s n k) (lxB s n k) = lxE s n k := rfl
    rw [e1] at f1 f2
    have hb1 : k + 1 ≤ lxB s n k := by unfold lxB; split <;> omega
    have hb2 : lxB s n k ≤ n := by
      unfold lxB
      split
      · rename_i hh
        have := of_decide_eq_true hh
        omega
      · omega
    have := (lx_tok_inj h).2
    have hne : lxE s n k ≠ n := fun z => qb (Or.inl z)
    omega
  rw [if_neg q91] at h
  by_cases q92 : s k = 92
  · rw [if_pos q92] at h
    by_cases qe : k + 1 = n
    · rw [if_pos qe] at h; cases h
    · rw [if_neg qe] at h; have := (lx_tok_inj h).2; omega
  rw [if_neg q92] at h
  by_cases q93 : s k = 93
  · rw [if_pos q93] at h; cases h
  rw [if_neg q93] at h
  by_cases q124 : s k = 124
  · rw [if_pos q124] at h; have := (lx_tok_inj h).2; omega
  rw [if_neg q124] at h
  by_cases q36 : s k = 36
  · rw [if_pos q36] at h; have := (lx_tok_inj h).2; omega
  rw [if_neg q36] at h
  by_cases q46 : s k = 46
  · rw [if_pos q46] at h; have := (lx_tok_inj h).2; omega
  rw [if_neg q46] at h
  by_cases q94 : s k = 94
  · rw [if_pos q94] at h; have := (lx_tok_inj h).2; omega
  rw [if_neg q94] at h
  have := (lx_tok_inj h).2; omega
/-- what a good compile leaves in the reference -/
def MComp (tn : Nat) (tx : Nat → Int32) (I : MI) (A : MA) (x : RLv) (z : Int32 × MI × MA) : Prop :=
  z.2.1 13 = 1 ∧ (∀ j, (j < 13 ∨ j = 14 ∨ j = 15 ∨ 29 ≤ j) → z.2.1 j = I j) ∧ (∀ j, (j < 18 ∨ 32 ≤ j) → z.2.2 j = A j) ∧ RMean tn tx z.2.1 z.2.2 (rl_all x)
theorem B_comp122 {tn : Nat} {tx : Nat → Int32} {s : Nat → Nat} {n : Nat} (hT : Txt tn tx) (hn24 : n ≤ 24) : ∀ (m k fuel : Nat) (I : MI) (A : MA) (X : Nat → Int32) (r : RR) (own : Nat → Nat) (st st' : List RLv), n - k < m → n - k + 1 ≤ fuel → k ≤ n → (∀ k, k < 24 → A 16 k = Int32.ofNat (s k) ∧ s k < 128) → RAbs tn tx s I A r → RInv r own st → st ≠ [] → st.length ≤ 9 → r.n ≤ 1 + 3 * k → r.np ≤ 1 + 3 * k →
    I 15 = Int32.ofNat n → X 3 = Int32.ofNat k → rd tn tx s n m k st = Rd.done st' → ∃ x, st' = [x] ∧ Res (f_M_compile_go fuel 122 I A X) (MComp tn tx I A x) := by
  intro m
  induction m with
  | zero => intros; omega
  | succ m ih =>
    intro k fuel I A X r own st st' hm hf hkn hpat h hR hne hlen hrn hrp h15 x3 hrd
    obtain ⟨g, rfl⟩ : ∃ g, fuel = g + 1 := ⟨fuel - 1, by omega⟩
    have hS : Slip (A 16) s n := ⟨hn24, fun j hj => hpat j (by omega)⟩
    have t122 : ¬ (122 : Nat) = 70 := by decide
    by_cases qk : n ≤ k
    · unfold rd at hrd
      rw [if_pos qk] at hrd
      by_cases q1 : 1 < st.length
      · rw [if_pos q1] at hrd; cases hrd
      rw [if_neg q1] at hrd
      have est : st = st' := Sum.inr.inj hrd
      subst est
      cases st with
      | nil => exact (hne rfl).elim
      | cons x st => cases st with
        | cons y st => exact (q1 (by show 1 < st.length + 2; omega)).elim
        | nil =>
          refine ⟨x, rfl, ?_⟩
          simp only [f_M_compile_go, f_M_compile_122, if_neg t122, if_true, h15, x3]
          rw [if_pos ((pn_le (by omega) (by omega)).mpr qk)]
          obtain ⟨r1, p1, hz⟩ : ∃ r1 p1, r_end r = (r1, p1) := ⟨_, _, rfl⟩
          have hP := r_fin_inv hR hz
          have hk1 : r.k - 1 = 0 := by rw [hR.k]; rfl
          refine (h.endRow hR (by omega) (by omega) hz).bind ?_
          rintro ⟨z0, z1, z2⟩ ⟨a1, a2, a3, a4, a5⟩
          simp only at a1 a2
          have hc := a1.ch 0 (by show 0 < r1.k; rw [(r_end_ok hR hz).2.2.1, hR.k]; exact Nat.succ_pos _)
          have hc2 : nd r1.np (z2 29 0) (some p1) := by
            have e : sU r1.ch (r.k - 1) (some p1) 0 = some p1 := by rw [hk1]; exact sU_self _ _ _
            rw [← e]; exact hc
          obtain ⟨hp1, e29⟩ := hc2
          have hpb := a1.pb
          have hpb' : r1.np ≤ 160 := hpb
          obtain ⟨d1, d2⟩ := a1.hd p1 hp1
          obtain ⟨u1, u2⟩ := a1.tl p1 hp1
          have z00 : (0 : Int32).toNatClampNeg = 0 := rfl
          have i0 : wk_inb 0 26 = true := rfl
          simp only [i0, if_true, z00, e29, pn_i160 (show p1 < 160 by omega), wk_let, pn_nat (show p1 < 2147483648 by omega)]
          refine Res.mk ⟨by dsimp only; rw [upd_self], fun j hj => ?_, fun j hj => a2.a j hj, s, r1.n, r1.on, r1.tw, r1.lab, r1.hd p1, r1.tl p1, ?_, a1.nb, a1.on, a1.tw, a1.lab, ?_, ?_, hP.fr, hP.tl, a1.of, a1.se, a1.oo, fun j hj => ?_⟩
          · dsimp only
            rw [upd_ne _ _ (by omega), upd_ne _ _ (by omega), upd_ne _ _ (by omega)]; exact a2.i j (by omega)
          · dsimp only
            rw [upd_ne _ _ (by decide), upd_ne _ _ (by decide), upd_ne _ _ (by decide)]; exact a1.n
          · dsimp only
            rw [upd_ne _ _ (by decide), upd_ne _ _ (by decide), upd_self]; exact d1
          · dsimp only
            rw [upd_ne _ _ (by decide), upd_self]; exact u1
          · dsimp only
            rw [a2.a 16 (by omega)]; exact hpat j hj
    · have hk : k < n := by omega
      rcases hl : lx s n k with p | ⟨t, k'⟩
      · rw [rd_bad hk hl] at hrd; cases hrd
      · obtain ⟨l1, l2⟩ := lx_tok_lt hk hl
        cases hs : stk tn tx t st with
        | none => rw [rd_none hk hl hs] at hrd; cases hrd
        | some st1 =>
          rw [rd_some hk hl hs] at hrd
          obtain ⟨len1, ne1⟩ := stk_len hs hlen hne
          obtain ⟨⟨y0, y1, y2⟩, ey, hy⟩ := B_build hT hS hk h hR hne hlen hrn hrp hl hs
          obtain ⟨hy0, hy1, r', own', b1, b2, b3, b4⟩ := hy
          simp only at hy0 hy1 b1
          obtain ⟨x, ex, hx⟩ := ih k' g y1 y2 (upd X 3 y0) r' own' st1 st' (by omega) (by omega) l2 (fun j hj => by rw [hy1.a 16 (by omega)]; exact hpat j hj) b1 b2 ne1 len1 b3 b4 (by rw [hy1.i 15 (by omega)]; exact h15) (by rw [upd_self]; exact hy0) hrd
          refine ⟨x, ex, ?_⟩
          have step : f_M_compile_go (g + 1) 122 I A X = f_M_compile_go g 122 y1 y2 (upd X 3 y0) := by
            conv => lhs; unfold f_M_compile_go
            simp only [f_M_compile_122, if_neg t122, if_true, h15, x3]
            rw [if_neg (fun z => qk ((pn_le (by omega) (by omega)).mp z)), ey]
            rfl
          rw [step]
          refine hx.imp (fun z hz => ?_)
          obtain ⟨w1, w2, w3, w4⟩ := hz
          exact ⟨w1, fun j hj => (w2 j hj).trans (hy1.i j (by omega)), fun j hj => (w3 j hj).trans (hy1.a j hj), w4⟩
-- 52.comp2
/-- the slip is copied, then the builder begins -/
theorem B_comp70 {tn : Nat} {tx : Nat → Int32} {s : Nat → Nat} {n : Nat} (hT : Txt tn tx) (hn24 : n ≤ 24) {st' : List RLv} (hrd : rd tn tx s n (n + 1) 0 (st_open []) = Rd.done st') (hs : ∀ k, k < 24 → s k < 128) : ∀ (m k fuel : Nat) (I : MI) (A : MA) (X : Nat → Int32), n - k ≤ m → n - k + n + 3 ≤ fuel → k ≤ n → (∀ j, j < n → A 2 j = Int32.ofNat (s j)) →
    (∀ j, j < 24 → (j < k ∨ n ≤ j) → A 16 j = Int32.ofNat (s j)) → I 1 = Int32.ofNat n → I 15 = Int32.ofNat n → X 3 = Int32.ofNat k →
    ∃ x, st' = [x] ∧ Res (f_M_compile_go fuel 70 I A X) (fun z => z.2.1 1 = 0 ∧ z.2.1 13 = 1 ∧ (∀ j, (j < 13 ∨ j = 14 ∨ j = 15 ∨ 29 ≤ j) → j ≠ 1 → z.2.1 j = I j) ∧ (∀ j, (j < 16 ∨ j = 17 ∨ 32 ≤ j) → z.2.2 j = A j) ∧ RMean tn tx z.2.1 z.2.2 (rl_all x)) := by
  -- the end of the copying
  have fin : ∀ (k g : Nat) (I : MI) (A : MA) (X : Nat → Int32), n ≤ k → k ≤ n → n + 2 ≤ g → (∀ j, j < 24 → A 16 j = Int32.ofNat (s j)) → I 1 = Int32.ofNat n → I 15 = Int32.ofNat n → X 3 = Int32.ofNat k →
      ∃ x, st' = [x] ∧ Res (f_M_compile_go (g + 1) 70 I A X) (fun z => z.2.1 1 = 0 ∧ z.2.1 13 = 1 ∧ (∀ j, (j < 13 ∨ j = 14 ∨ j = 15 ∨ 29 ≤ j) → j ≠ 1 → z.2.1 j = I j) ∧ (∀ j, (j < 16 ∨ j = 17 ∨ 32 ≤ j) → z.2.2 j = A j) ∧ RMean tn tx z.2.1 z.2.2 (rl_all x)) := by
    intro k g I A X h1 h2 hg hpat i1 i15 x3
    obtain ⟨I4, hI4⟩ : ∃ I4, I4 = upd (upd (upd (upd I 1 0) 17 0) 25 0) 28 0 := ⟨_, rfl⟩
    let r0 : RR := RR.mk 0 (fun _ => none) (fun _ => none) (fun _ => rl_no) 0 (fun _ => 0) (fun _ => 0) 0 (fun _ => none) (fun _ => 0) (fun _ => none)
    have hA0 : RAbs tn tx s I4 A r0 := by
      refine ⟨?_, by show 0 ≤ 160; omega, fun u hu => absurd hu (Nat.not_lt_zero _), fun u hu => absurd hu (Nat.not_lt_zero _), fun u hu => absurd hu (Nat.not_lt_zero _), ?_, by show 0 ≤ 160; omega, fun u hu => absurd hu (Nat.not_lt_zero _), fun u hu => absurd hu (Nat.not_lt_zero _), fun u hu => absurd hu (Nat.not_lt_zero _), fun u hu => absurd hu (Nat.not_lt_zero _), ?_, by show 0 ≤ 10; omega, fun u hu => absurd hu (Nat.not_lt_zero _), fun u hu => absurd hu (Nat.not_lt_zero _), fun u hu => absurd hu (Nat.not_lt_zero _), fun u hu => absurd hu (Nat.not_lt_zero _), fun u hu => absurd hu (Nat.not_lt_zero _)⟩
      · rw [hI4]; rfl
      · rw [hI4]; rfl
      · rw [hI4]; rfl
    obtain ⟨own0, hR0⟩ := r_start_inv (r := r0) rfl rfl
    obtain ⟨⟨y0, y1, y2⟩, ey, b1, b2⟩ := hA0.openG (by show 0 + 1 ≤ 10; omega) (by show 0 < 160; omega) (by show 0 < 160; omega)
    simp only at b1 b2
    obtain ⟨own1, hR1⟩ := r_open_inv hR0
    have i15' : y1 15 = Int32.ofNat n := by
      rw [b2.i 15 (by omega), hI4, upd_ne _ _ (by decide), upd_ne _ _ (by decide), upd_ne _ _ (by decide), upd_ne _ _ (by decide)]; exact i15
    obtain ⟨x, ex, hx⟩ := B_comp122 hT hn24 (n + 1) 0 g y1 y2 (upd X 3 0) (r_open r0) own1 (st_open []) st' (by omega) (by omega) (by omega) (fun j hj => by rw [b2.a 16 (by omega)]; exact ⟨hpat j hj, hs j hj⟩) b1 hR1 (List.cons_ne_nil _ _) (by show 1 ≤ 9; omega) (by show 0 + 1 ≤ _; omega) (by show 0 + 1 ≤ _; omega) i15' (upd_self _ _ _) hrd
    refine ⟨x, ex, ?_⟩
    have step : f_M_compile_go (g + 1) 70 I A X = f_M_compile_go g 122 y1 y2 (upd X 3 0) := by
      conv => lhs; unfold f_M_compile_go
      simp only [f_M_compile_70, if_true, i1, x3, wk_let]
      rw [if_pos ((pn_le (by omega) (by omega)).mpr h1), ← hI4, ey]
      rfl
    rw [step]
    refine hx.imp (fun z hz => ?_)
    obtain ⟨w1, w2, w3, w4⟩ := hz
    refine ⟨?_, w1, fun j hj hj1 => ?_, fun j hj => (w3 j (by omega)).trans (b2.a j (by omega)), w4⟩
    · rw [w2 1 (by omega), b2.i 1 (by omega), hI4]; rfl
    · rw [w2 j hj, b2.i j (by omega), hI4, upd_ne _ _ (by omega), upd_ne _ _ (by omega), upd_ne _ _ (by omega), upd_ne _ _ hj1]
  intro m
  induction m with
  | zero =>
    intro k fuel I A X hm hf hkn hsl hpat i1 i15 x3
    obtain ⟨g, rfl⟩ : ∃ g, fuel = g + 1 := ⟨fuel - 1, by omega⟩
    exact fin k g I A X (by omega) hkn (by omega) (fun j hj => hpat j hj (by omega)) i1 i15 x3
  | succ m ih =>
    intro k fuel I A X hm hf hkn hsl hpat i1 i15 x3
    obtain ⟨g, rfl⟩ : ∃ g, fuel = g + 1 := ⟨fuel - 1, by omega⟩
    by_cases q : n ≤ k
    · exact fin k g I A X q hkn (by omega) (fun j hj => hpat j hj (by omega)) i1 i15 x3
    · have e2 := hsl k (by omega)
      have cK := hs k (by omega)
      have step : f_M_compile_go (g + 1) 70 I A X = f_M_compile_go g 70 I (va_up A 16 (upd (A 16) k (Int32.ofNat (s k)))) (upd X 3 (Int32.ofNat (k + 1))) := by
        conv => lhs; unfold f_M_compile_go
        simp only [f_M_compile_70, if_true, i1, x3, wk_let, pn_nat (show k < 2147483648 by omega), pn_i24 (show k < 24 by omega), e2, nar_ch cK, pn_succ]
        rw [if_neg (fun z => q ((pn_le (by omega) (by omega)).mp z))]
      obtain ⟨x, ex, hx⟩ := ih (k + 1) g I (va_up A 16 (upd (A 16) k (Int32.ofNat (s k)))) (upd X 3 (Int32.ofNat (k + 1))) (by omega) (by omega) (by omega) (fun j hj => by rw [va_up_ne _ _ (by decide)]; exact hsl j hj)
        (fun j hj hj' => by
          rw [va_up_self]
          by_cases e : j = k
          · rw [e, upd_self]
          · rw [upd_ne _ _ e]; exact hpat j hj (by omega)) i1 i15 (upd_self _ _ _)
      refine ⟨x, ex, ?_⟩
      rw [step]
      refine hx.imp (fun z hz => ?_)
      obtain ⟨w1, w2, w3, w4, w5⟩ := hz
      exact ⟨w1, w2, w3, fun j hj => by rw [w4 j hj, va_up_ne _ _ (by omega)], w5⟩
theorem gm_neg {n : Nat} (h : n ≤ 24) : (-1 - Int32.ofNat n : Int32) < 0 := by
  have : ∀ n : Fin 25, (-1 - Int32.ofNat n.val : Int32) < 0 := by decide +kernel
  exact this ⟨n, by omega⟩
theorem gm_back {n : Nat} (h : n ≤ 24) : (-1 - (-1 - Int32.ofNat n) : Int32) = Int32.ofNat n := by
  have : ∀ n : Fin 25, (-1 - (-1 - Int32.ofNat n.val) : Int32) = Int32.ofNat n.val := by decide +kernel
  exact this ⟨n, by omega⟩
/-- what compile leaves in the reference -/
def MCOut (tn : Nat) (tx : Nat → Int32) (n : Nat) (I : MI) (A : MA) (o : Rd) (z : Int32 × MI × MA) : Prop := match o with
  | Sum.inl p => z.2.1 = upd (upd I 0 1) 14 (Int32.ofNat p) ∧ z.2.2 = A
  | Sum.inr st => z.2.1 0 = 0 ∧ z.2.1 1 = 0 ∧ z.2.1 13 = 1 ∧ z.2.1 14 = -1 ∧ (∀ j, ((1 < j ∧ j < 13) ∨ 29 ≤ j) → z.2.1 j = I j) ∧ (∀ j, (j < 16 ∨ j = 17 ∨ 32 ≤ j) → z.2.2 j = A j) ∧ ∃ x, st = [x] ∧ RMean tn tx z.2.1 z.2.2 (rl_all x)
theorem B_comp18 {tn : Nat} {tx : Nat → Int32} {s : Nat → Nat} {n : Nat} {I : MI} {A : MA} (hT : Txt tn tx) (hn24 : n ≤ 24) (hs : ∀ k, k < 24 → s k < 128) (hsl : ∀ j, j < n → A 2 j = Int32.ofNat (s j)) (hpat : ∀ j, j < 24 → n ≤ j → A 16 j = Int32.ofNat (s j)) (i1 : I 1 = Int32.ofNat n) {st : List RLv} (ho : rd tn tx s n (n + 1) 0 (st_open []) = Rd.done st) {F : Nat} (fu : 100000 < F) (X : Nat → Int32) :
    Res (f_M_compile_18 (f_M_compile_go F) I A X 1) (MCOut tn tx n I A (Rd.done st)) := by
  have h10 : ¬ (1 : Int32) = 0 := by decide
  have u2 : upd X 2 1 2 = 1 := upd_self _ _ _
  obtain ⟨I1, hI1⟩ : ∃ I1, I1 = upd I 0 0 := ⟨_, rfl⟩
  obtain ⟨I2, hI2⟩ : ∃ I2, I2 = upd I1 14 (-1) := ⟨_, rfl⟩
  have i1' : I2 1 = Int32.ofNat n := by rw [hI2, upd_ne _ _ (by decide), hI1, upd_ne _ _ (by decide)]; exact i1
  obtain ⟨I3, hI3⟩ : ∃ I3, I3 = upd I2 15 (Int32.ofNat n) := ⟨_, rfl⟩
  unfold f_M_compile_18
  rw [if_neg h10]
  unfold f_M_compile_29
  simp only [wk_let, u2, if_neg h10]
  rw [← hI1]
  unfold f_M_compile_52
  simp only [wk_let, u2, if_neg h10]
  rw [← hI2, i1', ← hI3]
  obtain ⟨y, ey, hy⟩ := B_comp70 hT hn24 ho hs n 0 F I3 A (upd (upd X 2 1) 3 0) (by omega) (by omega) (by omega) hsl (fun j hj hj' => hpat j hj (by omega)) (by rw [hI3, upd_ne _ _ (by decide)]; exact i1') (by rw [hI3, upd_self]) (upd_self _ _ _)
  refine hy.imp (fun z hz => ?_)
  obtain ⟨w1, w2, w3, w4, w5⟩ := hz
  refine ⟨?_, w1, w2, ?_, fun j hj => ?_, w4, y, ey, w5⟩
  · rw [w3 0 (by omega) (by omega), hI3, upd_ne _ _ (by decide), hI2, upd_ne _ _ (by decide), hI1, upd_self]
  · rw [w3 14 (by omega) (by omega), hI3, upd_ne _ _ (by decide), hI2, upd_self]
  · rw [w3 j (by omega) (by omega), hI3, upd_ne _ _ (by omega), hI2, upd_ne _ _ (by omega), hI1, upd_ne _ _ (by omega)]
theorem B_compile {tn : Nat} {tx : Nat → Int32} {s : Nat → Nat} {n : Nat} {I : MI} {A : MA} (hT : Txt tn tx) (hn24 : n ≤ 24) (hs : ∀ k, k < 24 → s k < 128) (hsl : ∀ j, j < n → A 2 j = Int32.ofNat (s j)) (hpat : ∀ j, j < 24 → n ≤ j → A 16 j = Int32.ofNat (s j)) (i1 : I 1 = Int32.ofNat n) :
    Res (f_M_compile I A) (MCOut tn tx n I A (rd tn tx s n (n + 1) 0 (st_open []))) := by
  have fu := wk_FUEL_big
  have hS : Slip (A 2) s n := ⟨hn24, fun j hj => ⟨hsl j hj, hs j (by omega)⟩⟩
  obtain ⟨x, ex, hx⟩ := B_good (tn := tn) (tx := tx) hS i1
  unfold f_M_compile f_M_compile_e
  generalize wk_FUEL = F at fu ⊢
  rw [ex]
  simp only [Option.bind_some]
  have h10 : ¬ (1 : Int32) = 0 := by decide
  rcases ho : rd tn tx s n (n + 1) 0 (st_open []) with p | st
  · rw [ho] at hx
    have hx' : (p < n ∧ x = Int32.ofNat p) ∨ (p = n ∧ x = -1 - Int32.ofNat n) := hx
    have hneg : (-1 - Int32.ofNat n : Int32) < 0 := gm_neg hn24
    have hback : (-1 - (-1 - Int32.ofNat n) : Int32) = Int32.ofNat n := gm_back hn24
    have hne : ¬ x = Int32.ofNat n := by
      rcases hx' with ⟨h1, e⟩ | ⟨_, e⟩
      · rw [e]; intro z; have := (pn_eq (by omega) (by omega)).mp z; omega
      · rw [e]; intro z; rw [z] at hneg; exact pn_nneg (by omega) hneg
    rw [i1, if_neg hne]
    have u1 : upd (upd (fun _ => (0 : Int32)) 1 x) 2 0 1 = x := by rw [upd_ne _ _ (by decide), upd_self]
    have u2 : upd (upd (fun _ => (0 : Int32)) 1 x) 2 0 2 = 0 := upd_self _ _ _
    simp only [f_M_compile_18, if_true, f_M_compile_29, wk_let, u1, u2, f_M_compile_52]
    rcases hx' with ⟨h1, e⟩ | ⟨h1, e⟩
    · rw [e, if_pos (pn_0le (by omega))]
      exact Res.mk ⟨rfl, rfl⟩
    · have hng : ¬ (0 : Int32) ≤ x := by
        rw [e, Int32.not_le]; exact hneg
      rw [if_neg hng, e, hback, ← h1]
      exact Res.mk ⟨rfl, rfl⟩
  · rw [ho] at hx
    have hx' : x = Int32.ofNat n := hx
    rw [i1, if_pos hx']
    exact B_comp18 hT hn24 hs hsl hpat i1 ho fu _
-- 53.rsp
/-- the reference's present text -/
abbrev MTxt (I : MI) (A : MA) (tn : Nat) (tx : Nat → Int32) (ps : Nat) : Prop := (I 4 = Int32.ofNat ps) ∧ (ps < 40) ∧ (A 6 ps = Int32.ofNat tn) ∧ (∀ i, i < tn → A 5 (160 * ps + i) = tx i) ∧ (Txt tn tx)
theorem MTxt.p {I : MI} {A : MA} {tn : Nat} {tx : Nat → Int32} {ps : Nat} (h_ : MTxt I A tn tx ps) : I 4 = Int32.ofNat ps := h_.1
theorem MTxt.pb {I : MI} {A : MA} {tn : Nat} {tx : Nat → Int32} {ps : Nat} (h_ : MTxt I A tn tx ps) : ps < 40 := h_.2.1
theorem MTxt.l {I : MI} {A : MA} {tn : Nat} {tx : Nat → Int32} {ps : Nat} (h_ : MTxt I A tn tx ps) : A 6 ps = Int32.ofNat tn := h_.2.2.1
theorem MTxt.c {I : MI} {A : MA} {tn : Nat} {tx : Nat → Int32} {ps : Nat} (h_ : MTxt I A tn tx ps) : ∀ i, i < tn → A 5 (160 * ps + i) = tx i := h_.2.2.2.1
theorem MTxt.t {I : MI} {A : MA} {tn : Nat} {tx : Nat → Int32} {ps : Nat} (h_ : MTxt I A tn tx ps) : Txt tn tx := h_.2.2.2.2
theorem MTxt.fr {I I' : MI} {A A' : MA} {tn : Nat} {tx : Nat → Int32} {ps : Nat} (h : MTxt I A tn tx ps) (h4 : I' 4 = I 4) (h5 : A' 5 = A 5) (h6 : A' 6 = A 6) : MTxt I' A' tn tx ps := ⟨by rw [h4]; exact h.p, h.pb, by rw [h6]; exact h.l, fun i hi => by rw [h5]; exact h.c i hi, h.t⟩
theorem B_len {I : MI} {A : MA} {tn : Nat} {tx : Nat → Int32} {ps : Nat} (h : MTxt I A tn tx ps) : f_M_textLength I A = some (Int32.ofNat tn, I, A) := by
  have hp := h.pb
  have i40 : wk_inb (Int32.ofNat ps) 40 = true := (pn_inb (by omega)).mpr hp
  simp only [f_M_textLength, h.p, i40, if_true, pn_nat (show ps < 2147483648 by omega), h.l]
theorem B_char {I : MI} {A : MA} {tn : Nat} {tx : Nat → Int32} {ps i : Nat} (h : MTxt I A tn tx ps) (hi : i < tn) : f_M_charAt I A (Int32.ofNat i) = some (tx i, I, A) := by
  have hp := h.pb
  have ht := h.t.nb
  have e : (160 * Int32.ofNat ps) + Int32.ofNat i = Int32.ofNat (160 * ps + i) := by
    rw [show (160 : Int32) = Int32.ofNat 160 from rfl, pn_mul, pn_add]
  obtain ⟨c, hc, ec⟩ := h.t.ch i hi
  have i64 : wk_inb (Int32.ofNat (160 * ps + i)) 6400 = true := (pn_inb (by omega)).mpr (by omega)
  simp only [f_M_charAt, h.p, e, i64, if_true, pn_nat (show 160 * ps + i < 2147483648 by omega), h.c i hi, ec, nar_ch hc]
/-- the reference's automaton does not speak of the sets that it walks with -/
theorem RDone.frame {tn : Nat} {tx : Nat → Int32} {I I' : MI} {A A' : MA} {s : Nat → Nat} {n : Nat} {on tw : Nat → Option Nat} {lab : Nat → Rl} {fs ls : Nat} {R : Rl} (h : RDone tn tx I A s n on tw lab fs ls R) (i17 : I' 17 = I 17) (i23 : I' 23 = I 23) (i24 : I' 24 = I 24) (ha : ∀ j, 16 ≤ j → j ≤ 22 → A' j = A j) : RDone tn tx I' A' s n on tw lab fs ls R :=
  ⟨by rw [i17]; exact h.hn, h.hnb, by rw [ha 21 (by omega) (by omega)]; exact h.hon, by rw [ha 22 (by omega) (by omega)]; exact h.htw, by rw [ha 18 (by omega) (by omega), ha 19 (by omega) (by omega), ha 20 (by omega) (by omega)]; exact h.hlab, by rw [i23]; exact h.hfs, by rw [i24]; exact h.hls, h.fr, h.hid, by rw [ha 18 (by omega) (by omega)]; exact h.hof, by rw [ha 18 (by omega) (by omega), ha 19 (by omega) (by omega), ha 20 (by omega) (by omega)]; exact h.hse, by rw [ha 18 (by omega) (by omega)]; exact h.hoo, by rw [ha 16 (by omega) (by omega)]; exact h.hpat⟩
theorem rLab_at {tn : Nat} {tx : Nat → Int32} {s : Nat → Nat} (k a b : Int32) (p : Nat) : rLab tn tx s k a b p p ↔ (k = 0 ∨ (k = 4 ∧ tx_beg tx p) ∨ (k = 5 ∧ tx_end tn tx p)) := by
  unfold rLab
  by_cases q0 : k = 0
  · rw [if_pos q0]; exact ⟨fun _ => Or.inl q0, fun _ => rfl⟩
  rw [if_neg q0]
  by_cases q1 : k = 1
  · rw [if_pos q1]
    constructor
    · rintro ⟨z, _⟩; omega
    · rintro (z | ⟨z, _⟩ | ⟨z, _⟩) <;> (rw [q1] at z; exact absurd z (by decide))
  rw [if_neg q1]
  by_cases q2 : k = 2
  · rw [if_pos q2]
    constructor
    · rintro ⟨z, _⟩; omega
    · rintro (z | ⟨z, _⟩ | ⟨z, _⟩) <;> (rw [q2] at z; exact absurd z (by decide))
  rw [if_neg q2]
  by_cases q3 : k = 3
  · rw [if_pos q3]
    constructor
    · rintro ⟨z, _⟩; omega
    · rintro (z | ⟨z, _⟩ | ⟨z, _⟩) <;> (rw [q3] at z; exact absurd z (by decide))
  rw [if_neg q3]
  by_cases q4 : k = 4
  · rw [if_pos q4]
    constructor
    · rintro ⟨_, z⟩; exact Or.inr (Or.inl ⟨q4, z⟩)
    · rintro (z | ⟨_, z⟩ | ⟨z, _⟩)
      · exact (q0 z).elim
      · exact ⟨rfl, z⟩
      · rw [q4] at z; exact absurd z (by decide)
  rw [if_neg q4]
  by_cases q5 : k = 5
  · rw [if_pos q5]
    constructor
    · rintro ⟨_, z⟩; exact Or.inr (Or.inr ⟨q5, z⟩)
    · rintro (z | ⟨z, _⟩ | ⟨_, z⟩)
      · exact (q0 z).elim
      · exact (q4 z).elim
      · exact ⟨rfl, z⟩
  rw [if_neg q5]
  constructor
  · intro z; exact z.elim
  · rintro (z | ⟨z, _⟩ | ⟨z, _⟩)
    · exact (q0 z).elim
    · exact (q4 z).elim
    · exact (q5 z).elim
/-- may a node be passed at a place -/
theorem B_passes {tn : Nat} {tx : Nat → Int32} {s : Nat → Nat} {I : MI} {A : MA} {ps : Nat} (h : MTxt I A tn tx ps) {u p : Nat} (hu : u < 160) (hp : p ≤ tn) : ∃ b, f_M_passes I A (Int32.ofNat u) (Int32.ofNat p) = some (b, I, A) ∧ (b ≠ 0 ↔ rLab tn tx s (A 18 u) (A 19 u) (A 20 u) p p) := by
  have ht := h.t.nb
  have h10 : ¬ (1 : Int32) = 0 := by decide
  have n1 : (Int32.ofNat u).toNatClampNeg = u := pn_nat (by omega)
  have f45 : ∀ (X : Nat → Int32) (s0 : Int32), X 1 = Int32.ofNat u → (X 3 ≠ 0 ↔ tx_beg tx p) → (s0 ≠ 0 ↔ tx_end tn tx p) → ∃ b, f_M_passes_45 I A X s0 = some (b, I, A) ∧ (b ≠ 0 ↔ rLab tn tx s (A 18 u) (A 19 u) (A 20 u) p p) := by
    intro X s0 x1 x3 hs
    have yes : ∃ b, f_M_passes_85 I A (upd X 4 s0) = some (b, I, A) ∧ b ≠ 0 := ⟨1, by simp only [f_M_passes_85, f_M_passes_90, nar_bool1, if_true], h10⟩
    have no : ∃ b, f_M_passes_89 I A (upd X 4 s0) = some (b, I, A) ∧ b = 0 := ⟨0, by simp only [f_M_passes_89, f_M_passes_90, nar_bool0, if_true], rfl⟩
    have y1 : upd X 4 s0 1 = Int32.ofNat u := by rw [upd_ne _ _ (by decide)]; exact x1
    have y4 : upd X 4 s0 4 = s0 := upd_self _ _ _
    have f70 : ¬ A 18 u = 0 → (A 18 u = 4 → ¬ tx_beg tx p) → ∃ b, f_M_passes_70 I A (upd X 4 s0) = some (b, I, A) ∧ (b ≠ 0 ↔ rLab tn tx s (A 18 u) (A 19 u) (A 20 u) p p) := by
      intro k0 k4
      unfold f_M_passes_70
      rw [y1, if_pos (pn_i160 hu), n1, y4]
      by_cases q5 : A 18 u = 5
      · rw [if_pos q5]
        by_cases qs : s0 = 0
        · rw [if_pos qs]
          obtain ⟨b, e, hb⟩ := no
          refine ⟨b, e, ?_⟩
          rw [rLab_at]
          constructor
          · intro z; exact (z hb).elim
          · rintro (z | ⟨z, _⟩ | ⟨_, z⟩)
            · exact (k0 z).elim
            · rw [q5] at z; exact absurd z (by decide)
            · exact (hs.mpr z qs).elim
        · rw [if_neg qs]
          obtain ⟨b, e, hb⟩ := yes
          refine ⟨b, e, fun _ => (rLab_at _ _ _ _).mpr (Or.inr (Or.inr ⟨q5, hs.mp qs⟩)), fun _ => hb⟩
      · rw [if_neg q5]
        obtain ⟨b, e, hb⟩ := no
        refine ⟨b, e, ?_⟩
        rw [rLab_at]
        constructor
        · intro z; exact (z hb).elim
        · rintro (z | ⟨z, z2⟩ | ⟨z, _⟩)
          · exact (k0 z).elim
          · exact (k4 z z2).elim
          · exact (q5 z).elim
    unfold f_M_passes_45
    rw [x1, if_pos (pn_i160 hu), n1]
    by_cases q0 : A 18 u = 0
    · rw [if_pos q0]
      obtain ⟨b, e, hb⟩ := yes
      exact ⟨b, e, fun _ => (rLab_at _ _ _ _).mpr (Or.inl q0), fun _ => hb⟩
    · rw [if_neg q0, if_pos (pn_i160 hu)]
      by_cases q4 : A 18 u = 4
      · rw [if_pos q4]
        by_cases q3 : X 3 = 0
        · rw [if_pos q3]; exact f70 q0 (fun _ z => x3.mpr z q3)
        · rw [if_neg q3]
          obtain ⟨b, e, hb⟩ := yes
          exact ⟨b, e, fun _ => (rLab_at _ _ _ _).mpr (Or.inr (Or.inl ⟨q4, x3.mp q3⟩)), fun _ => hb⟩
      · rw [if_neg q4]; exact f70 q0 (fun z => (q4 z).elim)
  have f21 : ∀ (X : Nat → Int32) (s0 : Int32), X 1 = Int32.ofNat u → X 2 = Int32.ofNat p → (s0 ≠ 0 ↔ tx_beg tx p) → ∃ b, f_M_passes_21 I A X s0 = some (b, I, A) ∧ (b ≠ 0 ↔ rLab tn tx s (A 18 u) (A 19 u) (A 20 u) p p) := by
    intro X s0 x1 x2 hs
    unfold f_M_passes_21 f_M_passes_40
    rw [B_len h]
    simp only [Option.bind_some]
    rw [x2]
    have z1 : upd X 3 s0 1 = Int32.ofNat u := by rw [upd_ne _ _ (by decide)]; exact x1
    have z3 : upd X 3 s0 3 ≠ 0 ↔ tx_beg tx p := by rw [upd_self]; exact hs
    by_cases q : p = tn
    · rw [if_pos ((pn_eq (by omega) (by omega)).mpr q)]
      exact f45 _ 1 z1 z3 ⟨fun _ => Or.inl q, fun _ => h10⟩
    · rw [if_neg (fun z => q ((pn_eq (by omega) (by omega)).mp z)), B_char h (by omega)]
      simp only [Option.bind_some]
      by_cases q2 : tx p = 10
      · rw [if_pos q2]; exact f45 _ 1 z1 z3 ⟨fun _ => Or.inr q2, fun _ => h10⟩
      · rw [if_neg q2]; exact f45 _ 0 z1 z3 ⟨fun z => (z rfl).elim, fun z => (z.elim q q2).elim⟩
  unfold f_M_passes f_M_passes_16
  by_cases q : p = 0
  · rw [if_pos ((pn_eqc (x := 0) 0 rfl (by omega) (by omega)).mpr q)]
    exact f21 _ 1 rfl rfl ⟨fun _ => Or.inl q, fun _ => h10⟩
  · have e1 : Int32.ofNat p - 1 = Int32.ofNat (p - 1) := pn_sub (a := p) (b := 1) (by omega)
    rw [if_neg (fun z => q ((pn_eqc (x := 0) 0 rfl (by omega) (by omega)).mp z)), e1, B_char h (by omega)]
    simp only [Option.bind_some]
    by_cases q2 : tx (p - 1) = 10
    · rw [if_pos q2]; exact f21 _ 1 rfl rfl ⟨fun _ => Or.inr q2, fun _ => h10⟩
    · rw [if_neg q2]; exact f21 _ 0 rfl rfl ⟨fun z => (z rfl).elim, fun z => (z.elim q q2).elim⟩
/-- a node is put into the set -/
theorem B_reach {I : MI} {A : MA} {n : Nat} {x : Int32} {o : Option Nat} (hn : n ≤ 160) (h : nd n x o) : (f_M_reach I A x = some (0, I, A) ∧ ∀ v, o = some v → A 32 v ≠ 0) ∨ (∃ v, o = some v ∧ v < n ∧ A 32 v = 0 ∧ f_M_reach I A x = some (1, I, va_up A 32 (upd (A 32) v 1))) := by
  have h10 : ¬ (1 : Int32) = 0 := by decide
  have e0 : ∀ X : Nat → Int32, f_M_reach_17 I A X = some (0, I, A) := fun X => by
    unfold f_M_reach_17 f_M_reach_18 f_M_reach_30
    rw [if_pos rfl, upd_self, if_pos nar_bool0]
  cases o with
  | none =>
    have e : x = -1 := h
    have hm : (-1 : Int32) < 0 := by decide
    left
    refine ⟨?_, fun v hv => by cases hv⟩
    unfold f_M_reach
    rw [e, if_pos hm]; exact e0 _
  | some v =>
    obtain ⟨hv, e⟩ := h
    have hng : ¬ Int32.ofNat v < 0 := pn_nneg (by omega)
    have n1 : (Int32.ofNat v).toNatClampNeg = v := pn_nat (by omega)
    by_cases q : A 32 v = 0
    · right
      refine ⟨v, rfl, hv, q, ?_⟩
      unfold f_M_reach f_M_reach_18
      rw [e, if_neg hng, if_pos (pn_i160 (show v < 160 by omega)), n1, if_pos q, if_neg h10]
      have x1 : upd (fun _ => (0 : Int32)) 1 (Int32.ofNat v) 1 = Int32.ofNat v := upd_self _ _ _
      rw [x1, if_pos (pn_i160 (show v < 160 by omega)), n1]
      simp only [wk_let, f_M_reach_30, upd_self, nar_bool1, if_true]
    · left
      refine ⟨?_, fun w hw => by cases hw; exact q⟩
      unfold f_M_reach
      rw [e, if_neg hng, if_pos (pn_i160 (show v < 160 by omega)), n1, if_neg q]; exact e0 _
-- 54.rsp2
theorem sp_go10 (g : Nat) (I : MI) (A : MA) (X : Nat → Int32) : f_M_spread_go (g + 1) 10 I A X = f_M_spread_10 (f_M_spread_go g) I A X := rfl
theorem sp_go2 (g : Nat) (I : MI) (A : MA) (X : Nat → Int32) : f_M_spread_go (g + 1) 2 I A X = f_M_spread_2 (f_M_spread_go g) I A X := rfl
def inH (A : MA) (u : Nat) : Bool := decide (A 32 u ≠ 0)
theorem inH_t {A : MA} {u : Nat} : inH A u = true ↔ A 32 u ≠ 0 := decide_eq_true_iff
theorem inH_add {A : MA} {v u : Nat} : inH (va_up A 32 (upd (A 32) v 1)) u = true ↔ inH A u = true ∨ u = v := by
  rw [inH_t, inH_t, va_up_self]
  by_cases e : u = v
  · rw [e, upd_self]; exact ⟨fun _ => Or.inr rfl, fun _ => by decide⟩
  · rw [upd_ne _ _ e]; exact ⟨Or.inl, fun z => z.elim id (fun w => (e w).elim)⟩
theorem cn_add {A : MA} {v n : Nat} (hv : v < n) (h0 : A 32 v = 0) : cn (inH (va_up A 32 (upd (A 32) v 1))) n = cn (inH A) n + 1 := by
  refine cn_one (k := v) n hv (decide_eq_false (fun z => z h0)) ?_ (fun j hj => ?_)
  · exact inH_add.mpr (Or.inr rfl)
  · unfold inH; rw [va_up_self, upd_ne _ _ hj]
/-- what a walk over the nodes may have done to the set -/
def SpIn (tn : Nat) (tx : Nat → Int32) (on tw : Nat → Option Nat) (lab : Nat → Rl) (n p : Nat) (S : Nat → Prop) (A0 A : MA) : Prop :=
  (∀ j, j ≠ 32 → A j = A0 j) ∧ (∀ u, u < n → S u → inH A u = true) ∧ (∀ v, v < n → inH A v = true → ∃ u, S u ∧ Pa (cF on tw) lab u p v p)
theorem SpIn.add {tn : Nat} {tx : Nat → Int32} {on tw : Nat → Option Nat} {lab : Nat → Rl} {n p : Nat} {S : Nat → Prop} {A0 A : MA} (h : SpIn tn tx on tw lab n p S A0 A) {k v : Nat} (hk : k < n) (hkH : inH A k = true) (he : cF on tw k v) (hl : lab k p p) : SpIn tn tx on tw lab n p S A0 (va_up A 32 (upd (A 32) v 1)) := by
  obtain ⟨a, b, c⟩ := h
  refine ⟨fun j hj => by rw [va_up_ne _ _ hj]; exact a j hj, fun u hu hs => inH_add.mpr (Or.inl (b u hu hs)), fun w hw hH => ?_⟩
  rcases inH_add.mp hH with z | z
  · exact c w hw z
  · obtain ⟨u, hu, hp⟩ := c k hk hkH
    rw [z]; exact ⟨u, hu, hp.snoc he hl⟩
def ClTo (on tw : Nat → Option Nat) (lab : Nat → Rl) (p k : Nat) (A : MA) : Prop := ∀ j, j < k → inH A j = true → lab j p p → ∀ v, cF on tw j v → inH A v = true
def SpOut (tn : Nat) (tx : Nat → Int32) (on tw : Nat → Option Nat) (lab : Nat → Rl) (n p : Nat) (S : Nat → Prop) (I : MI) (A0 : MA) (o : Option (Int32 × MI × MA)) : Prop := ∃ A', o = some (0, I, A') ∧ SpIn tn tx on tw lab n p S A0 A' ∧ ClTo on tw lab p n A'
/-- one pass over the nodes, and what follows it -/
theorem B_pass {tn : Nat} {tx : Nat → Int32} {I : MI} {A0 : MA} {s : Nat → Nat} {n : Nat} {on tw : Nat → Option Nat} {lab : Nat → Rl} {fs ls : Nat} {R : Rl} {ps p : Nat} (hD : RDone tn tx I A0 s n on tw lab fs ls R) (hM : MTxt I A0 tn tx ps) (hp : p ≤ tn) {S : Nat → Prop} {c B : Nat}
    (IH : ∀ (fuel : Nat) (A : MA) (X : Nat → Int32), n - cn (inH A) n + 1 ≤ c → B ≤ fuel → X 1 = Int32.ofNat p → X 2 ≠ 0 → SpIn tn tx on tw lab n p S A0 A → SpOut tn tx on tw lab n p S I A0 (f_M_spread_go fuel 2 I A X)) :
    ∀ (d k fuel : Nat) (A : MA) (X : Nat → Int32), n - k = d → k ≤ n → d + 2 + B ≤ fuel → X 1 = Int32.ofNat p → X 3 = Int32.ofNat k → SpIn tn tx on tw lab n p S A0 A → ((X 2 = 0 ∧ ClTo on tw lab p k A ∧ n - cn (inH A) n ≤ c) ∨ (X 2 ≠ 0 ∧ n - cn (inH A) n + 1 ≤ c)) →
      SpOut tn tx on tw lab n p S I A0 (f_M_spread_go fuel 10 I A X) := by
  have hnb := hD.hnb
  have t10 : ¬ (10 : Nat) = 2 := by decide
  have h10 : ¬ (1 : Int32) = 0 := by decide
  intro d
  induction d with
  | zero =>
    intro k fuel A X hd hk hf x1 x3 hS hX
    obtain ⟨g, rfl⟩ : ∃ g, fuel = g + 1 := ⟨fuel - 1, by omega⟩
    have step : f_M_spread_go (g + 1) 10 I A X = f_M_spread_go g 2 I A X := by
      conv => lhs; unfold f_M_spread_go
      rw [if_neg t10, if_pos rfl]
      unfold f_M_spread_10
      rw [hD.hn, x3, if_pos ((pn_le (by omega) (by omega)).mpr (by omega))]
    rw [step]
    rcases hX with ⟨x2, hC, _⟩ | ⟨x2, hc⟩
    · obtain ⟨g', rfl⟩ : ∃ g', g = g' + 1 := ⟨g - 1, by omega⟩
      refine ⟨A, ?_, hS, fun j hj => hC j (by omega)⟩
      unfold f_M_spread_go f_M_spread_2
      rw [if_pos rfl, if_pos x2]
    · exact IH g A X hc (by omega) x1 x2 hS
  | succ d ih =>
    intro k fuel A X hd hk hf x1 x3 hS hX
    obtain ⟨g, rfl⟩ : ∃ g, fuel = g + 1 := ⟨fuel - 1, by omega⟩
    have hkn : k < n := by omega
    have n1 : (Int32.ofNat k).toNatClampNeg = k := pn_nat (by omega)
    have hcl : ∀ v, cF on tw k v → v < n := fun v hv => hD.fr.cl k v hkn hv
    -- to the next node
    have nxt : ∀ (A' : MA) (X' : Nat → Int32), X' 1 = Int32.ofNat p → X' 3 = Int32.ofNat k → SpIn tn tx on tw lab n p S A0 A' → ((X' 2 = 0 ∧ ClTo on tw lab p (k + 1) A' ∧ n - cn (inH A') n ≤ c) ∨ (X' 2 ≠ 0 ∧ n - cn (inH A') n + 1 ≤ c)) → SpOut tn tx on tw lab n p S I A0 (f_M_spread_82 (f_M_spread_go g) I A' X') := by
      intro A' X' y1 y3 hS' hX'
      unfold f_M_spread_82
      refine ih (k + 1) g A' _ (by omega) (by omega) (by omega) (by rw [upd_ne _ _ (by decide)]; exact y1) (by rw [upd_self, y3]; exact pn_succ _) hS' ?_
      rw [upd_ne _ _ (by decide)]; exact hX'
    have same : (inH A k = false ∨ ¬ lab k p p) → ((X 2 = 0 ∧ ClTo on tw lab p (k + 1) A ∧ n - cn (inH A) n ≤ c) ∨ (X 2 ≠ 0 ∧ n - cn (inH A) n + 1 ≤ c)) := by
      intro hno
      rcases hX with ⟨x2, hC, hc⟩ | z
      · refine Or.inl ⟨x2, fun j hj hH hl v hv => ?_, hc⟩
        by_cases e : j = k
        · subst e
          rcases hno with z | z
          · rw [z] at hH; cases hH
          · exact (z hl).elim
        · exact hC j (by omega) hH hl v hv
      · exact Or.inr z
    rw [sp_go10]
    unfold f_M_spread_10
    rw [hD.hn, x3, if_neg (fun z => by have := (pn_le (a := n) (b := k) (by omega) (by omega)).mp z; omega), if_pos (pn_i160 (show k < 160 by omega)), n1]
    by_cases q : A 32 k = 0
    · rw [if_pos q]
      exact nxt A X x1 x3 hS (same (Or.inl (decide_eq_false (fun z => z q))))
    rw [if_neg q]
    have hkH : inH A k = true := inH_t.mpr q
    have hA := hS.1
    have hM' : MTxt I A tn tx ps := hM.fr rfl (hA 5 (by decide)) (hA 6 (by decide))
    obtain ⟨b, eb, hb⟩ := B_passes (s := s) hM' (show k < 160 by omega) hp
    have hlab : (rLab tn tx s (A 18 k) (A 19 k) (A 20 k) p p) ↔ lab k p p := by
      rw [hA 18 (by decide), hA 19 (by decide), hA 20 (by decide), hD.hlab k hkn]
    rw [x1, eb]
    simp only [Option.bind_some]
    by_cases qb : b = 0
    · rw [if_pos qb]
      exact nxt A X x1 x3 hS (same (Or.inr (fun z => hb.mpr (hlab.mpr z) qb)))
    rw [if_neg qb, if_pos (pn_i160 (show k < 160 by omega))]
    have hl : lab k p p := hlab.mp (hb.mp qb)
    have hon : nd n (A 21 k) (on k) := by rw [hA 21 (by decide)]; exact hD.hon k hkn
    -- behind the first way
    have f58 : ∀ (A1 : MA) (s0 : Int32), SpIn tn tx on tw lab n p S A0 A1 → inH A1 k = true → (∀ v, on k = some v → inH A1 v = true) → ((s0 = 0 ∧ A1 = A ∧ X 2 = 0) ∨ (s0 = 1 ∧ n - cn (inH A1) n + 1 ≤ c)) → SpOut tn tx on tw lab n p S I A0 (f_M_spread_58 (f_M_spread_go g) I A1 X s0) := by
      intro A1 s0 hS1 hk1 hov hs
      have htw : nd n (A1 22 k) (tw k) := by rw [hS1.1 22 (by decide)]; exact hD.htw k hkn
      unfold f_M_spread_58
      rw [x3, if_pos (pn_i160 (show k < 160 by omega)), n1]
      have f76 : ∀ A2 : MA, SpIn tn tx on tw lab n p S A0 A2 → n - cn (inH A2) n + 1 ≤ c → SpOut tn tx on tw lab n p S I A0 (f_M_spread_76 (f_M_spread_go g) I A2 (upd X 2 s0)) := by
        intro A2 hS2 hc2
        unfold f_M_spread_76 f_M_spread_81
        refine nxt A2 _ (by rw [upd_ne _ _ (by decide), upd_ne _ _ (by decide)]; exact x1) (by rw [upd_ne _ _ (by decide), upd_ne _ _ (by decide)]; exact x3) hS2 (Or.inr ⟨by rw [upd_self]; exact h10, hc2⟩)
      rcases B_reach (I := I) (A := A1) hnb htw with ⟨er, hv⟩ | ⟨v, ev, hvn, hv0, er⟩
      · rw [er]
        simp only [Option.bind_some, if_true]
        rcases hs with ⟨s0e, eA, x2⟩ | ⟨s1, hc1⟩
        · rw [if_pos s0e]
          unfold f_M_spread_81
          refine nxt A1 _ (by rw [upd_ne _ _ (by decide), upd_ne _ _ (by decide)]; exact x1) (by rw [upd_ne _ _ (by decide), upd_ne _ _ (by decide)]; exact x3) hS1 (Or.inl ⟨upd_self _ _ _, ?_, ?_⟩)
          · subst eA
            rcases hX with ⟨_, hC, _⟩ | ⟨z, _⟩
            · intro j hj hH hl' w hw
              by_cases e : j = k
              · subst e
                rcases hw with hw | hw
                · exact hov w hw
                · exact inH_t.mpr (hv w hw)
              · exact hC j (by omega) hH hl' w hw
            · exact (z x2).elim
          · subst eA
            rcases hX with ⟨_, _, hc⟩ | ⟨z, _⟩
            · exact hc
            · exact (z x2).elim
        · rw [if_neg (by rw [s1]; exact h10)]
          exact f76 A1 hS1 hc1
      · rw [er]
        simp only [Option.bind_some]
        rw [if_neg h10]
        have hcc := cn_add hvn hv0
        have hle := cn_le (inH (va_up A1 32 (upd (A1 32) v 1))) n
        refine f76 _ (hS1.add hkn hk1 (Or.inr ev) hl) ?_
        rcases hs with ⟨_, eA, x2⟩ | ⟨_, hc1⟩
        · subst eA
          rcases hX with ⟨_, _, hc⟩ | ⟨z, _⟩
          · omega
          · exact (z x2).elim
        · omega
    rcases B_reach (I := I) (A := A) hnb hon with ⟨er, hv⟩ | ⟨v, ev, hvn, hv0, er⟩
    · rw [er]
      simp only [Option.bind_some, if_true]
      by_cases x2 : X 2 = 0
      · rw [if_pos x2]
        exact f58 A 0 hS hkH (fun v e => inH_t.mpr (hv v e)) (Or.inl ⟨rfl, rfl, x2⟩)
      · rw [if_neg x2]
        unfold f_M_spread_53
        refine f58 A 1 hS hkH (fun v e => inH_t.mpr (hv v e)) (Or.inr ⟨rfl, ?_⟩)
        rcases hX with ⟨z, _⟩ | ⟨_, hc⟩
        · exact (x2 z).elim
        · exact hc
    · rw [er]
      simp only [Option.bind_some]
      rw [if_neg h10]
      unfold f_M_spread_53
      have hcc := cn_add hvn hv0
      have hle := cn_le (inH (va_up A 32 (upd (A 32) v 1))) n
      refine f58 _ 1 (hS.add hkn hkH (Or.inl ev) hl) (inH_add.mpr (Or.inl hkH)) (fun w hw => ?_) (Or.inr ⟨rfl, ?_⟩)
      · rw [ev] at hw; cases hw; exact inH_add.mpr (Or.inr rfl)
      · rcases hX with ⟨_, _, hc⟩ | ⟨_, hc⟩ <;> omega
theorem B_spread_c {tn : Nat} {tx : Nat → Int32} {I : MI} {A0 : MA} {s : Nat → Nat} {n : Nat} {on tw : Nat → Option Nat} {lab : Nat → Rl} {fs ls : Nat} {R : Rl} {ps p : Nat} (hD : RDone tn tx I A0 s n on tw lab fs ls R) (hM : MTxt I A0 tn tx ps) (hp : p ≤ tn) {S : Nat → Prop} :
    ∀ (c fuel : Nat) (A : MA) (X : Nat → Int32), n - cn (inH A) n ≤ c → (c + 1) * (n + 4) ≤ fuel → X 1 = Int32.ofNat p → X 2 ≠ 0 → SpIn tn tx on tw lab n p S A0 A → SpOut tn tx on tw lab n p S I A0 (f_M_spread_go fuel 2 I A X) := by
  intro c
  induction c with
  | zero =>
    intro fuel A X hc hf x1 x2 hS
    obtain ⟨g, rfl⟩ : ∃ g, fuel = g + 1 := ⟨fuel - 1, by omega⟩
    rw [sp_go2]
    unfold f_M_spread_2
    rw [if_neg x2]
    refine B_pass hD hM hp (c := 0) (B := 0) (fun _ _ _ z => by omega) n 0 g A _ rfl (by omega) (by omega) (by rw [upd_ne _ _ (by decide), upd_ne _ _ (by decide)]; exact x1) (upd_self _ _ _) hS (Or.inl ⟨by rw [upd_ne _ _ (by decide), upd_self], fun j hj => by omega, hc⟩)
  | succ c ih =>
    intro fuel A X hc hf x1 x2 hS
    have hmul : (c + 1 + 1) * (n + 4) = (c + 1) * (n + 4) + (n + 4) := by rw [Nat.succ_mul]
    obtain ⟨g, rfl⟩ : ∃ g, fuel = g + 1 := ⟨fuel - 1, by omega⟩
    rw [sp_go2]
    unfold f_M_spread_2
    rw [if_neg x2]
    refine B_pass hD hM hp (c := c + 1) (B := (c + 1) * (n + 4)) (fun fuel' A' X' z1 z2 z3 z4 z5 => ih fuel' A' X' (by omega) z2 z3 z4 z5) n 0 g A _ rfl (by omega) (by omega) (by rw [upd_ne _ _ (by decide), upd_ne _ _ (by decide)]; exact x1) (upd_self _ _ _) hS (Or.inl ⟨by rw [upd_ne _ _ (by decide), upd_self], fun j hj => by omega, hc⟩)
/-- all that is reached from a set at a place -/
theorem B_spread {tn : Nat} {tx : Nat → Int32} {I : MI} {A : MA} {s : Nat → Nat} {n : Nat} {on tw : Nat → Option Nat} {lab : Nat → Rl} {fs ls : Nat} {R : Rl} {ps p : Nat} (hD : RDone tn tx I A s n on tw lab fs ls R) (hP : Prog lab) (hM : MTxt I A tn tx ps) (hp : p ≤ tn) :
    ∃ A', f_M_spread I A (Int32.ofNat p) = some (0, I, A') ∧ (∀ j, j ≠ 32 → A' j = A j) ∧ ∀ v, v < n → (inH A' v = true ↔ ∃ u, u < n ∧ inH A u = true ∧ Pa (cF on tw) lab u p v p) := by
  have hnb := hD.hnb
  have fu := wk_FUEL_big
  have hcl := cn_le (inH A) n
  have hb1 : (n + 1) * (n + 4) ≤ 161 * 164 := Nat.mul_le_mul (by omega) (by omega)
  unfold f_M_spread f_M_spread_e
  generalize wk_FUEL = F at fu ⊢
  obtain ⟨A', e, ⟨a1, a2, a3⟩, hC⟩ := B_spread_c hD hM hp (S := fun u => u < n ∧ inH A u = true) n F A (upd (upd (fun _ => 0) 1 (Int32.ofNat p)) 2 1) (by omega) (by omega) rfl (by rw [upd_self]; decide) ⟨fun _ _ => rfl, fun u _ hs => hs.2, fun v hv hH => ⟨v, ⟨hv, hH⟩, Pa.nil _ _⟩⟩
  refine ⟨A', e, a1, fun v hv => ⟨fun hH => ?_, ?_⟩⟩
  · obtain ⟨u, hu, hpa⟩ := a3 v hv hH
    exact ⟨u, hu.1, hu.2, hpa⟩
  · rintro ⟨u, hu, hH, hpa⟩
    exact (Pa.closed (C := fun v => v < n ∧ inH A' v = true) hP (fun u v hu he hl => ⟨hD.fr.cl u v hu.1 he, hC u hu.1 hu.2 hl v he⟩) hpa rfl rfl ⟨hu, a2 u hu ⟨hu, hH⟩⟩).2
-- 55.rtk
theorem is_go (g : Nat) (I : MI) (A : MA) (X : Nat → Int32) : f_M_inSet_go (g + 1) 35 I A X = f_M_inSet_35 (f_M_inSet_go g) I A X := rfl
theorem g_flag_ne (b : Bool) : g_flag b ≠ 0 ↔ b = true := by cases b <;> decide
theorem g_flag_eq (a b : Bool) : g_flag a = g_flag b ↔ a = b := by cases a <;> cases b <;> decide
theorem nar_flag (b : Bool) : vp_nar .boolean (g_flag b) = g_flag b := by cases b <;> decide
theorem B_inSet_go {s : Nat → Nat} {I : MI} {A : MA} {e c : Nat} (hpat : ∀ k, k < 24 → A 16 k = Int32.ofNat (s k) ∧ s k < 128) (he : e ≤ 24) (hc : c < 128) (neg : Bool) :
    ∀ (m k fuel : Nat) (acc : Bool) (X : Nat → Int32), e - k ≤ m → m < fuel → X 1 = Int32.ofNat c → X 3 = Int32.ofNat e → X 4 = g_flag neg → X 5 = g_flag acc → X 6 = Int32.ofNat k → k < 100 → f_M_inSet_go fuel 35 I A X = some (g_flag ((acc || inset s e 24 k c) != neg), I, A) := by
  have h10 : ¬ (1 : Int32) = 0 := by decide
  -- the end
  have fin : ∀ (k g : Nat) (acc : Bool) (X : Nat → Int32), e ≤ k → X 3 = Int32.ofNat e → X 4 = g_flag neg → X 5 = g_flag acc → X 6 = Int32.ofNat k → k < 100 → f_M_inSet_go (g + 1) 35 I A X = some (g_flag ((acc || inset s e 24 k c) != neg), I, A) := by
    intro k g acc X hk x3 x4 x5 x6 hk1
    rw [is_go]
    unfold f_M_inSet_35
    rw [x3, x6, if_pos ((pn_le (by omega) (by omega)).mpr hk), inset_done 24 hk, Bool.or_false, x5, x4]
    by_cases q : acc = neg
    · rw [if_pos ((g_flag_eq _ _).mpr q)]
      unfold f_M_inSet_174
      rw [if_pos nar_bool0, q]
      cases neg <;> rfl
    · rw [if_neg (fun z => q ((g_flag_eq _ _).mp z))]
      unfold f_M_inSet_174
      rw [if_pos nar_bool1]
      cases acc <;> cases neg <;> first | rfl | exact (q rfl).elim
  intro m
  induction m with
  | zero =>
    intro k fuel acc X hm hf x1 x3 x4 x5 x6 hk1
    obtain ⟨g, rfl⟩ : ∃ g, fuel = g + 1 := ⟨fuel - 1, by omega⟩
    exact fin k g acc X (by omega) x3 x4 x5 x6 hk1
  | succ m ih =>
    intro k fuel acc X hm hf x1 x3 x4 x5 x6 hk1
    obtain ⟨g, rfl⟩ : ∃ g, fuel = g + 1 := ⟨fuel - 1, by omega⟩
    by_cases q : e ≤ k
    · exact fin k g acc X q x3 x4 x5 x6 hk1
    obtain ⟨p0, c0⟩ := hpat k (by omega)
    have nk : (Int32.ofNat k).toNatClampNeg = k := pn_nat (by omega)
    -- with the end of the range known
    have f113 : ∀ (rg : Bool) (hi : Nat) (X' : Nat → Int32), hi < 128 → X' 1 = Int32.ofNat c → X' 3 = Int32.ofNat e → X' 4 = g_flag neg → X' 5 = g_flag acc → X' 6 = Int32.ofNat k → X' 7 = g_flag rg → (inset s e 24 k c = (decide (s k ≤ c ∧ c ≤ hi) || inset s e 24 (if rg then k + 3 else k + 1) c)) →
        f_M_inSet_113 (f_M_inSet_go g) I A X' (Int32.ofNat hi) = some (g_flag ((acc || inset s e 24 k c) != neg), I, A) := by
      intro rg hi X' hhi y1 y3 y4 y5 y6 y7 hin
      have f142 : ∀ (acc' : Bool), (acc' = (acc || decide (s k ≤ c ∧ c ≤ hi))) → f_M_inSet_142 (f_M_inSet_go g) I A (upd X' 8 (Int32.ofNat hi)) (g_flag acc') = some (g_flag ((acc || inset s e 24 k c) != neg), I, A) := by
        intro acc' ha
        have z7 : upd X' 8 (Int32.ofNat hi) 7 = g_flag rg := by rw [upd_ne _ _ (by decide)]; exact y7
        have z6 : upd X' 8 (Int32.ofNat hi) 6 = Int32.ofNat k := by rw [upd_ne _ _ (by decide)]; exact y6
        unfold f_M_inSet_142 f_M_inSet_156
        rw [z7, z6, hin, ← Bool.or_assoc, ← ha]
        cases rg
        · rw [if_pos (show g_flag false = 0 from rfl), pn_succ]
          exact ih (k + 1) g acc' _ (by omega) (by omega) (by rw [upd_ne _ _ (by decide), upd_ne _ _ (by decide), upd_ne _ _ (by decide)]; exact y1) (by rw [upd_ne _ _ (by decide), upd_ne _ _ (by decide), upd_ne _ _ (by decide)]; exact y3) (by rw [upd_ne _ _ (by decide), upd_ne _ _ (by decide), upd_ne _ _ (by decide)]; exact y4) (by rw [upd_ne _ _ (by decide), upd_self]) (upd_self _ _ _) (by omega)
        · rw [if_neg (show ¬ g_flag true = 0 from h10), pn_add3]
          exact ih (k + 3) g acc' _ (by omega) (by omega) (by rw [upd_ne _ _ (by decide), upd_ne _ _ (by decide), upd_ne _ _ (by decide)]; exact y1) (by rw [upd_ne _ _ (by decide), upd_ne _ _ (by decide), upd_ne _ _ (by decide)]; exact y3) (by rw [upd_ne _ _ (by decide), upd_ne _ _ (by decide), upd_ne _ _ (by decide)]; exact y4) (by rw [upd_ne _ _ (by decide), upd_self]) (upd_self _ _ _) (by omega)
      unfold f_M_inSet_113 f_M_inSet_141 f_M_inSet_137
      rw [y5, y6, if_pos (pn_i24 (show k < 24 by omega)), nk, p0, y1]
      cases acc
      · rw [if_pos (show g_flag false = 0 from rfl)]
        by_cases q1 : c < s k
        · rw [if_pos ((pn_lt (by omega) (by omega)).mpr q1)]
          exact f142 false (by rw [Bool.false_or]; exact (decide_eq_false (by omega)).symm)
        · rw [if_neg (fun z => q1 ((pn_lt (by omega) (by omega)).mp z))]
          by_cases q2 : hi < c
          · rw [if_pos ((pn_lt (by omega) (by omega)).mpr q2)]
            exact f142 false (by rw [Bool.false_or]; exact (decide_eq_false (by omega)).symm)
          · rw [if_neg (fun z => q2 ((pn_lt (by omega) (by omega)).mp z))]
            exact f142 true (by rw [Bool.false_or]; exact (decide_eq_true (by omega)).symm)
      · rw [if_neg (show ¬ g_flag true = 0 from h10)]
        exact f142 true rfl
    -- a character alone
    have one : ¬ (k + 2 < e ∧ s (k + 1) = 45 ∧ s k ≤ s (k + 2)) → f_M_inSet_86 (f_M_inSet_go g) I A X = some (g_flag ((acc || inset s e 24 k c) != neg), I, A) := by
      intro hno
      unfold f_M_inSet_86 f_M_inSet_87
      rw [if_pos rfl, x6, if_pos (pn_i24 (show k < 24 by omega)), nk, p0]
      refine f113 false (s k) _ c0 (by rw [upd_ne _ _ (by decide)]; exact x1) (by rw [upd_ne _ _ (by decide)]; exact x3) (by rw [upd_ne _ _ (by decide)]; exact x4) (by rw [upd_ne _ _ (by decide)]; exact x5) (by rw [upd_ne _ _ (by decide)]; exact x6) (upd_self _ _ _) ?_
      rw [inset_step (by omega) (show e - k ≤ 24 by omega), if_neg hno]
      congr 1
      apply decide_eq_decide.mpr; omega
    rw [is_go]
    unfold f_M_inSet_35
    rw [x3, x6, if_neg (fun z => q ((pn_le (by omega) (by omega)).mp z)), pn_add2, pn_succ]
    by_cases q1 : e ≤ k + 2
    · rw [if_pos ((pn_le (by omega) (by omega)).mpr q1)]
      exact one (by omega)
    · rw [if_neg (fun z => q1 ((pn_le (by omega) (by omega)).mp z)), if_pos (pn_i24 (show k + 1 < 24 by omega)), pn_nat (show k + 1 < 2147483648 by omega)]
      obtain ⟨p1, c1⟩ := hpat (k + 1) (by omega)
      obtain ⟨p2, c2⟩ := hpat (k + 2) (by omega)
      rw [p1]
      by_cases q2 : s (k + 1) = 45
      · rw [if_pos ((pn_eqc (x := 45) 45 rfl (by omega) (by omega)).mpr q2), if_pos (pn_i24 (show k + 2 < 24 by omega)), if_pos (pn_i24 (show k < 24 by omega)), pn_nat (show k + 2 < 2147483648 by omega), p2, nk, p0]
        by_cases q3 : s (k + 2) < s k
        · rw [if_pos ((pn_lt (by omega) (by omega)).mpr q3)]
          exact one (by omega)
        · rw [if_neg (fun z => q3 ((pn_lt (by omega) (by omega)).mp z))]
          have hyes : k + 2 < e ∧ s (k + 1) = 45 ∧ s k ≤ s (k + 2) := ⟨by omega, q2, by omega⟩
          unfold f_M_inSet_87
          rw [if_neg h10, x6, pn_add2, if_pos (pn_i24 (show k + 2 < 24 by omega)), pn_nat (show k + 2 < 2147483648 by omega), p2]
          refine f113 true (s (k + 2)) _ c2 (by rw [upd_ne _ _ (by decide)]; exact x1) (by rw [upd_ne _ _ (by decide)]; exact x3) (by rw [upd_ne _ _ (by decide)]; exact x4) (by rw [upd_ne _ _ (by decide)]; exact x5) (by rw [upd_ne _ _ (by decide)]; exact x6) (upd_self _ _ _) ?_
          rw [inset_step (by omega) (show e - k ≤ 24 by omega), if_pos hyes]
          rfl
      · rw [if_neg (fun z => q2 ((pn_eqc (x := 45) 45 rfl (by omega) (by omega)).mp z))]
        exact one (by omega)
theorem B_inSet {s : Nat → Nat} {I : MI} {A : MA} {b e c : Nat} (hpat : ∀ k, k < 24 → A 16 k = Int32.ofNat (s k) ∧ s k < 128) (hbe : b < e) (he : e ≤ 24) (hc : c < 128) : f_M_inSet I A (Int32.ofNat c) (Int32.ofNat b) (Int32.ofNat e) = some (g_flag (m_set s b e c), I, A) := by
  have fu := wk_FUEL_big
  have h10 : ¬ (1 : Int32) = 0 := by decide
  obtain ⟨p0, c0⟩ := hpat b (by omega)
  have em : m_set s b e c = (inset s e 24 (if m_neg s b = true then b + 1 else b) c != m_neg s b) := rfl
  unfold f_M_inSet f_M_inSet_e f_M_inSet_16 f_M_inSet_33
  generalize wk_FUEL = F at fu ⊢
  rw [if_pos (pn_i24 (show b < 24 by omega)), pn_nat (show b < 2147483648 by omega), p0]
  by_cases q : s b = 94
  · have hneg : m_neg s b = true := decide_eq_true q
    have x2 : upd (upd (upd (fun _ => (0 : Int32)) 1 (Int32.ofNat c)) 2 (Int32.ofNat b)) 3 (Int32.ofNat e) 2 = Int32.ofNat b := rfl
    rw [hneg, if_pos rfl] at em
    rw [if_pos ((pn_eqc (x := 94) 94 rfl (by omega) (by omega)).mpr q), if_neg h10, x2, pn_succ, em]
    have hh := B_inSet_go (I := I) hpat he hc true (e - (b + 1)) (b + 1) F false (upd (upd (upd (upd (upd (upd (fun _ => 0) 1 (Int32.ofNat c)) 2 (Int32.ofNat b)) 3 (Int32.ofNat e)) 4 1) 5 0) 6 (Int32.ofNat (b + 1))) (Nat.le_refl _) (by omega) rfl rfl rfl rfl rfl (by omega)
    rw [Bool.false_or] at hh
    exact hh
  · have hneg : m_neg s b = false := decide_eq_false q
    have x2 : upd (upd (upd (fun _ => (0 : Int32)) 1 (Int32.ofNat c)) 2 (Int32.ofNat b)) 3 (Int32.ofNat e) 2 = Int32.ofNat b := rfl
    rw [hneg, if_neg (by decide)] at em
    rw [if_neg (fun z => q ((pn_eqc (x := 94) 94 rfl (by omega) (by omega)).mp z)), if_pos rfl, x2, em]
    have hh := B_inSet_go (I := I) hpat he hc false (e - b) b F false (upd (upd (upd (upd (upd (upd (fun _ => 0) 1 (Int32.ofNat c)) 2 (Int32.ofNat b)) 3 (Int32.ofNat e)) 4 0) 5 0) 6 (Int32.ofNat b)) (Nat.le_refl _) (by omega) rfl rfl rfl rfl rfl (by omega)
    rw [Bool.false_or] at hh
    exact hh
/-- does a node of the reference take a character -/
theorem B_takes {tn : Nat} {tx : Nat → Int32} {I : MI} {A : MA} {s : Nat → Nat} {n : Nat} {on tw : Nat → Option Nat} {lab : Nat → Rl} {fs ls : Nat} {R : Rl} (hD : RDone tn tx I A s n on tw lab fs ls R) {u p c : Nat} (hu : u < n) (hp : p < tn) (hc : c < 128) (hcx : tx p = Int32.ofNat c) :
    ∃ b, f_M_takes I A (Int32.ofNat u) (Int32.ofNat c) = some (b, I, A) ∧ (b ≠ 0 ↔ lab u p (p + 1)) := by
  have hnb := hD.hnb
  have h10 : ¬ (1 : Int32) = 0 := by decide
  have n1 : (Int32.ofNat u).toNatClampNeg = u := pn_nat (by omega)
  have i160 := pn_i160 (show u < 160 by omega)
  have hlab := hD.hlab u hu
  have y66 : ∀ X : Nat → Int32, f_M_takes_66 I A X = some (1, I, A) := fun X => by simp only [f_M_takes_66, f_M_takes_71, nar_bool1, if_true]
  have y70 : ∀ X : Nat → Int32, f_M_takes_70 I A X = some (0, I, A) := fun X => by simp only [f_M_takes_70, f_M_takes_71, nar_bool0, if_true]
  have yes : lab u p (p + 1) → ∀ X : Nat → Int32, ∃ b, f_M_takes_66 I A X = some (b, I, A) ∧ (b ≠ 0 ↔ lab u p (p + 1)) := fun hl X => ⟨1, y66 X, fun _ => hl, fun _ => h10⟩
  have no : ¬ lab u p (p + 1) → ∀ X : Nat → Int32, ∃ b, f_M_takes_70 I A X = some (b, I, A) ∧ (b ≠ 0 ↔ lab u p (p + 1)) := fun hl X => ⟨0, y70 X, fun z => (z rfl).elim, fun z => (hl z).elim⟩
  have f36 : ∀ X : Nat → Int32, X 1 = Int32.ofNat u → X 2 = Int32.ofNat c → (A 18 u ≠ 3 → ¬ lab u p (p + 1)) → ∃ b, f_M_takes_36 I A X = some (b, I, A) ∧ (b ≠ 0 ↔ lab u p (p + 1)) := by
    intro X x1 x2 hno
    unfold f_M_takes_36
    rw [x1, x2, if_pos i160, n1]
    by_cases q3 : A 18 u = 3
    · rw [if_pos q3, if_pos i160, if_pos i160]
      obtain ⟨b, e, eb, ee, hbe, he⟩ := hD.hse u hu q3
      have e1 : lab u = tl_con tn tx (fun x => m_set s (A 19 u).toNatClampNeg (A 20 u).toNatClampNeg x.toNatClampNeg = true) := by rw [hlab, q3]; rfl
      rw [eb, ee, B_inSet hD.hpat hbe he hc]
      simp only [Option.bind_some]
      have hl : lab u p (p + 1) ↔ m_set s b e c = true := by
        rw [e1, eb, ee, pn_nat (show b < 2147483648 by omega), pn_nat (show e < 2147483648 by omega)]
        constructor
        · rintro ⟨_, _, z⟩
          have z' : m_set s b e (tx p).toNatClampNeg = true := z
          rw [hcx, pn_nat (show c < 2147483648 by omega)] at z'; exact z'
        · intro z
          refine ⟨rfl, hp, ?_⟩
          show m_set s b e (tx p).toNatClampNeg = true
          rw [hcx, pn_nat (show c < 2147483648 by omega)]; exact z
      by_cases qm : m_set s b e c = true
      · rw [if_neg ((g_flag_ne _).mpr qm)]; exact yes (hl.mpr qm) X
      · rw [if_pos (by rw [Bool.not_eq_true] at qm; rw [qm]; rfl)]; exact no (fun z => qm (hl.mp z)) X
    · rw [if_neg q3]; exact no (hno q3) X
  have f20 : ∀ X : Nat → Int32, X 1 = Int32.ofNat u → X 2 = Int32.ofNat c → (A 18 u ≠ 2 → A 18 u ≠ 3 → ¬ lab u p (p + 1)) → ∃ b, f_M_takes_20 I A X = some (b, I, A) ∧ (b ≠ 0 ↔ lab u p (p + 1)) := by
    intro X x1 x2 hno
    unfold f_M_takes_20
    rw [x1, x2, if_pos i160, n1]
    by_cases q2 : A 18 u = 2
    · have e1 : lab u = tl_con tn tx (fun x => x ≠ 10) := by rw [hlab, q2]; rfl
      rw [if_pos q2]
      by_cases qc : Int32.ofNat c = 10
      · rw [if_pos qc]
        refine f36 X x1 x2 (fun _ z => ?_)
        rw [e1] at z
        exact z.2.2 (by rw [hcx]; exact qc)
      · rw [if_neg qc]
        exact yes (by rw [e1]; exact ⟨rfl, hp, by rw [hcx]; exact qc⟩) X
    · rw [if_neg q2]
      exact f36 X x1 x2 (fun q3 => hno q2 q3)
  have hother : A 18 u ≠ 1 → A 18 u ≠ 2 → A 18 u ≠ 3 → ¬ lab u p (p + 1) := by
    intro q1 q2 q3 z
    rw [hlab] at z
    unfold rLab at z
    rw [if_neg q1, if_neg q2, if_neg q3] at z
    split at z
    · have : p = p + 1 := z; omega
    · split at z
      · have := z.1; omega
      · split at z
        · have := z.1; omega
        · exact z
  unfold f_M_takes
  rw [if_pos i160, n1]
  by_cases q1 : A 18 u = 1
  · have e1 : lab u = tl_con tn tx (fun x => x = A 19 u) := by rw [hlab, q1]; rfl
    rw [if_pos q1, if_pos i160]
    by_cases qc : Int32.ofNat c = A 19 u
    · rw [if_pos qc]
      exact yes (by rw [e1]; exact ⟨rfl, hp, by rw [hcx]; exact qc⟩) _
    · rw [if_neg qc]
      refine f20 _ rfl rfl (fun _ _ z => ?_)
      rw [e1] at z
      exact qc (by have := z.2.2; rw [hcx] at this; exact this)
  · rw [if_neg q1]
    exact f20 _ rfl rfl (fun q2 q3 => hother q1 q2 q3)
-- 56.rlo
theorem ar_pred {n k d : Nat} (h : n - k = d + 1) : n - (k + 1) = d := by omega
theorem lo_go2 (g : Nat) (I : MI) (A : MA) (X : Nat → Int32) : f_M_longest_go (g + 1) 2 I A X = f_M_longest_2 (f_M_longest_go g) I A X := rfl
theorem lo_go42 (g : Nat) (I : MI) (A : MA) (X : Nat → Int32) : f_M_longest_go (g + 1) 42 I A X = f_M_longest_42 (f_M_longest_go g) I A X := rfl
theorem lo_go81 (g : Nat) (I : MI) (A : MA) (X : Nat → Int32) : f_M_longest_go (g + 1) 81 I A X = f_M_longest_81 (f_M_longest_go g) I A X := rfl
theorem lo_go107 (g : Nat) (I : MI) (A : MA) (X : Nat → Int32) : f_M_longest_go (g + 1) 107 I A X = f_M_longest_107 (f_M_longest_go g) I A X := rfl
theorem lo_go173 (g : Nat) (I : MI) (A : MA) (X : Nat → Int32) : f_M_longest_go (g + 1) 173 I A X = f_M_longest_173 (f_M_longest_go g) I A X := rfl
/-- only the two sets differ -/
def HFr (A A' : MA) : Prop := ∀ j, j ≠ 32 → j ≠ 33 → A' j = A j
theorem HFr.trans {A A' A'' : MA} (h : HFr A A') (h' : HFr A' A'') : HFr A A'' := fun j h1 h2 => (h' j h1 h2).trans (h j h1 h2)
theorem HFr.refl (A : MA) : HFr A A := fun _ _ _ => rfl
theorem HFr.done {tn : Nat} {tx : Nat → Int32} {I : MI} {A A' : MA} {s : Nat → Nat} {n : Nat} {on tw : Nat → Option Nat} {lab : Nat → Rl} {fs ls : Nat} {R : Rl} (h : HFr A A') (hD : RDone tn tx I A s n on tw lab fs ls R) : RDone tn tx I A' s n on tw lab fs ls R := hD.frame rfl rfl rfl (fun j _ hj => h j (by omega) (by omega))
theorem HFr.txt {tn : Nat} {tx : Nat → Int32} {I : MI} {A A' : MA} {ps : Nat} (h : HFr A A') (hM : MTxt I A tn tx ps) : MTxt I A' tn tx ps := hM.fr rfl (h 5 (by decide) (by decide)) (h 6 (by decide) (by decide))
theorem RDone.clean {tn : Nat} {tx : Nat → Int32} {I : MI} {A : MA} {s : Nat → Nat} {n : Nat} {on tw : Nat → Option Nat} {lab : Nat → Rl} {fs ls : Nat} {R : Rl} (h : RDone tn tx I A s n on tw lab fs ls R) : ∃ lab', RDone tn tx I A s n on tw lab' fs ls R ∧ ProgT tn lab' := by
  refine ⟨fun u => if u < n then lab u else rl_no, ⟨h.hn, h.hnb, h.hon, h.htw, fun u hu => ?_, h.hfs, h.hls, h.fr.congr (fun _ => Iff.rfl) (fun _ _ _ => Iff.rfl) (fun u hu => ?_), ?_, h.hof, h.hse, h.hoo, h.hpat⟩, fun u i j hl => ?_⟩
  · show (if u < n then lab u else rl_no) = _
    rw [if_pos hu]; exact h.hlab u hu
  · show _ = if u < n then lab u else rl_no
    rw [if_pos hu]
  · show (if ls < n then lab ls else rl_no) = _
    rw [if_pos h.fr.tU]; exact h.hid
  · simp only at hl
    by_cases q : u < n
    · rw [if_pos q, h.hlab u q] at hl
      unfold rLab at hl
      split at hl
      · exact Or.inl hl.symm
      · split at hl
        · exact Or.inr ⟨hl.1, hl.2.1⟩
        · split at hl
          · exact Or.inr ⟨hl.1, hl.2.1⟩
          · split at hl
            · exact Or.inr ⟨hl.1, hl.2.1⟩
            · split at hl
              · exact Or.inl hl.1.symm
              · split at hl
                · exact Or.inl hl.1.symm
                · exact hl.elim
    · rw [if_neg q] at hl; exact hl.elim
/-- what a consuming node leads to -/
theorem RDone.step {tn : Nat} {tx : Nat → Int32} {I : MI} {A : MA} {s : Nat → Nat} {n : Nat} {on tw : Nat → Option Nat} {lab : Nat → Rl} {fs ls : Nat} {R : Rl} (h : RDone tn tx I A s n on tw lab fs ls R) {u v p : Nat} (hu : u < n) (hl : lab u p (p + 1)) : (cF on tw u v ↔ on u = some v) ∧ on u ≠ none := by
  have hk : A 18 u ≠ 0 := by
    intro e
    rw [h.hlab u hu, e] at hl
    have : p = p + 1 := hl
    omega
  have ht : tw u = none := by
    cases ho : tw u with
    | none => rfl
    | some x => exact (hk (h.hof u hu (by rw [ho]; exact fun z => by cases z))).elim
  refine ⟨⟨fun z => ?_, Or.inl⟩, h.hoo u hu hk⟩
  rcases z with z | z
  · exact z
  · rw [ht] at z; cases z
/-- the other set is emptied -/
theorem B_lo81 {I : MI} {n : Nat} (hn : I 17 = Int32.ofNat n) (hnb : n ≤ 160) {Q : Option (Int32 × MI × MA) → Prop} {B : Nat} : ∀ (d k fuel : Nat) (A : MA) (X : Nat → Int32), n - k = d → k ≤ n → d + 1 + B ≤ fuel → X 5 = Int32.ofNat k → (∀ v, v < k → A 33 v = 0) →
    (∀ (fuel' : Nat) (A' : MA) (X' : Nat → Int32), B ≤ fuel' → HFr A A' → A' 32 = A 32 → (∀ v, v < n → A' 33 v = 0) → (∀ j, j ≠ 5 → X' j = X j) → X' 5 = 0 → Q (f_M_longest_go fuel' 107 I A' X')) → Q (f_M_longest_go fuel 81 I A X) := by
  intro d
  induction d with
  | zero =>
    intro k fuel A X hd hk hf x5 hz hQ
    obtain ⟨g, rfl⟩ : ∃ g, fuel = g + 1 := ⟨fuel - 1, by omega⟩
    rw [lo_go81]
    unfold f_M_longest_81
    rw [hn, x5, if_pos ((pn_le (by omega) (by omega)).mpr (by omega))]
    exact hQ g A _ (by omega) (HFr.refl A) rfl (fun v hv => hz v (by omega)) (fun j hj => upd_ne _ _ hj) (upd_self _ _ _)
  | succ d ih =>
    intro k fuel A X hd hk hf x5 hz hQ
    obtain ⟨g, rfl⟩ : ∃ g, fuel = g + 1 := ⟨fuel - 1, by omega⟩
    rw [lo_go81]
    unfold f_M_longest_81
    rw [hn, x5, if_neg (fun z => by have := (pn_le (a := n) (b := k) (by omega) (by omega)).mp z; omega), if_pos (pn_i160 (show k < 160 by omega)), pn_nat (show k < 2147483648 by omega), pn_succ]
    simp only [wk_let]
    refine ih (k + 1) g _ _ (by omega) (by omega) (by omega) (upd_self _ _ _) (fun v hv => ?_) (fun fuel' A' X' h1 h2 h3 h4 h5 h6 => hQ fuel' A' X' h1 (fun j q1 q2 => by rw [h2 j q1 q2, va_up_ne _ _ q2]) (by rw [h3, va_up_ne _ _ (by decide)]) h4 (fun j hj => by rw [h5 j hj, upd_ne _ _ hj]) h6)
    rw [va_up_self]
    by_cases e : v = k
    · rw [e, upd_self]
    · rw [upd_ne _ _ e]; exact hz v (by omega)
/-- the character is taken -/
theorem B_lo107 {tn : Nat} {tx : Nat → Int32} {I : MI} {s : Nat → Nat} {n : Nat} {on tw : Nat → Option Nat} {lab : Nat → Rl} {fs ls : Nat} {R : Rl} {ps p : Nat} (hp : p < tn) {Q : Option (Int32 × MI × MA) → Prop} {B : Nat} : ∀ (d k fuel : Nat) (A : MA) (X : Nat → Int32), RDone tn tx I A s n on tw lab fs ls R → MTxt I A tn tx ps → n - k = d → k ≤ n → d + 1 + B ≤ fuel → X 3 = Int32.ofNat p → X 5 = Int32.ofNat k →
    (∀ v, v < n → (A 33 v ≠ 0 ↔ ∃ u, u < k ∧ inH A u = true ∧ cF on tw u v ∧ lab u p (p + 1))) → (X 4 ≠ 0 ↔ ∃ u, u < k ∧ inH A u = true ∧ lab u p (p + 1)) → (∀ v, v < n → A 33 v = 0 ∨ A 33 v = 1) →
    (∀ (fuel' : Nat) (A' : MA) (X' : Nat → Int32), B ≤ fuel' → HFr A A' → A' 32 = A 32 → (∀ v, v < n → (A' 33 v ≠ 0 ↔ ∃ u, u < n ∧ inH A u = true ∧ cF on tw u v ∧ lab u p (p + 1))) → (X' 4 ≠ 0 ↔ ∃ u, u < n ∧ inH A u = true ∧ lab u p (p + 1)) → (∀ j, j ≠ 4 → j ≠ 5 → X' j = X j) → X' 5 = 0 → (∀ v, v < n → A' 33 v = 0 ∨ A' 33 v = 1) → Q (f_M_longest_go fuel' 173 I A' X')) → Q (f_M_longest_go fuel 107 I A X) := by
  intro d
  induction d with
  | zero =>
    intro k fuel A X hD hM hd hk hf x3 x5 h33 h4 h01 hQ
    have hnb := hD.hnb
    obtain ⟨g, rfl⟩ : ∃ g, fuel = g + 1 := ⟨fuel - 1, by omega⟩
    have ek : k = n := by omega
    rw [lo_go107]
    unfold f_M_longest_107 f_M_longest_170
    rw [hD.hn, x5, if_pos ((pn_le (by omega) (by omega)).mpr (by omega))]
    subst ek
    exact hQ g A _ (by omega) (HFr.refl A) rfl h33 (by rw [upd_ne _ _ (by decide)]; exact h4) (fun j _ hj => upd_ne _ _ hj) (upd_self _ _ _) h01
  | succ d ih =>
    intro k fuel A X hD hM hd hk hf x3 x5 h33 h4 h01 hQ
    have hnb := hD.hnb
    have ht := hM.t.nb
    have hkn : k < n := by omega
    obtain ⟨g, rfl⟩ : ∃ g, fuel = g + 1 := ⟨fuel - 1, by omega⟩
    have n1 : (Int32.ofNat k).toNatClampNeg = k := pn_nat (by omega)
    have h10 : ¬ (1 : Int32) = 0 := by decide
    -- nothing is taken
    have skip : ¬ (inH A k = true ∧ lab k p (p + 1)) → Q (f_M_longest_164 (f_M_longest_go g) I A X) := by
      intro hno
      unfold f_M_longest_164
      refine ih (k + 1) g A _ hD hM (ar_pred hd) (by omega) (by omega) (by rw [upd_ne _ _ (by decide)]; exact x3) (by rw [upd_self, x5]; exact pn_succ _) (fun v hv => ?_) ?_ h01 (fun fuel' A' X' q1 q2 q3 q4 q5 q6 q7 q8 => hQ fuel' A' X' q1 q2 q3 q4 q5 (fun j j4 j5 => by rw [q6 j j4 j5, upd_ne _ _ j5]) q7 q8)
      · rw [h33 v hv]
        constructor
        · rintro ⟨u, a, b⟩; exact ⟨u, by omega, b⟩
        · rintro ⟨u, a, b, c1, c2⟩
          by_cases e : u = k
          · subst e; exact (hno ⟨b, c2⟩).elim
          · exact ⟨u, by omega, b, c1, c2⟩
      · rw [upd_ne _ _ (by decide), h4]
        constructor
        · rintro ⟨u, a, b⟩; exact ⟨u, by omega, b⟩
        · rintro ⟨u, a, b⟩
          by_cases e : u = k
          · subst e; exact (hno b).elim
          · exact ⟨u, by omega, b⟩
    rw [lo_go107]
    unfold f_M_longest_107
    rw [hD.hn, x5, if_neg (fun z => by have := (pn_le (a := n) (b := k) (by omega) (by omega)).mp z; omega), B_len hM]
    simp only [Option.bind_some]
    rw [x3, if_neg (fun z => by have := (pn_le (a := tn) (b := p) (by omega) (by omega)).mp z; omega), if_pos (pn_i160 (show k < 160 by omega)), n1]
    by_cases q : A 32 k = 0
    · rw [if_pos q]
      exact skip (fun z => inH_t.mp z.1 q)
    rw [if_neg q]
    have hkH : inH A k = true := inH_t.mpr q
    obtain ⟨c, hc, hcx⟩ := hM.t.ch p hp
    obtain ⟨b, eb, hb⟩ := B_takes hD hkn hp hc hcx
    rw [B_char hM hp]
    simp only [Option.bind_some]
    rw [hcx, eb]
    simp only [Option.bind_some]
    by_cases qb : b = 0
    · rw [if_pos qb]
      exact skip (fun z => hb.mpr z.2 qb)
    rw [if_neg qb, if_pos (pn_i160 (show k < 160 by omega))]
    have hl : lab k p (p + 1) := hb.mp qb
    obtain ⟨_, hne⟩ := hD.step (v := 0) hkn hl
    cases ho : on k with
    | none => exact (hne ho).elim
    | some w =>
      have hnd := hD.hon k hkn
      rw [ho] at hnd
      obtain ⟨hw, ew⟩ := hnd
      rw [ew, if_pos (pn_i160 (show w < 160 by omega)), pn_nat (show w < 2147483648 by omega)]
      simp only [wk_let]
      unfold f_M_longest_164
      have hF : HFr A (va_up A 33 (upd (A 33) w 1)) := fun j _ hj => va_up_ne _ _ hj
      have e32 : va_up A 33 (upd (A 33) w 1) 32 = A 32 := va_up_ne _ _ (by decide)
      have eH : ∀ u, inH (va_up A 33 (upd (A 33) w 1)) u = inH A u := fun u => by unfold inH; rw [e32]
      refine ih (k + 1) g _ _ (hF.done hD) (hF.txt hM) (ar_pred hd) (by omega) (by omega) (by rw [upd_ne _ _ (by decide), upd_ne _ _ (by decide)]; exact x3) (by rw [upd_self, upd_ne _ _ (by decide), x5]; exact pn_succ _) (fun v hv => ?_) ?_ (fun v hv => ?_) (fun fuel' A' X' q1 q2 q3 q4 q5 q6 q7 q8 => hQ fuel' A' X' q1 (hF.trans q2) (q3.trans e32) (fun v hv => by rw [q4 v hv]; simp only [eH]) (by rw [q5]; simp only [eH]) (fun j j4 j5 => by rw [q6 j j4 j5, upd_ne _ _ j5, upd_ne _ _ j4]) q7 q8)
      · rw [va_up_self]
        simp only [eH]
        by_cases e : v = w
        · rw [e, upd_self]
          refine ⟨fun _ => ⟨k, by omega, hkH, Or.inl ho, hl⟩, fun _ => h10⟩
        · rw [upd_ne _ _ e, h33 v hv]
          constructor
          · rintro ⟨u, a, b'⟩; exact ⟨u, by omega, b'⟩
          · rintro ⟨u, a, b1, c1, c2⟩
            by_cases eu : u = k
            · subst eu
              have := (hD.step (v := v) hkn c2).1.mp c1
              rw [ho] at this; cases this; exact (e rfl).elim
            · exact ⟨u, by omega, b1, c1, c2⟩
      · rw [upd_ne _ _ (by decide), upd_self]
        simp only [eH]
        exact ⟨fun _ => ⟨k, by omega, hkH, hl⟩, fun _ => h10⟩
      · rw [va_up_self]
        by_cases e : v = w
        · rw [e, upd_self]; exact Or.inr rfl
        · rw [upd_ne _ _ e]; exact h01 v hv
/-- the set that was made becomes the one that lives -/
theorem B_lo173 {I : MI} {n : Nat} (hn : I 17 = Int32.ofNat n) (hnb : n ≤ 160) {Q : Option (Int32 × MI × MA) → Prop} {B : Nat} : ∀ (d k fuel : Nat) (A : MA) (X : Nat → Int32), n - k = d → k ≤ n → d + 1 + B ≤ fuel → X 5 = Int32.ofNat k → (∀ v, v < n → A 33 v = 0 ∨ A 33 v = 1) → (∀ v, v < k → (A 32 v ≠ 0 ↔ A 33 v ≠ 0)) →
    (∀ (fuel' : Nat) (A' : MA) (X' : Nat → Int32), B ≤ fuel' → HFr A A' → (∀ v, v < n → (A' 32 v ≠ 0 ↔ A 33 v ≠ 0)) → (∀ j, j ≠ 3 → j ≠ 5 → X' j = X j) → X' 3 = X 3 + 1 → Q (f_M_longest_go fuel' 42 I A' X')) → Q (f_M_longest_go fuel 173 I A X) := by
  intro d
  induction d with
  | zero =>
    intro k fuel A X hd hk hf x5 h01 hz hQ
    obtain ⟨g, rfl⟩ : ∃ g, fuel = g + 1 := ⟨fuel - 1, by omega⟩
    rw [lo_go173]
    unfold f_M_longest_173
    rw [hn, x5, if_pos ((pn_le (by omega) (by omega)).mpr (by omega))]
    exact hQ g A _ (by omega) (HFr.refl A) (fun v hv => hz v (by omega)) (fun j hj _ => upd_ne _ _ hj) (upd_self _ _ _)
  | succ d ih =>
    intro k fuel A X hd hk hf x5 h01 hz hQ
    obtain ⟨g, rfl⟩ : ∃ g, fuel = g + 1 := ⟨fuel - 1, by omega⟩
    have hn01 : vp_nar .boolean (A 33 k) = A 33 k := by
      rcases h01 k (by omega) with z | z <;> (rw [z]; decide)
    rw [lo_go173]
    unfold f_M_longest_173
    rw [hn, x5, if_neg (fun z => by have := (pn_le (a := n) (b := k) (by omega) (by omega)).mp z; omega), if_pos (pn_i160 (show k < 160 by omega)), if_pos (pn_i160 (show k < 160 by omega)), pn_nat (show k < 2147483648 by omega), pn_succ, hn01]
    simp only [wk_let]
    have e33 : va_up A 32 (upd (A 32) k (A 33 k)) 33 = A 33 := va_up_ne _ _ (by decide)
    refine ih (k + 1) g _ _ (by omega) (by omega) (by omega) (upd_self _ _ _) (by rw [e33]; exact h01) (fun v hv => ?_) (fun fuel' A' X' h1 h2 h3 h4 h5 => hQ fuel' A' X' h1 (fun j q1 q2 => by rw [h2 j q1 q2, va_up_ne _ _ q1]) (fun v hv => by rw [h3 v hv, e33]) (fun j j3 j5 => by rw [h4 j j3 j5, upd_ne _ _ j5]) (by rw [h5, upd_ne _ _ (by decide)]))
    rw [e33, va_up_self]
    by_cases e : v = k
    · rw [e, upd_self]
    · rw [upd_ne _ _ e]; exact hz v (by omega)
-- 57.rlo2
/-- from the place p on, with what lives there -/
theorem B_lo42 {tn : Nat} {tx : Nat → Int32} {I : MI} {s : Nat → Nat} {n : Nat} {on tw : Nat → Option Nat} {lab : Nat → Rl} {fs ls : Nat} {R : Rl} {ps f : Nat} (hP : ProgT tn lab) (hf : f ≤ tn) : ∀ (m p fuel : Nat) (A : MA) (X : Nat → Int32), RDone tn tx I A s n on tw lab fs ls R → MTxt I A tn tx ps → tn + 1 - p ≤ m → (m + 1) * (3 * n + 6) ≤ fuel → f ≤ p → p ≤ tn + 1 → X 1 = Int32.ofNat f → X 3 = Int32.ofNat p →
    ((X 4 = 0 ∧ BestOut R f (X 2)) ∨ (X 4 ≠ 0 ∧ p ≤ tn ∧ ((p = f ∧ X 2 = -1 ∧ ∀ v, v < n → (inH A v = true ↔ v = fs)) ∨ (f < p ∧ SoFar R f (p - 1) (X 2) ∧ ∀ v, v < n → (inH A v = true ↔ ∃ a, Pa (cF on tw) lab fs f a (p - 1) ∧ cF on tw a v ∧ lab a (p - 1) p))))) →
    ∃ x A', f_M_longest_go fuel 42 I A X = some (x, I, A') ∧ HFr A A' ∧ BestOut R f x := by
  intro m
  induction m with
  | zero =>
    intro p fuel A X hD hM hm hfu hfp hpn x1 x3 hX
    obtain ⟨g, rfl⟩ : ∃ g, fuel = g + 1 := ⟨fuel - 1, by clear hD hM; omega⟩
    rcases hX with ⟨x4, hb⟩ | ⟨_, hp, _⟩
    · rw [lo_go42]
      unfold f_M_longest_42
      rw [if_pos x4]
      exact ⟨_, A, rfl, HFr.refl A, hb⟩
    · clear hD hM; omega
  | succ m ih =>
    intro p fuel A X hD hM hm hfu hfp hpn x1 x3 hX
    have hmul : (m + 1 + 1) * (3 * n + 6) = (m + 1) * (3 * n + 6) + (3 * n + 6) := by rw [Nat.succ_mul]
    obtain ⟨g, rfl⟩ : ∃ g, fuel = g + 1 := ⟨fuel - 1, by clear hD hM; omega⟩
    rcases hX with ⟨x4, hb⟩ | ⟨x4, hp, hX⟩
    · rw [lo_go42]
      unfold f_M_longest_42
      rw [if_pos x4]
      exact ⟨_, A, rfl, HFr.refl A, hb⟩
    have hnb := hD.hnb
    have ht := hM.t.nb
    have hls := hD.fr.tU
    have hfs := hD.fr.hU
    have hR : ∀ j, R f j ↔ Pa (cF on tw) lab fs f ls j := fun j => hD.fr.iff hD.hid f j
    have hstay : ∀ u i w j, Pa (cF on tw) lab u i w j → u < n → w < n := by
      intro u i w j pp
      induction pp using Pa.ind with
      | nil => exact id
      | cons a _ _ ih => exact fun hu => ih (hD.fr.cl _ _ hu a)
    obtain ⟨A1, eA, hF0, hA1⟩ := B_spread hD hP.prog hM hp
    have hF1 : HFr A A1 := fun j h1 _ => hF0 j h1
    have hlive : ∀ v, v < n → (inH A1 v = true ↔ Pa (cF on tw) lab fs f v p) := by
      intro v hv
      rw [hA1 v hv]
      rcases hX with ⟨e, _, hH⟩ | ⟨hlt, _, hH⟩
      · constructor
        · rintro ⟨u, hu, hHu, hpa⟩
          rw [(hH u hu).mp hHu] at hpa
          rw [← e]; rw [e] at hpa; rw [e]; exact hpa
        · intro hpa
          refine ⟨fs, hfs, (hH fs hfs).mpr rfl, ?_⟩
          rw [← e] at hpa; exact hpa
      · have ep : p = p - 1 + 1 := by clear hD hM; omega
        constructor
        · rintro ⟨u, hu, hHu, hpa⟩
          obtain ⟨a, ha1, ha2, ha3⟩ := (hH u hu).mp hHu
          exact (ha1.snoc ha2 ha3).trans hpa
        · intro hpa
          rw [ep] at hpa
          obtain ⟨w, ⟨a, q1, q2, q3⟩, q4⟩ := (Pa.next hP.prog (by clear hD hM; omega)).mp hpa
          rw [← ep] at q3 q4
          have han := hstay _ _ _ _ q1 hfs
          have hwn := hD.fr.cl a w han q2
          exact ⟨w, hwn, (hH w hwn).mpr ⟨a, q1, q2, q3⟩, q4⟩
    have hD1 := hF1.done hD
    have hM1 := hF1.txt hM
    have i24 : I 24 = Int32.ofNat ls := hD.hls
    -- behind the best
    have go81 : ∀ x2 : Int32, SoFar R f p x2 → ∃ x A', f_M_longest_74 (f_M_longest_go g) I A1 X x2 = some (x, I, A') ∧ HFr A A' ∧ BestOut R f x := by
      intro x2 hsf
      unfold f_M_longest_74
      obtain ⟨X1, hX1⟩ : ∃ X1, X1 = upd (upd (upd X 2 x2) 4 0) 5 0 := ⟨_, rfl⟩
      have u1 : X1 1 = Int32.ofNat f := by rw [hX1, upd_ne _ _ (by decide), upd_ne _ _ (by decide), upd_ne _ _ (by decide)]; exact x1
      have u2 : X1 2 = x2 := by rw [hX1, upd_ne _ _ (by decide), upd_ne _ _ (by decide), upd_self]
      have u3 : X1 3 = Int32.ofNat p := by rw [hX1, upd_ne _ _ (by decide), upd_ne _ _ (by decide), upd_ne _ _ (by decide)]; exact x3
      have u4 : X1 4 = 0 := by rw [hX1, upd_ne _ _ (by decide), upd_self]
      have u5 : X1 5 = Int32.ofNat 0 := by rw [hX1]; exact upd_self _ _ _
      rw [← hX1]
      -- the end of the round: the new set, and on
      have tail : ∀ (B : Nat) (fuel' : Nat) (A2 : MA) (X2 : Nat → Int32), n + 1 + (m + 1) * (3 * n + 6) ≤ fuel' → HFr A A2 → (∀ v, v < n → (A2 33 v ≠ 0 ↔ ∃ u, u < n ∧ inH A1 u = true ∧ cF on tw u v ∧ lab u p (p + 1))) → (∀ v, v < n → A2 33 v = 0 ∨ A2 33 v = 1) → (X2 4 ≠ 0 ↔ ∃ u, u < n ∧ inH A1 u = true ∧ lab u p (p + 1)) → (X2 4 ≠ 0 → p < tn) → (∀ j, j ≠ 4 → j ≠ 5 → X2 j = X1 j) → X2 5 = 0 → ∃ x A', f_M_longest_go fuel' 173 I A2 X2 = some (x, I, A') ∧ HFr A A' ∧ BestOut R f x := by
        intro _ fuel' A2 X2 hfl hF2 h33 h01 h4 h4p ho h5
        refine B_lo173 hD.hn hnb (Q := fun o => ∃ x A', o = some (x, I, A') ∧ HFr A A' ∧ BestOut R f x) (B := (m + 1) * (3 * n + 6)) n 0 fuel' A2 X2 rfl (Nat.zero_le _) hfl h5 h01 (fun v hv => absurd hv (Nat.not_lt_zero _)) (fun fuel3 A3 X3 k1 k2 k3 k4 k5 => ?_)
        have w3 : X3 3 = Int32.ofNat (p + 1) := by rw [k5, ho 3 (by decide) (by decide), u3]; exact pn_succ _
        have w1 : X3 1 = Int32.ofNat f := by rw [k4 1 (by decide) (by decide), ho 1 (by decide) (by decide)]; exact u1
        have w2 : X3 2 = x2 := by rw [k4 2 (by decide) (by decide), ho 2 (by decide) (by decide)]; exact u2
        have w4 : X3 4 = X2 4 := k4 4 (by decide) (by decide)
        have hF3 := hF2.trans k2
        have hnext : (X3 4 = 0 ∧ BestOut R f (X3 2)) ∨ (X3 4 ≠ 0 ∧ p + 1 ≤ tn ∧ ((p + 1 = f ∧ X3 2 = -1 ∧ ∀ v, v < n → (inH A3 v = true ↔ v = fs)) ∨ (f < p + 1 ∧ SoFar R f (p + 1 - 1) (X3 2) ∧ ∀ v, v < n → (inH A3 v = true ↔ ∃ a, Pa (cF on tw) lab fs f a (p + 1 - 1) ∧ cF on tw a v ∧ lab a (p + 1 - 1) (p + 1))))) := by
          by_cases q4 : X2 4 = 0
          · left
            refine ⟨by rw [w4]; exact q4, ?_⟩
            rw [w2]
            refine hsf.best (by clear hD hM hD1 hM1; omega) (fun j hj => ?_)
            have hdead : ∀ v, ¬ Pa (cF on tw) lab fs f v (p + 1) := by
              intro v hv
              obtain ⟨w, ⟨a, q1, q2, q3⟩, _⟩ := (Pa.next hP.prog hfp).mp hv
              have han := hstay _ _ _ _ q1 hfs
              exact h4.mpr ⟨a, han, (hlive a han).mpr q1, q3⟩ q4
            by_cases z : j ≤ p
            · exact z
            · exact (Pa.dead hP.prog (by clear hD hM hD1 hM1; omega) hdead j (by clear hD hM hD1 hM1; omega) ls ((hR j).mp hj)).elim
          · right
            refine ⟨by rw [w4]; exact q4, h4p q4, Or.inr ⟨by clear hD hM hD1 hM1; omega, ?_, fun v hv => ?_⟩⟩
            · rw [w2, Nat.add_sub_cancel]; exact hsf
            · rw [inH_t, k3 v hv, h33 v hv, Nat.add_sub_cancel]
              constructor
              · rintro ⟨u, hu, hHu, q2, q3⟩; exact ⟨u, (hlive u hu).mp hHu, q2, q3⟩
              · rintro ⟨a, q1, q2, q3⟩
                have han := hstay _ _ _ _ q1 hfs
                exact ⟨a, han, (hlive a han).mpr q1, q2, q3⟩
        obtain ⟨x, A', e1, e2, e3⟩ := ih (p + 1) fuel3 A3 X3 (hF3.done hD) (hF3.txt hM) (by clear hD hM hD1 hM1; omega) k1 (by clear hD hM hD1 hM1; omega) (by clear hD hM hD1 hM1; omega) w1 w3 hnext
        exact ⟨x, A', e1, hF3.trans e2, e3⟩
      refine B_lo81 hD.hn hnb (Q := fun o => ∃ x A', o = some (x, I, A') ∧ HFr A A' ∧ BestOut R f x) (B := n + 1 + (n + 1 + (m + 1) * (3 * n + 6))) n 0 g A1 X1 rfl (Nat.zero_le _) (by clear hD hM hD1 hM1; omega) u5 (fun v hv => absurd hv (Nat.not_lt_zero _)) (fun fuel2 A2 X2 k1 k2 k3 k4 k5 k6 => ?_)
      have hF2 := hF1.trans k2
      have eH : ∀ u, inH A2 u = inH A1 u := fun u => by unfold inH; rw [k3]
      have v3 : X2 3 = Int32.ofNat p := by rw [k5 3 (by decide)]; exact u3
      have v4 : X2 4 = 0 := by rw [k5 4 (by decide)]; exact u4
      have v5 : X2 5 = Int32.ofNat 0 := k6
      have z01 : ∀ v, v < n → A2 33 v = 0 ∨ A2 33 v = 1 := fun v hv => Or.inl (k4 v hv)
      by_cases qp : p < tn
      · refine B_lo107 (s := s) (R := R) (fs := fs) (ls := ls) (tn := tn) (tx := tx) (on := on) (tw := tw) (lab := lab) (ps := ps) (n := n) qp (Q := fun o => ∃ x A', o = some (x, I, A') ∧ HFr A A' ∧ BestOut R f x) (B := n + 1 + (m + 1) * (3 * n + 6)) n 0 fuel2 A2 X2 (hF2.done hD) (hF2.txt hM) rfl (Nat.zero_le _) k1 v3 v5 (fun v hv => ?_) ?_ z01 (fun fuel3 A3 X3 j1 j2 j3 j4 j5 j6 j7 j8 => ?_)
        · constructor
          · intro z; exact (z (k4 v hv)).elim
          · rintro ⟨u, hu, _⟩; exact absurd hu (Nat.not_lt_zero _)
        · constructor
          · intro z; exact (z v4).elim
          · rintro ⟨u, hu, _⟩; exact absurd hu (Nat.not_lt_zero _)
        · simp only [eH] at j4 j5
          exact tail 0 fuel3 A3 X3 j1 (hF2.trans j2) j4 j8 j5 (fun _ => qp) (fun j q1 q2 => by rw [j6 j q1 q2, k5 j q2]) j7
      · -- at the end of the text nothing is taken
        have hno : ∀ u, u < n → ¬ lab u p (p + 1) := fun u _ hl => by
          rcases hP u p (p + 1) hl with z | z
          · clear hD hM hD1 hM1; omega
          · exact qp z.2
        obtain ⟨g2, rfl⟩ : ∃ g2, fuel2 = g2 + 1 := ⟨fuel2 - 1, by clear hD hM hD1 hM1; omega⟩
        rw [lo_go107]
        unfold f_M_longest_107 f_M_longest_170
        have t173 : ∃ x A', f_M_longest_go g2 173 I A2 (upd X2 5 0) = some (x, I, A') ∧ HFr A A' ∧ BestOut R f x := by
          refine tail 0 g2 A2 (upd X2 5 0) (by clear hD hM hD1 hM1; omega) hF2 (fun v hv => ?_) z01 ?_ (fun z => ?_) (fun j q1 q2 => by rw [upd_ne _ _ q2, k5 j q2]) (upd_self _ _ _)
          · constructor
            · intro z; exact (z (k4 v hv)).elim
            · rintro ⟨u, hu, _, _, hl⟩; exact (hno u hu hl).elim
          · rw [upd_ne _ _ (by decide), v4]
            constructor
            · intro z; exact (z rfl).elim
            · rintro ⟨u, hu, _, hl⟩; exact (hno u hu hl).elim
          · rw [upd_ne _ _ (by decide), v4] at z; exact (z rfl).elim
        split
        · exact t173
        · rw [B_len (hF2.txt hM)]
          simp only [Option.bind_some]
          rw [v3, if_pos ((pn_le (by clear hD hM hD1 hM1; omega) (by clear hD hM hD1 hM1; omega)).mpr (by clear hD hM hD1 hM1; omega))]
          exact t173
    rw [lo_go42]
    unfold f_M_longest_42
    rw [if_neg x4, x3, eA]
    simp only [Option.bind_some]
    rw [i24, if_pos (pn_i160 (show ls < 160 by clear hD hM hD1 hM1; omega)), pn_nat (show ls < 2147483648 by clear hD hM hD1 hM1; omega), x1]
    unfold f_M_longest_73
    rcases hX with ⟨e, e2, _⟩ | ⟨hlt, hsf, _⟩
    · -- the first place
      have hs0 : SoFar R f p (X 2) := Or.inr ⟨e2, fun j h1 h2 => by clear hD hM hD1 hM1; omega⟩
      split
      · exact go81 _ hs0
      · rw [if_pos ((pn_le (by clear hD hM hD1 hM1; omega) (by clear hD hM hD1 hM1; omega)).mpr (by clear hD hM hD1 hM1; omega))]
        exact go81 _ hs0
    · have ep : p = p - 1 + 1 := by clear hD hM hD1 hM1; omega
      by_cases q : A1 32 ls = 0
      · rw [if_pos q]
        refine go81 _ ?_
        have hno : ¬ R f (p - 1 + 1) := fun z => by
          rw [← ep] at z
          exact inH_t.mp ((hlive ls hls).mpr ((hR p).mp z)) q
        have := hsf.no hno
        rw [← ep] at this; exact this
      · rw [if_neg q, if_neg (fun z => by have := (pn_le (a := p) (b := f) (by clear hD hM hD1 hM1; omega) (by clear hD hM hD1 hM1; omega)).mp z; clear hD hM hD1 hM1; omega)]
        refine go81 _ ?_
        have hyes : R f (p - 1 + 1) := by
          rw [← ep]
          exact (hR p).mpr ((hlive ls hls).mp (inH_t.mpr q))
        have := hsf.yes (by clear hD hM hD1 hM1; omega) hyes
        rw [← ep] at this; exact this
-- 58.look
theorem B_lo2 {I : MI} {n fs : Nat} (hn : I 17 = Int32.ofNat n) (hnb : n ≤ 160) (hfs : I 23 = Int32.ofNat fs) (hfn : fs < n) {Q : Option (Int32 × MI × MA) → Prop} {B : Nat} : ∀ (d k fuel : Nat) (A : MA) (X : Nat → Int32), n - k = d → k ≤ n → d + 1 + B ≤ fuel → X 2 = Int32.ofNat k → (∀ v, v < k → (A 32 v ≠ 0 ↔ v = fs)) →
    (∀ (fuel' : Nat) (A' : MA) (X' : Nat → Int32), B ≤ fuel' → HFr A A' → (∀ v, v < n → (A' 32 v ≠ 0 ↔ v = fs)) → X' 1 = X 1 → X' 2 = -1 → X' 3 = X 1 → X' 4 = 1 → Q (f_M_longest_go fuel' 42 I A' X')) → Q (f_M_longest_go fuel 2 I A X) := by
  have h10 : ¬ (1 : Int32) = 0 := by decide
  intro d
  induction d with
  | zero =>
    intro k fuel A X hd hk hf x2 hz hQ
    obtain ⟨g, rfl⟩ : ∃ g, fuel = g + 1 := ⟨fuel - 1, by omega⟩
    rw [lo_go2]
    unfold f_M_longest_2
    rw [hn, x2, if_pos ((pn_le (by omega) (by omega)).mpr (by omega))]
    exact hQ g A _ (by omega) (HFr.refl A) (fun v hv => hz v (by omega)) (by rw [upd_ne _ _ (by decide), upd_ne _ _ (by decide), upd_ne _ _ (by decide)]) (by rw [upd_ne _ _ (by decide), upd_ne _ _ (by decide), upd_self]) (by rw [upd_ne _ _ (by decide), upd_self]) (upd_self _ _ _)
  | succ d ih =>
    intro k fuel A X hd hk hf x2 hz hQ
    obtain ⟨g, rfl⟩ : ∃ g, fuel = g + 1 := ⟨fuel - 1, by omega⟩
    have f28 : ∀ b : Bool, (b = true ↔ k = fs) → Q (f_M_longest_28 (f_M_longest_go g) I A X (g_flag b) (Int32.ofNat k)) := by
      intro b hb
      unfold f_M_longest_28
      rw [if_pos (pn_i160 (show k < 160 by omega)), pn_nat (show k < 2147483648 by omega), nar_flag, x2, pn_succ]
      simp only [wk_let]
      refine ih (k + 1) g _ _ (by omega) (by omega) (by omega) (upd_self _ _ _) (fun v hv => ?_) (fun fuel' A' X' h1 h2 h3 h4 h5 h6 h7 => hQ fuel' A' X' h1 (fun j q1 q2 => by rw [h2 j q1 q2, va_up_ne _ _ q1]) h3 (by rw [h4, upd_ne _ _ (by decide)]) h5 (by rw [h6, upd_ne _ _ (by decide)]) h7)
      rw [va_up_self]
      by_cases e : v = k
      · rw [e, upd_self, g_flag_ne]; exact hb
      · rw [upd_ne _ _ e]; exact hz v (by omega)
    rw [lo_go2]
    unfold f_M_longest_2
    rw [hn, x2, if_neg (fun z => by have := (pn_le (a := n) (b := k) (by omega) (by omega)).mp z; omega), hfs]
    by_cases q : k = fs
    · rw [if_pos ((pn_eq (by omega) (by omega)).mpr q)]
      exact f28 true ⟨fun _ => q, fun _ => rfl⟩
    · rw [if_neg (fun z => q ((pn_eq (by omega) (by omega)).mp z))]
      exact f28 false ⟨fun z => (Bool.false_ne_true z).elim, fun z => (q z).elim⟩
theorem B_longest {tn : Nat} {tx : Nat → Int32} {I : MI} {A : MA} {R : Rl} {ps f : Nat} (h : RMean tn tx I A R) (hM : MTxt I A tn tx ps) (hf : f ≤ tn) : ∃ x A', f_M_longest I A (Int32.ofNat f) = some (x, I, A') ∧ HFr A A' ∧ BestOut R f x := by
  obtain ⟨s, n, on, tw, lab0, fs, ls, h0⟩ := h
  obtain ⟨lab, hD, hP⟩ := h0.clean
  have hnb := hD.hnb
  have ht := hM.t.nb
  have fu := wk_FUEL_big
  have hfs := hD.fr.hU
  have hb1 : (tn + 1 - f + 1) * (3 * n + 6) ≤ 162 * 486 := Nat.mul_le_mul (by clear h0 hD hM; omega) (by clear h0 hD hM; omega)
  unfold f_M_longest f_M_longest_e
  generalize wk_FUEL = F at fu ⊢
  refine B_lo2 hD.hn hnb hD.hfs hfs (Q := fun o => ∃ x A', o = some (x, I, A') ∧ HFr A A' ∧ BestOut R f x) (B := (tn + 1 - f + 1) * (3 * n + 6)) n 0 F A _ rfl (Nat.zero_le _) (by clear h0 hD hM; omega) (upd_self _ _ _) (fun v hv => absurd hv (Nat.not_lt_zero _)) (fun fuel' A' X' k1 k2 k3 k4 k5 k6 k7 => ?_)
  have x1 : X' 1 = Int32.ofNat f := by rw [k4, upd_ne _ _ (by decide), upd_self]
  have x3 : X' 3 = Int32.ofNat f := by rw [k6, upd_ne _ _ (by decide), upd_self]
  obtain ⟨x, A2, e1, e2, e3⟩ := B_lo42 (R := R) (s := s) hP hf (tn + 1 - f) f fuel' A' X' (k2.done hD) (k2.txt hM) (Nat.le_refl _) k1 (Nat.le_refl _) (by clear h0 hD hM; omega) x1 x3 (Or.inr ⟨by rw [k7]; decide, hf, Or.inl ⟨rfl, k5, fun v hv => by rw [inH_t]; exact k3 v hv⟩⟩)
  exact ⟨x, A2, e1, k2.trans e2, e3⟩
theorem lk_go (g : Nat) (I : MI) (A : MA) (X : Nat → Int32) : f_M_look_go (g + 1) 7 I A X = f_M_look_7 (f_M_look_go g) I A X := rfl
theorem RMean.frame {tn : Nat} {tx : Nat → Int32} {I I' : MI} {A A' : MA} {R : Rl} (h : RMean tn tx I A R) (i17 : I' 17 = I 17) (i23 : I' 23 = I 23) (i24 : I' 24 = I 24) (ha : ∀ j, 16 ≤ j → j ≤ 22 → A' j = A j) : RMean tn tx I' A' R := by
  obtain ⟨s, n, on, tw, lab, fs, ls, h⟩ := h
  exact ⟨s, n, on, tw, lab, fs, ls, h.frame i17 i23 i24 ha⟩
theorem RMean.top {tn : Nat} {tx : Nat → Int32} {I : MI} {A : MA} {R : Rl} (h : RMean tn tx I A R) {i j : Nat} (hi : i ≤ tn) (hr : R i j) : j ≤ tn := by
  obtain ⟨s, n, on, tw, lab0, fs, ls, h0⟩ := h
  obtain ⟨lab, h, hP⟩ := h0.clean
  exact ((h.fr.iff h.hid i j).mp hr).top hP hi
/-- what looking leaves: nothing but the two sets and what was found -/
def LkFr (I I' : MI) (A A' : MA) : Prop := (∀ j, j ≠ 34 → j ≠ 35 → I' j = I j) ∧ HFr A A'
def LkOut (R : Rl) (tn p : Nat) (I : MI) (A : MA) (o : Option (Int32 × MI × MA)) : Prop :=
  (∃ I' A', o = some (0, I', A') ∧ LkFr I I' A A' ∧ NotFound R tn p) ∨ (∃ I' A' a b, o = some (1, I', A') ∧ LkFr I I' A A' ∧ I' 34 = Int32.ofNat a ∧ I' 35 = Int32.ofNat b ∧ Found R tn p a b)
theorem B_look_go {tn : Nat} {tx : Nat → Int32} {R : Rl} {ps p : Nat} {I0 : MI} {A0 : MA} (h0 : RMean tn tx I0 A0 R) (hM0 : MTxt I0 A0 tn tx ps) : ∀ (m q fuel : Nat) (I : MI) (A : MA) (X : Nat → Int32), tn + 1 - q ≤ m → m + 2 ≤ fuel → p ≤ q → q ≤ tn + 1 → LkFr I0 I A0 A → I 35 = -1 → X 2 = Int32.ofNat q → (∀ z, p ≤ z → z < q → NoBest R z) →
    LkOut R tn p I0 A0 (f_M_look_go fuel 7 I A X) := by
  have ht := hM0.t.nb
  have hm1 : (-1 : Int32) < 0 := by decide
  have hm2 : ¬ (0 : Int32) ≤ -1 := by decide
  -- nothing was found
  have none_ : ∀ (rc : Nat → MI → MA → (Nat → Int32) → Option (Int32 × MI × MA)) (q : Nat) (I : MI) (A : MA) (X : Nat → Int32), tn < q → LkFr I0 I A0 A → I 35 = -1 → (∀ z, p ≤ z → z < q → NoBest R z) → LkOut R tn p I0 A0 (f_M_look_42 rc I A X) := by
    intro rc q I A X hq hF i35 hno
    unfold f_M_look_42 f_M_look_54
    rw [i35, if_pos hm1, if_pos nar_bool0]
    exact Or.inl ⟨I, A, rfl, hF, fun z h1 h2 => hno z h1 (by omega)⟩
  intro m
  induction m with
  | zero =>
    intro q fuel I A X hm hf hpq hqn hF i35 x2 hno
    obtain ⟨g, rfl⟩ : ∃ g, fuel = g + 1 := ⟨fuel - 1, by omega⟩
    have hM : MTxt I A tn tx ps := hM0.fr (hF.1 4 (by decide) (by decide)) (hF.2 5 (by decide) (by decide)) (hF.2 6 (by decide) (by decide))
    rw [lk_go]
    unfold f_M_look_7
    rw [B_len hM]
    simp only [Option.bind_some]
    rw [x2, if_pos ((pn_lt (by clear hM hM0; omega) (by clear hM hM0; omega)).mpr (by clear hM hM0; omega))]
    exact none_ _ q I A X (by clear hM hM0; omega) hF i35 hno
  | succ m ih =>
    intro q fuel I A X hm hf hpq hqn hF i35 x2 hno
    obtain ⟨g, rfl⟩ : ∃ g, fuel = g + 1 := ⟨fuel - 1, by omega⟩
    have hM : MTxt I A tn tx ps := hM0.fr (hF.1 4 (by decide) (by decide)) (hF.2 5 (by decide) (by decide)) (hF.2 6 (by decide) (by decide))
    rw [lk_go]
    unfold f_M_look_7
    rw [B_len hM]
    simp only [Option.bind_some]
    rw [x2]
    by_cases qn : tn < q
    · rw [if_pos ((pn_lt (by clear hM hM0; omega) (by clear hM hM0; omega)).mpr qn)]
      exact none_ _ q I A X qn hF i35 hno
    rw [if_neg (fun z => qn ((pn_lt (by clear hM hM0; omega) (by clear hM hM0; omega)).mp z)), i35, if_neg hm2]
    simp only [wk_let]
    obtain ⟨I1, hI1⟩ : ∃ I1, I1 = upd I 34 (Int32.ofNat q) := ⟨_, rfl⟩
    have hF1 : LkFr I0 I1 A0 A := ⟨fun j h1 h2 => by rw [hI1, upd_ne _ _ h1]; exact hF.1 j h1 h2, hF.2⟩
    have hM1 : MTxt I1 A tn tx ps := hM0.fr (hF1.1 4 (by decide) (by decide)) (hF1.2 5 (by decide) (by decide)) (hF1.2 6 (by decide) (by decide))
    have hR1 : RMean tn tx I1 A R := h0.frame (hF1.1 17 (by decide) (by decide)) (hF1.1 23 (by decide) (by decide)) (hF1.1 24 (by decide) (by decide)) (fun j _ hj => hF1.2 j (by omega) (by omega))
    rw [← hI1]
    obtain ⟨x, A2, e1, e2, e3⟩ := B_longest hR1 hM1 (show q ≤ tn by clear hM hM0 hM1; omega)
    rw [e1]
    simp only [Option.bind_some, pn_succ]
    obtain ⟨I2, hI2⟩ : ∃ I2, I2 = upd I1 35 x := ⟨_, rfl⟩
    have hF2 : LkFr I0 I2 A0 A2 := ⟨fun j h1 h2 => by rw [hI2, upd_ne _ _ h2]; exact hF1.1 j h1 h2, hF1.2.trans e2⟩
    rw [← hI2]
    rcases e3 with ⟨j, ex, hj, hb⟩ | ⟨ex, hb⟩
    · -- found
      right
      have hM2 : MTxt I2 A2 tn tx ps := hM0.fr (hF2.1 4 (by decide) (by decide)) (hF2.2 5 (by decide) (by decide)) (hF2.2 6 (by decide) (by decide))
      have i35' : I2 35 = Int32.ofNat j := by rw [hI2, upd_self]; exact ex
      have i34' : I2 34 = Int32.ofNat q := by rw [hI2, upd_ne _ _ (by decide), hI1, upd_self]
      have hjt : j ≤ tn := hR1.top (by clear hM hM0 hM1 hM2; omega) hb.2.1
      have hlt := hb.1
      obtain ⟨g2, rfl⟩ : ∃ g2, g = g2 + 1 := ⟨g - 1, by clear hM hM0 hM1 hM2; omega⟩
      have f42 : ∀ X' : Nat → Int32, f_M_look_42 (f_M_look_go g2) I2 A2 X' = some (1, I2, A2) := by
        intro X'
        unfold f_M_look_42 f_M_look_54
        rw [i35', if_neg (pn_nneg (by clear hM hM0 hM1 hM2; omega)), if_pos nar_bool1]
      refine ⟨I2, A2, q, j, ?_, hF2, i34', i35', hpq, by clear hM hM0 hM1 hM2; omega, hjt, hb, hno⟩
      rw [lk_go]
      unfold f_M_look_7
      rw [B_len hM2]
      simp only [Option.bind_some]
      split
      · exact f42 _
      · rw [i35', if_pos (pn_0le (by clear hM hM0 hM1 hM2; omega))]
        exact f42 _
    · refine ih (q + 1) g I2 A2 _ (by clear hM hM0 hM1; omega) (by clear hM hM0 hM1; omega) (by clear hM hM0 hM1; omega) (by clear hM hM0 hM1; omega) hF2 (by rw [hI2, upd_self]; exact ex) (upd_self _ _ _) (fun z h1 h2 => ?_)
      by_cases e : z = q
      · rw [e]; exact hb
      · exact hno z h1 (by clear hM hM0 hM1; omega)
theorem B_look {tn : Nat} {tx : Nat → Int32} {R : Rl} {ps p : Nat} {I : MI} {A : MA} (h : RMean tn tx I A R) (hM : MTxt I A tn tx ps) (hp : p ≤ tn) : LkOut R tn p I A (f_M_look I A (Int32.ofNat p)) := by
  have fu := wk_FUEL_big
  have ht := hM.t.nb
  unfold f_M_look f_M_look_e
  simp only [wk_let]
  generalize wk_FUEL = F at fu ⊢
  exact B_look_go h hM (tn + 1 - p) p F (upd I 35 (-1)) A _ (Nat.le_refl _) (by clear hM; omega) (Nat.le_refl _) (by clear hM; omega) ⟨fun j _ h2 => upd_ne _ _ h2, HFr.refl A⟩ (upd_self _ _ _) (upd_self _ _ _) (fun z h1 h2 => by clear hM; omega)

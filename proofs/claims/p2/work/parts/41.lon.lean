theorem tk_amt : ∀ c : Fin 128, ((((Int32.ofNat c.val) &&& 63)).toInt64.toUInt64 &&& Int64.toUInt64 63) = UInt64.ofNat (c.val % 64) := by decide +kernel
theorem lb_shift (x : Int64) {m : Nat} (hm : m < 64) : (lg_cmp ((x.toUInt64 >>> UInt64.ofNat m).toInt64 &&& 1) 0 = 0) ↔ lb x m = false := by
  rw [lg_zero]
  have key : ∀ j, lb ((x.toUInt64 >>> UInt64.ofNat m).toInt64 &&& 1) j = (lb x (m + j) && decide (j = 0)) := by
    intro j
    rw [lb_and]
    have h1 : lb 1 j = decide (j = 0) := by
      by_cases h : j < 64
      · have : ∀ j : Fin 64, lb 1 j.val = decide (j.val = 0) := by decide +kernel
        exact this ⟨j, h⟩
      · rw [lb_big _ (by omega)]; simp; omega
    rw [h1]
    congr 1
    unfold lb
    show (x.toUInt64 >>> (UInt64.ofNat m)).toBitVec.getLsbD j = _
    rw [UInt64.toBitVec_shiftRight]
    have e2 : ((UInt64.ofNat m).toBitVec % 64#64 : BitVec 64).toNat = m := by
      rw [BitVec.toNat_umod]
      have : (UInt64.ofNat m).toBitVec.toNat = m := by
        show (BitVec.ofNat 64 m).toNat = m
        rw [BitVec.toNat_ofNat]; exact Nat.mod_eq_of_lt (by omega)
      rw [this]; exact Nat.mod_eq_of_lt hm
    rw [BitVec.ushiftRight_eq', BitVec.getLsbD_ushiftRight]
    show x.toBitVec.getLsbD (((UInt64.ofNat m).toBitVec % 64#64 : BitVec 64).toNat + j) = _
    rw [e2]
  constructor
  · intro e
    have := key 0
    rw [e, lb_zero] at this
    simp at this
    exact this
  · intro e
    apply lb_ext
    intro j hj
    rw [key j, lb_zero]
    by_cases q : j = 0
    · subst q; rw [Nat.add_zero, e]; rfl
    · simp [q]
theorem nar_bool0 : vp_nar .boolean 0 = 0 := by decide
theorem nar_bool1 : vp_nar .boolean 1 = 1 := by decide
/-- does a consuming node take a character -/
theorem A_takes {M : MI} {MB : MA} {L : ML} {u c : Nat} (hu : u < 50) (hc : c < 128) : ∃ b, f_A_takes M MB L (Int32.ofNat u) (Int32.ofNat c) = some (b, M, MB, L) ∧ (b ≠ 0 ↔ c_takes (L 3 u) (L 4 u) (Int32.ofNat c)) := by
  have n1 : (Int32.ofNat u).toNatClampNeg = u := pn_nat (by omega)
  have n2 : (Int32.ofNat c).toNatClampNeg = c := pn_nat (by omega)
  have x2 : upd (upd (fun _ => (0 : Int32)) 1 (Int32.ofNat u)) 2 (Int32.ofNat c) 2 = Int32.ofNat c := upd_self _ _ _
  have ha := tk_amt ⟨c, hc⟩
  simp only at ha
  have h10 : ¬ (1 : Int32) = 0 := by decide
  have fin : ∀ s0 : Int64, ∃ b, f_A_takes_21 M MB L (upd (upd (fun _ => (0 : Int32)) 1 (Int32.ofNat u)) 2 (Int32.ofNat c)) (fun _ => 0) s0 = some (b, M, MB, L) ∧ (b ≠ 0 ↔ lb s0 (c % 64) = true) := by
    intro s0
    simp only [f_A_takes_21, x2, ha, f_A_takes_40]
    by_cases q : lb s0 (c % 64) = false
    · rw [if_pos ((lb_shift s0 (by omega)).mpr q), if_pos nar_bool0]
      refine ⟨0, rfl, ?_⟩
      rw [q]; simp
    · rw [if_neg (fun z => q ((lb_shift s0 (by omega)).mp z)), if_pos nar_bool1]
      refine ⟨1, rfl, fun _ => ?_, fun _ => h10⟩
      cases hz : lb s0 (c % 64) with
      | true => rfl
      | false => exact (q hz).elim
  simp only [f_A_takes, pn_i50 hu, if_true, n1]
  by_cases q : 64 ≤ c
  · rw [if_pos ((pn_cle (x := 64) 64 rfl (by omega) (by omega)).mpr q)]
    obtain ⟨b, e, hb⟩ := fin (L 4 u)
    refine ⟨b, e, ?_⟩
    rw [hb]
    unfold c_takes
    rw [n2, if_neg (by omega), show c % 64 = c - 64 by omega]
  · rw [if_neg (fun z => q ((pn_cle (x := 64) 64 rfl (by omega) (by omega)).mp z))]
    obtain ⟨b, e, hb⟩ := fin (L 3 u)
    refine ⟨b, e, ?_⟩
    rw [hb]
    unfold c_takes
    rw [n2, if_pos (by omega), show c % 64 = c by omega]
/-- what a node's character leads to -/
theorem CDone.step {tn : Nat} {tx : Nat → Int32} {M : MI} {MB : MA} {L : ML} {n : Nat} {nx ot : Nat → Option Nat} {lab : Nat → Rl} {cs ce : Nat} {R : Rl} (h : CDone tn tx M MB L n nx ot lab cs ce R) {p : Nat} (hp : p < tn) {u v : Nat} (hu : u < n) :
    (cF nx ot u v ∧ lab u p (p + 1)) ↔ (MB 0 u = 1 ∧ c_takes (L 3 u) (L 4 u) (tx p) ∧ nx u = some v) := by
  have hlab := h.hlab u hu
  by_cases q1 : MB 0 u = 1
  · have e : lab u = tl_con tn tx (c_takes (L 3 u) (L 4 u)) := by rw [hlab, q1]; rfl
    have hno : ot u = none := by
      cases ho : ot u with
      | none => rfl
      | some x => exact absurd (h.hof u hu (by rw [ho]; exact fun z => by cases z)) (by rw [q1]; decide)
    rw [e]
    constructor
    · rintro ⟨z | z, _, _, hc⟩
      · exact ⟨q1, hc, z⟩
      · rw [hno] at z; cases z
    · rintro ⟨_, hc, z⟩
      exact ⟨Or.inl z, rfl, hp, hc⟩
  · constructor
    · rintro ⟨_, z⟩
      exfalso
      rw [hlab] at z
      unfold cLab at z
      rw [if_neg q1] at z
      split at z
      · have : p = p + 1 := z; omega
      · split at z
        · have := z.1; omega
        · split at z
          · have := z.1; omega
          · exact z
    · rintro ⟨z, _⟩; exact (q1 z).elim
theorem A_consume_go {tn : Nat} {tx : Nat → Int32} {M : MI} {MB : MA} {L : ML} {n : Nat} {nx ot : Nat → Option Nat} {lab : Nat → Rl} {cs ce : Nat} {R : Rl} (h : CDone tn tx M MB L n nx ot lab cs ce R) {p : Nat} (hp : p < tn) {c : Nat} (hc : c < 128) (hcx : tx p = Int32.ofNat c) {x : Int64} (hx : ∀ v, lb x v = true → v < n) :
    ∀ (m t fuel : Nat) (X : Nat → Int32) (Y : Nat → Int64), n - t ≤ m → m < fuel → t ≤ n → X 3 = Int32.ofNat c → X 8 = Int32.ofNat t → (∀ v, lb (Y 6) v = true → lb x v = true) →
      (∀ v, lb (Y 4) v = true ↔ ∃ u, lb x u = true ∧ lb (Y 6) u = false ∧ cF nx ot u v ∧ lab u p (p + 1)) → cn (fun k => lb x k && !lb (Y 6) k) n = t →
      ∃ w, f_A_consume_go fuel 9 M MB L X Y = some (w, M, MB, L) ∧ ∀ v, (lb w v = true ↔ ∃ u, lb x u = true ∧ cF nx ot u v ∧ lab u p (p + 1)) := by
  have hnb := h.hnb
  intro m
  induction m with
  | zero =>
    intro t fuel X Y hm hf ht h3 h8 h6 h4 hcn
    obtain ⟨g, rfl⟩ : ∃ g, fuel = g + 1 := ⟨fuel - 1, by omega⟩
    have hall := cn_all _ n (by rw [hcn]; omega)
    simp only [f_A_consume_go, f_A_consume_9, if_true, h.hn, h8, f_A_consume_83]
    rw [if_pos ((pn_le (by omega) (by omega)).mpr (by omega))]
    refine ⟨Y 4, rfl, fun v => ?_⟩
    rw [h4 v]
    constructor
    · rintro ⟨u, a, _, b⟩; exact ⟨u, a, b⟩
    · rintro ⟨u, a, b⟩
      refine ⟨u, a, ?_, b⟩
      have := hall u (hx u a)
      cases hz : lb (Y 6) u with
      | false => rfl
      | true => rw [hz] at this; simp at this
  | succ m ih =>
    intro t fuel X Y hm hf ht h3 h8 h6 h4 hcn
    obtain ⟨g, rfl⟩ : ∃ g, fuel = g + 1 := ⟨fuel - 1, by omega⟩
    simp only [f_A_consume_go, f_A_consume_9, if_true, h.hn, h8, f_A_consume_83, h3]
    by_cases q : n ≤ t
    · have hall := cn_all _ n (by rw [hcn]; omega)
      rw [if_pos ((pn_le (by omega) (by omega)).mpr q)]
      refine ⟨Y 4, rfl, fun v => ?_⟩
      rw [h4 v]
      constructor
      · rintro ⟨u, a, _, b⟩; exact ⟨u, a, b⟩
      · rintro ⟨u, a, b⟩
        refine ⟨u, a, ?_, b⟩
        have := hall u (hx u a)
        cases hz : lb (Y 6) u with
        | false => rfl
        | true => rw [hz] at this; simp at this
    · rw [if_neg (fun z => q ((pn_le (by omega) (by omega)).mp z))]
      by_cases q0 : Y 6 = 0
      · rw [if_pos ((lg_zero _).mpr q0)]
        refine ⟨Y 4, rfl, fun v => ?_⟩
        rw [h4 v]
        constructor
        · rintro ⟨u, a, _, b⟩; exact ⟨u, a, b⟩
        · rintro ⟨u, a, b⟩; exact ⟨u, a, by rw [q0, lb_zero], b⟩
      · rw [if_neg (fun z => q0 ((lg_zero _).mp z))]
        obtain ⟨k, hk64, hk1, hk2, hk3⟩ := A_ntz q0
        have hkx := h6 k hk1
        have hkn := hx k hkx
        have n1 : (Int32.ofNat k).toNatClampNeg = k := pn_nat (by omega)
        rw [hk3]
        simp only [Option.bind_some, pn_i50 (show k < 50 by omega), if_true, n1]
        -- the next turn
        have next : ∀ (X' : Nat → Int32) (Y' : Nat → Int64), X' 3 = Int32.ofNat c → X' 8 = Int32.ofNat t → Y' 6 = (Y 6 &&& (Y 6 - 1)) → (∀ v, lb (Y' 4) v = true ↔ (lb (Y 4) v = true ∨ (cF nx ot k v ∧ lab k p (p + 1)))) →
            ∃ w, f_A_consume_77 (f_A_consume_go g) M MB L X' Y' = some (w, M, MB, L) ∧ ∀ v, (lb w v = true ↔ ∃ u, lb x u = true ∧ cF nx ot u v ∧ lab u p (p + 1)) := by
          intro X' Y' x3 x8 y6 y4
          unfold f_A_consume_77
          refine ih (t + 1) g _ _ (by omega) (by omega) (by omega) ?_ ?_ ?_ ?_ ?_
          · rw [upd_ne _ _ (by decide)]; exact x3
          · rw [upd_self, x8]; exact pn_succ _
          · intro v hv
            rw [y6, lb_drop hk1 hk2] at hv
            simp at hv
            exact h6 v hv.1
          · intro v
            rw [y4 v, h4 v]
            constructor
            · rintro (⟨u, a, b, d⟩ | d)
              · refine ⟨u, a, ?_, d⟩
                rw [y6, lb_drop hk1 hk2, b, Bool.false_and]
              · refine ⟨k, hkx, ?_, d⟩
                rw [y6, lb_drop hk1 hk2]; simp
            · rintro ⟨u, a, b, d⟩
              rw [y6, lb_drop hk1 hk2] at b
              by_cases e : u = k
              · rw [e] at d; exact Or.inr d
              · simp [e] at b; exact Or.inl ⟨u, a, b, d⟩
          · rw [← hcn]
            refine cn_one (k := k) n hkn (by rw [hk1, hkx]; rfl) ?_ (fun j hj => ?_)
            · rw [y6, lb_drop hk1 hk2, hkx]; simp
            · rw [y6, lb_drop hk1 hk2]; simp [hj]
        by_cases q1 : MB 0 k = 1
        · rw [if_pos q1]
          obtain ⟨b, eb, hb⟩ := A_takes (M := M) (MB := MB) (L := L) (show k < 50 by omega) hc
          rw [eb]
          simp only [Option.bind_some]
          by_cases qb : b = 0
          · rw [if_pos qb]
            refine next _ _ (by rw [upd_ne _ _ (by decide)]; exact h3) (by rw [upd_ne _ _ (by decide)]; exact h8) (vpl_self _ _ _) (fun v => ?_)
            rw [vpl_ne _ _ (by decide), h.step hp hkn]
            constructor
            · exact Or.inl
            · rintro (z | ⟨_, z, _⟩)
              · exact z
              · rw [hcx] at z; exact (hb.mpr z qb).elim
          · rw [if_neg qb]
            obtain ⟨w1, e1, b1⟩ := A_asSet hnb (h.hnx k hkn)
            rw [e1]
            simp only [Option.bind_some]
            refine next _ _ (by rw [upd_ne _ _ (by decide)]; exact h3) (by rw [upd_ne _ _ (by decide)]; exact h8) (vpl_self _ _ _) (fun v => ?_)
            rw [vpl_ne _ _ (by decide), vpl_self, lb_or, Bool.or_eq_true, b1, decide_eq_true_iff, h.step hp hkn, hcx]
            constructor
            · rintro (z | z)
              · exact Or.inl z
              · exact Or.inr ⟨q1, hb.mp qb, z⟩
            · rintro (z | ⟨_, _, z⟩)
              · exact Or.inl z
              · exact Or.inr z
        · rw [if_neg q1]
          refine next _ _ (by rw [upd_ne _ _ (by decide)]; exact h3) (by rw [upd_ne _ _ (by decide)]; exact h8) (vpl_self _ _ _) (fun v => ?_)
          rw [vpl_ne _ _ (by decide), h.step hp hkn]
          constructor
          · exact Or.inl
          · rintro (z | ⟨z, _⟩)
            · exact z
            · exact (q1 z).elim
theorem A_consume {tn : Nat} {tx : Nat → Int32} {M : MI} {MB : MA} {L : ML} {n : Nat} {nx ot : Nat → Option Nat} {lab : Nat → Rl} {cs ce : Nat} {R : Rl} (h : CDone tn tx M MB L n nx ot lab cs ce R) {p : Nat} (hp : p < tn) {c : Nat} (hc : c < 128) (hcx : tx p = Int32.ofNat c) {x : Int64} (hx : ∀ v, lb x v = true → v < n) :
    ∃ w, f_A_consume M MB L x (Int32.ofNat c) = some (w, M, MB, L) ∧ ∀ v, (lb w v = true ↔ ∃ u, lb x u = true ∧ cF nx ot u v ∧ lab u p (p + 1)) := by
  have hnb := h.hnb
  have fu := wk_FUEL_big
  unfold f_A_consume f_A_consume_e
  refine A_consume_go h hp hc hcx hx n 0 wk_FUEL _ _ (by omega) (by omega) (by omega) ?_ ?_ ?_ ?_ ?_
  · rw [upd_ne _ _ (by decide), upd_self]
  · exact upd_self _ _ _
  · intro v hv; rw [vpl_self] at hv; exact hv
  · intro v
    rw [vpl_ne _ _ (by decide), vpl_self, lb_zero, vpl_self]
    constructor
    · intro z; cases z
    · rintro ⟨u, a, b, _⟩; rw [a] at b; cases b
  · rw [vpl_self, ← cn_zero n]; exact cn_congr n (fun k _ => by cases lb x k <;> rfl)
def ProgT (tn : Nat) (lab : Nat → Rl) : Prop := ∀ u i j, lab u i j → j = i ∨ (j = i + 1 ∧ i < tn)
theorem ProgT.prog {tn : Nat} {lab : Nat → Rl} (h : ProgT tn lab) : Prog lab := fun u i j hl => (h u i j hl).elim Or.inl (fun z => Or.inr z.1)
theorem Pa.top {e : Nat → Nat → Prop} {lab : Nat → Rl} {tn : Nat} (hP : ProgT tn lab) {u i v j : Nat} (h : Pa e lab u i v j) : i ≤ tn → j ≤ tn := by
  induction h using Pa.ind with
  | nil => exact id
  | cons _ b _ ih => intro hi; rcases hP _ _ _ b with z | z
                     · exact ih (by omega)
                     · exact ih (by omega)
theorem cLab_progT (tn : Nat) (tx : Nat → Int32) (k : Int32) (lo hi : Int64) : ∀ i j, cLab tn tx k lo hi i j → j = i ∨ (j = i + 1 ∧ i < tn) := by
  intro i j h
  unfold cLab at h
  split at h
  · exact Or.inl h.symm
  · split at h
    · exact Or.inr ⟨h.1, h.2.1⟩
    · split at h
      · exact Or.inl h.1.symm
      · split at h
        · exact Or.inl h.1.symm
        · exact h.elim
/-- no label where there is no node -/
theorem CDone.clean {tn : Nat} {tx : Nat → Int32} {M : MI} {MB : MA} {L : ML} {n : Nat} {nx ot : Nat → Option Nat} {lab : Nat → Rl} {cs ce : Nat} {R : Rl} (h : CDone tn tx M MB L n nx ot lab cs ce R) : ∃ lab', CDone tn tx M MB L n nx ot lab' cs ce R ∧ ProgT tn lab' := by
  refine ⟨fun u => if u < n then lab u else rl_no, ⟨h.hn, h.hnb, h.hnx, h.hot, fun u hu => ?_, h.hcs, h.hce, h.fr.congr (fun _ => Iff.rfl) (fun _ _ _ => Iff.rfl) (fun u hu => ?_), ?_, h.hof⟩, fun u i j hl => ?_⟩
  · show (if u < n then lab u else rl_no) = _
    rw [if_pos hu]; exact h.hlab u hu
  · show _ = if u < n then lab u else rl_no
    rw [if_pos hu]
  · show (if ce < n then lab ce else rl_no) = _
    rw [if_pos h.fr.tU]; exact h.hid
  · simp only at hl
    by_cases q : u < n
    · rw [if_pos q, h.hlab u q] at hl; exact cLab_progT _ _ _ _ _ i j hl
    · rw [if_neg q] at hl; exact hl.elim
def SoFar (R : Rl) (f i : Nat) (x : Int32) : Prop := (∃ j, x = Int32.ofNat j ∧ f < j ∧ j ≤ i ∧ R f j ∧ ∀ j', j' ≤ i → R f j' → j' ≤ j) ∨ (x = -1 ∧ ∀ j, f < j → j ≤ i → ¬ R f j)
theorem SoFar.best {R : Rl} {f i : Nat} {x : Int32} (h : SoFar R f i x) (hi : i ≤ 160) (hR : ∀ j, R f j → j ≤ i) : BestOut R f x := by
  rcases h with ⟨j, e, h1, h2, h3, h4⟩ | ⟨e, h⟩
  · exact Or.inl ⟨j, e, by omega, h1, h3, fun j' hj' => h4 j' (hR j' hj') hj'⟩
  · exact Or.inr ⟨e, fun j hj hr => h j hj (hR j hr) hr⟩
theorem SoFar.yes {R : Rl} {f i : Nat} {x : Int32} (h : SoFar R f i x) (hf : f ≤ i) (hr : R f (i + 1)) : SoFar R f (i + 1) (Int32.ofNat (i + 1)) := Or.inl ⟨i + 1, rfl, by omega, Nat.le_refl _, hr, fun j' hj' _ => hj'⟩
theorem SoFar.no {R : Rl} {f i : Nat} {x : Int32} (h : SoFar R f i x) (hr : ¬ R f (i + 1)) : SoFar R f (i + 1) x := by
  rcases h with ⟨j, e, h1, h2, h3, h4⟩ | ⟨e, h⟩
  · refine Or.inl ⟨j, e, h1, by omega, h3, fun j' hj' hr' => ?_⟩
    by_cases q : j' = i + 1
    · rw [q] at hr'; exact (hr hr').elim
    · exact h4 j' (by omega) hr'
  · refine Or.inr ⟨e, fun j hj hj' hr' => ?_⟩
    by_cases q : j = i + 1
    · rw [q] at hr'; exact (hr hr').elim
    · exact h j hj (by omega) hr'
/-- what no longer lives leads nowhere -/
theorem Pa.dead {e : Nat → Nat → Prop} {lab : Nat → Rl} (hP : Prog lab) {h f i : Nat} (hf : f ≤ i) (hd : ∀ v, ¬ Pa e lab h f v i) : ∀ j, i ≤ j → ∀ v, ¬ Pa e lab h f v j := by
  intro j hj
  induction j with
  | zero => have e0 : i = 0 := by omega
            rw [e0] at hd; exact hd
  | succ j ih =>
    by_cases q : i = j + 1
    · rw [← q]; exact hd
    · intro v p
      obtain ⟨w, ⟨a, p1, _⟩, _⟩ := (Pa.next hP (by omega)).mp p
      exact ih (by omega) a p1
theorem A_longest_go {tn : Nat} {tx : Nat → Int32} (hT : Txt tn tx) {M : MI} {MB : MA} {L : ML} {n : Nat} {nx ot : Nat → Option Nat} {lab : Nat → Rl} {cs ce : Nat} {R : Rl} (h : CDone tn tx M MB L n nx ot lab cs ce R) (hP : ProgT tn lab) {f : Nat} (hfn : f ≤ tn) :
    ∀ (m i fuel : Nat) (X : Nat → Int32) (Y : Nat → Int64), tn - i ≤ m → m < fuel → f ≤ i → i ≤ tn → X 6 = Int32.ofNat i → (∀ v, lb (Y 4) v = true ↔ Pa (cF nx ot) lab cs f v i) → SoFar R f i (X 3) →
      ∃ x, f_A_longestFit_go tn tx fuel 19 M MB L X Y = some (x, M, MB, L) ∧ BestOut R f x := by
  have hnb := h.hnb
  have htb := hT.nb
  have hR : ∀ j, R f j ↔ Pa (cF nx ot) lab cs f ce j := fun j => h.fr.iff h.hid f j
  have hcen := h.fr.tU
  intro m
  induction m with
  | zero =>
    intro i fuel X Y hm hf hfi hin h6 h4 h3
    obtain ⟨g, rfl⟩ : ∃ g, fuel = g + 1 := ⟨fuel - 1, by omega⟩
    simp only [f_A_longestFit_go, f_A_longestFit_19, if_true, h6, f_A_longestFit_79]
    rw [if_pos ((pn_le (by omega) (by omega)).mpr (by omega))]
    exact ⟨X 3, rfl, h3.best (by omega) (fun j hj => by have := ((hR j).mp hj).top hP hfn; omega)⟩
  | succ m ih =>
    intro i fuel X Y hm hf hfi hin h6 h4 h3
    obtain ⟨g, rfl⟩ : ∃ g, fuel = g + 1 := ⟨fuel - 1, by omega⟩
    simp only [f_A_longestFit_go, f_A_longestFit_19, if_true, h6, f_A_longestFit_79]
    by_cases q : tn ≤ i
    · rw [if_pos ((pn_le (by omega) (by omega)).mpr q)]
      exact ⟨X 3, rfl, h3.best (by omega) (fun j hj => by have := ((hR j).mp hj).top hP hfn; omega)⟩
    · rw [if_neg (fun z => q ((pn_le (by omega) (by omega)).mp z))]
      by_cases q0 : Y 4 = 0
      · rw [if_pos ((lg_zero _).mpr q0)]
        refine ⟨X 3, rfl, h3.best (by omega) (fun j hj => ?_)⟩
        have hd : ∀ v, ¬ Pa (cF nx ot) lab cs f v i := fun v p => by have := (h4 v).mpr p; rw [q0, lb_zero] at this; cases this
        by_cases z : j ≤ i
        · exact z
        · exact (Pa.dead hP.prog hfi hd j (by omega) ce ((hR j).mp hj)).elim
      · rw [if_neg (fun z => q0 ((lg_zero _).mp z)), if_pos ((pn_inb (by omega)).mpr (by omega)), pn_nat (show i < 2147483648 by omega)]
        obtain ⟨c, hc, hcx⟩ := hT.ch i (by omega)
        have hlive : ∀ v, lb (Y 4) v = true → v < n := fun v hv => by
          have hp := (h4 v).mp hv
          have : ∀ u i w j, Pa (cF nx ot) lab u i w j → u < n → w < n := by
            intro u i w j p
            induction p using Pa.ind with
            | nil => exact id
            | cons a _ _ ih => exact fun hu => ih (h.fr.cl _ _ hu a)
          exact this _ _ _ _ hp h.fr.hU
        obtain ⟨w1, e1, b1⟩ := A_consume h (by omega) hc hcx hlive
        have hw1 : ∀ v, lb w1 v = true → v < n := fun v hv => by
          obtain ⟨u, hu, he, _⟩ := (b1 v).mp hv
          exact h.fr.cl u v (hlive u hu) he
        obtain ⟨w2, e2, b2⟩ := A_spread hT h hP.prog (p := i + 1) (by omega) hw1
        rw [hcx, e1]
        simp only [Option.bind_some, pn_succ]
        rw [e2]
        simp only [Option.bind_some, h.hce]
        have hl2 : ∀ v, lb w2 v = true ↔ Pa (cF nx ot) lab cs f v (i + 1) := by
          intro v
          rw [b2 v, Pa.next hP.prog hfi]
          constructor
          · rintro ⟨w, hw, hp⟩
            obtain ⟨u, hu, he, hl⟩ := (b1 w).mp hw
            exact ⟨w, ⟨u, (h4 u).mp hu, he, hl⟩, hp⟩
          · rintro ⟨w, ⟨u, hu, he, hl⟩, hp⟩
            exact ⟨w, (b1 w).mpr ⟨u, (h4 u).mpr hu, he, hl⟩, hp⟩
        have hgoal : (lg_cmp (w2 &&& ((1 : Int64) <<< ((Int32.ofNat ce).toInt64 &&& 63))) 0 = 0) ↔ ¬ R f (i + 1) := by
          rw [lg_zero, hR, ← hl2]
          constructor
          · intro e hb
            have : lb (w2 &&& ((1 : Int64) <<< ((Int32.ofNat ce).toInt64 &&& 63))) ce = true := by
              rw [lb_and, hb, lb_one (by omega)]; simp
            rw [e, lb_zero] at this; cases this
          · intro hb
            apply lb_ext
            intro k hk
            rw [lb_and, lb_one (by omega), lb_zero]
            by_cases e : k = ce
            · subst e
              cases hz : lb w2 k with
              | false => rfl
              | true => exact (hb hz).elim
            · simp [e]
        unfold f_A_longestFit_73
        by_cases qr : R f (i + 1)
        · rw [if_neg (fun z => hgoal.mp z qr)]
          refine ih (i + 1) g _ _ (by omega) (by omega) (by omega) (by omega) ?_ ?_ ?_
          · rw [upd_self, upd_ne _ _ (by decide), h6]; exact pn_succ _
          · intro v; rw [vpl_self]; exact hl2 v
          · rw [upd_ne _ _ (by decide), upd_self]; exact h3.yes hfi qr
        · rw [if_pos (hgoal.mpr qr)]
          refine ih (i + 1) g _ _ (by omega) (by omega) (by omega) (by omega) ?_ ?_ ?_
          · rw [upd_self, h6]; exact pn_succ _
          · intro v; rw [vpl_self]; exact hl2 v
          · rw [upd_ne _ _ (by decide)]; exact h3.no qr
theorem A_longestFit {tn : Nat} {tx : Nat → Int32} (hT : Txt tn tx) {M : MI} {MB : MA} {L : ML} {R : Rl} (h : CMean tn tx M MB L R) {f : Nat} (hfn : f ≤ tn) : ∃ x, f_A_longestFit tn tx M MB L (Int32.ofNat f) = some (x, M, MB, L) ∧ BestOut R f x := by
  obtain ⟨n, nx, ot, lab0, cs, ce, h0⟩ := h
  obtain ⟨lab, h, hP⟩ := h0.clean
  have hnb := h.hnb
  have htb := hT.nb
  have fu := wk_FUEL_big
  have hcs := h.fr.hU
  obtain ⟨w, e, b⟩ := A_spread hT h hP.prog hfn (x := (1 : Int64) <<< ((Int32.ofNat cs).toInt64 &&& 63)) (fun v hv => by
    rw [lb_one (by omega)] at hv
    rw [of_decide_eq_true hv]; exact hcs)
  unfold f_A_longestFit f_A_longestFit_e
  rw [h.hcs, e]
  simp only [Option.bind_some]
  refine A_longest_go hT h hP hfn (tn - f) f wk_FUEL _ _ (Nat.le_refl _) (by omega) (Nat.le_refl _) hfn (upd_self _ _ _) (fun v => ?_) ?_
  · rw [vpl_self, b v]
    constructor
    · rintro ⟨u, hu, hp⟩
      rw [lb_one (by omega)] at hu
      rw [of_decide_eq_true hu] at hp; exact hp
    · intro hp
      refine ⟨cs, ?_, hp⟩
      rw [lb_one (by omega)]; simp
  · rw [upd_ne _ _ (by decide), upd_self]
    exact Or.inr ⟨rfl, fun j h1 h2 => by omega⟩
/-- the first match from a place on -/
def Found (R : Rl) (tn p a b : Nat) : Prop := p ≤ a ∧ a < tn ∧ b ≤ tn ∧ IsBest R a b ∧ ∀ q, p ≤ q → q < a → NoBest R q
def NotFound (R : Rl) (tn p : Nat) : Prop := ∀ q, p ≤ q → q < tn → NoBest R q
theorem A_seek_go {tn : Nat} {tx : Nat → Int32} (hT : Txt tn tx) {M : MI} {MB : MA} {L : ML} {R : Rl} (h : CMean tn tx M MB L R) {p : Nat} :
    ∀ (m i fuel : Nat) (X : Nat → Int32) (Y : Nat → Int64), tn - i ≤ m → m < fuel → p ≤ i → i ≤ tn → X 3 = Int32.ofNat i → (∀ q, p ≤ q → q < i → NoBest R q) →
      (f_A_seek_go tn tx fuel 2 M MB L X Y = some (0, M, MB, L) ∧ NotFound R tn p) ∨ (∃ a b, f_A_seek_go tn tx fuel 2 M MB L X Y = some (1, upd (upd M 8 (Int32.ofNat a)) 9 (Int32.ofNat b), MB, L) ∧ p ≤ a ∧ IsBest R a b ∧ a < tn ∧ b ≤ 160 ∧ ∀ q, p ≤ q → q < a → NoBest R q) := by
  have htb := hT.nb
  intro m
  induction m with
  | zero =>
    intro i fuel X Y hm hf hpi hin h3 hno
    obtain ⟨g, rfl⟩ : ∃ g, fuel = g + 1 := ⟨fuel - 1, by omega⟩
    left
    simp only [f_A_seek_go, f_A_seek_2, if_true, h3]
    rw [if_pos ((pn_le (by omega) (by omega)).mpr (by omega))]
    exact ⟨rfl, fun q h1 h2 => hno q h1 (by omega)⟩
  | succ m ih =>
    intro i fuel X Y hm hf hpi hin h3 hno
    obtain ⟨g, rfl⟩ : ∃ g, fuel = g + 1 := ⟨fuel - 1, by omega⟩
    simp only [f_A_seek_go, f_A_seek_2, if_true, h3]
    by_cases q : tn ≤ i
    · left
      rw [if_pos ((pn_le (by omega) (by omega)).mpr q)]
      exact ⟨rfl, fun q h1 h2 => hno q h1 (by omega)⟩
    · rw [if_neg (fun z => q ((pn_le (by omega) (by omega)).mp z))]
      obtain ⟨x, e, hx⟩ := A_longestFit hT h hin
      rw [e]
      simp only [Option.bind_some]
      rcases hx with ⟨j, ex, hj, hb⟩ | ⟨ex, hb⟩
      · right
        rw [if_neg (by rw [ex]; exact pn_ne1 (by omega)), ex]
        exact ⟨i, j, rfl, hpi, hb, by omega, hj, hno⟩
      · rw [if_pos ex]
        refine ih (i + 1) g _ Y (by omega) (by omega) (by omega) (by omega) ?_ ?_
        · rw [upd_self]; exact pn_succ _
        · intro q' h1 h2
          by_cases z : q' = i
          · rw [z]; exact hb
          · exact hno q' h1 (by omega)
theorem CMean.top {tn : Nat} {tx : Nat → Int32} {M : MI} {MB : MA} {L : ML} {R : Rl} (h : CMean tn tx M MB L R) {i j : Nat} (hi : i ≤ tn) (hr : R i j) : j ≤ tn := by
  obtain ⟨n, nx, ot, lab0, cs, ce, h0⟩ := h
  obtain ⟨lab, h, hP⟩ := h0.clean
  exact ((h.fr.iff h.hid i j).mp hr).top hP hi
theorem A_seek {tn : Nat} {tx : Nat → Int32} (hT : Txt tn tx) {M : MI} {MB : MA} {L : ML} {R : Rl} (h : CMean tn tx M MB L R) {p : Nat} (hp : p ≤ tn) :
    (f_A_seek tn tx M MB L (Int32.ofNat p) = some (0, M, MB, L) ∧ NotFound R tn p) ∨ (∃ a b, f_A_seek tn tx M MB L (Int32.ofNat p) = some (1, upd (upd M 8 (Int32.ofNat a)) 9 (Int32.ofNat b), MB, L) ∧ Found R tn p a b) := by
  have htb := hT.nb
  have fu := wk_FUEL_big
  unfold f_A_seek f_A_seek_e
  rcases A_seek_go hT h (p := p) (tn - p) p wk_FUEL (upd (upd (fun _ => 0) 2 (Int32.ofNat p)) 3 (Int32.ofNat p)) (fun _ => 0) (Nat.le_refl _) (by omega) (Nat.le_refl _) hp (upd_self _ _ _) (fun q h1 h2 => by omega) with z | ⟨a, b, e, h1, h2, h3, h4, h5⟩
  · exact Or.inl z
  · exact Or.inr ⟨a, b, e, h1, h3, h.top (by omega) h2.2.1, h2, h5⟩
/-- the automaton does not speak of where it found the last match -/
theorem CMean.found {tn : Nat} {tx : Nat → Int32} {M : MI} {MB : MA} {L : ML} {R : Rl} (h : CMean tn tx M MB L R) (a b : Int32) : CMean tn tx (upd (upd M 8 a) 9 b) MB L R := by
  obtain ⟨n, nx, ot, lab, cs, ce, h⟩ := h
  refine ⟨n, nx, ot, lab, cs, ce, ?_, h.hnb, h.hnx, h.hot, h.hlab, ?_, ?_, h.fr, h.hid, h.hof⟩
  · rw [upd_ne _ _ (by decide), upd_ne _ _ (by decide)]; exact h.hn
  · rw [upd_ne _ _ (by decide), upd_ne _ _ (by decide)]; exact h.hcs
  · rw [upd_ne _ _ (by decide), upd_ne _ _ (by decide)]; exact h.hce

/-- from the place p on, with what lives there -/
theorem B_lo42 {tn : Nat} {tx : Nat → Int32} {I : MI} {s : Nat → Nat} {n : Nat} {on tw : Nat → Option Nat} {lab : Nat → Rl} {fs ls : Nat} {R : Rl} {ps f : Nat} (hP : ProgT tn lab) (hf : f ≤ tn) : ∀ (m p fuel : Nat) (A : MA) (X : Nat → Int32), RDone tn tx I A s n on tw lab fs ls R → MTxt I A tn tx ps → tn + 1 - p ≤ m → (m + 1) * (3 * n + 6) ≤ fuel → f ≤ p → p ≤ tn + 1 → X 1 = Int32.ofNat f → X 3 = Int32.ofNat p →
    ((X 4 = 0 ∧ BestOut R f (X 2)) ∨ (X 4 ≠ 0 ∧ p ≤ tn ∧ ((p = f ∧ X 2 = -1 ∧ ∀ v, v < n → (inH A v = true ↔ v = fs)) ∨ (f < p ∧ SoFar R f (p - 1) (X 2) ∧ ∀ v, v < n → (inH A v = true ↔ ∃ a, Pa (cF on tw) lab fs f a (p - 1) ∧ cF on tw a v ∧ lab a (p - 1) p))))) →
    ∃ x A', f_M_longest_go fuel 42 I A X = some (x, I, A') ∧ HFr A A' ∧ BestOut R f x := by
  intro m
  induction m with
  | zero =>
    intro p fuel A X hD hM hm hfu hfp hpn x1 x3 hX
    obtain ⟨g, rfl⟩ : ∃ g, fuel = g + 1 := ⟨fuel - 1, by clear hD hM; omega⟩
    rcases hX with ⟨x4, hb⟩ | ⟨_, hp, _⟩
    · rw [lo_go42]
      unfold f_M_longest_42
      rw [if_pos x4]
      exact ⟨_, A, rfl, HFr.refl A, hb⟩
    · clear hD hM; omega
  | succ m ih =>
    intro p fuel A X hD hM hm hfu hfp hpn x1 x3 hX
    have hmul : (m + 1 + 1) * (3 * n + 6) = (m + 1) * (3 * n + 6) + (3 * n + 6) := by rw [Nat.succ_mul]
    obtain ⟨g, rfl⟩ : ∃ g, fuel = g + 1 := ⟨fuel - 1, by clear hD hM; omega⟩
    rcases hX with ⟨x4, hb⟩ | ⟨x4, hp, hX⟩
    · rw [lo_go42]
      unfold f_M_longest_42
      rw [if_pos x4]
      exact ⟨_, A, rfl, HFr.refl A, hb⟩
    have hnb := hD.hnb
    have ht := hM.t.nb
    have hls := hD.fr.tU
    have hfs := hD.fr.hU
    have hR : ∀ j, R f j ↔ Pa (cF on tw) lab fs f ls j := fun j => hD.fr.iff hD.hid f j
    have hstay : ∀ u i w j, Pa (cF on tw) lab u i w j → u < n → w < n := by
      intro u i w j pp
      induction pp using Pa.ind with
      | nil => exact id
      | cons a _ _ ih => exact fun hu => ih (hD.fr.cl _ _ hu a)
    obtain ⟨A1, eA, hF0, hA1⟩ := B_spread hD hP.prog hM hp
    have hF1 : HFr A A1 := fun j h1 _ => hF0 j h1
    have hlive : ∀ v, v < n → (inH A1 v = true ↔ Pa (cF on tw) lab fs f v p) := by
      intro v hv
      rw [hA1 v hv]
      rcases hX with ⟨e, _, hH⟩ | ⟨hlt, _, hH⟩
      · constructor
        · rintro ⟨u, hu, hHu, hpa⟩
          rw [(hH u hu).mp hHu] at hpa
          rw [← e]; rw [e] at hpa; rw [e]; exact hpa
        · intro hpa
          refine ⟨fs, hfs, (hH fs hfs).mpr rfl, ?_⟩
          rw [← e] at hpa; exact hpa
      · have ep : p = p - 1 + 1 := by clear hD hM; omega
        constructor
        · rintro ⟨u, hu, hHu, hpa⟩
          obtain ⟨a, ha1, ha2, ha3⟩ := (hH u hu).mp hHu
          exact (ha1.snoc ha2 ha3).trans hpa
        · intro hpa
          rw [ep] at hpa
          obtain ⟨w, ⟨a, q1, q2, q3⟩, q4⟩ := (Pa.next hP.prog (by clear hD hM; omega)).mp hpa
          rw [← ep] at q3 q4
          have han := hstay _ _ _ _ q1 hfs
          have hwn := hD.fr.cl a w han q2
          exact ⟨w, hwn, (hH w hwn).mpr ⟨a, q1, q2, q3⟩, q4⟩
    have hD1 := hF1.done hD
    have hM1 := hF1.txt hM
    have i24 : I 24 = Int32.ofNat ls := hD.hls
    -- behind the best
    have go81 : ∀ x2 : Int32, SoFar R f p x2 → ∃ x A', f_M_longest_74 (f_M_longest_go g) I A1 X x2 = some (x, I, A') ∧ HFr A A' ∧ BestOut R f x := by
      intro x2 hsf
      unfold f_M_longest_74
      obtain ⟨X1, hX1⟩ : ∃ X1, X1 = upd (upd (upd X 2 x2) 4 0) 5 0 := ⟨_, rfl⟩
      have u1 : X1 1 = Int32.ofNat f := by rw [hX1, upd_ne _ _ (by decide), upd_ne _ _ (by decide), upd_ne _ _ (by decide)]; exact x1
      have u2 : X1 2 = x2 := by rw [hX1, upd_ne _ _ (by decide), upd_ne _ _ (by decide), upd_self]
      have u3 : X1 3 = Int32.ofNat p := by rw [hX1, upd_ne _ _ (by decide), upd_ne _ _ (by decide), upd_ne _ _ (by decide)]; exact x3
      have u4 : X1 4 = 0 := by rw [hX1, upd_ne _ _ (by decide), upd_self]
      have u5 : X1 5 = Int32.ofNat 0 := by rw [hX1]; exact upd_self _ _ _
      rw [← hX1]
      -- the end of the round: the new set, and on
      have tail : ∀ (B : Nat) (fuel' : Nat) (A2 : MA) (X2 : Nat → Int32), n + 1 + (m + 1) * (3 * n + 6) ≤ fuel' → HFr A A2 → (∀ v, v < n → (A2 33 v ≠ 0 ↔ ∃ u, u < n ∧ inH A1 u = true ∧ cF on tw u v ∧ lab u p (p + 1))) → (∀ v, v < n → A2 33 v = 0 ∨ A2 33 v = 1) → (X2 4 ≠ 0 ↔ ∃ u, u < n ∧ inH A1 u = true ∧ lab u p (p + 1)) → (X2 4 ≠ 0 → p < tn) → (∀ j, j ≠ 4 → j ≠ 5 → X2 j = X1 j) → X2 5 = 0 → ∃ x A', f_M_longest_go fuel' 173 I A2 X2 = some (x, I, A') ∧ HFr A A' ∧ BestOut R f x := by
        intro _ fuel' A2 X2 hfl hF2 h33 h01 h4 h4p ho h5
        refine B_lo173 hD.hn hnb (Q := fun o => ∃ x A', o = some (x, I, A') ∧ HFr A A' ∧ BestOut R f x) (B := (m + 1) * (3 * n + 6)) n 0 fuel' A2 X2 rfl (Nat.zero_le _) hfl h5 h01 (fun v hv => absurd hv (Nat.not_lt_zero _)) (fun fuel3 A3 X3 k1 k2 k3 k4 k5 => ?_)
        have w3 : X3 3 = Int32.ofNat (p + 1) := by rw [k5, ho 3 (by decide) (by decide), u3]; exact pn_succ _
        have w1 : X3 1 = Int32.ofNat f := by rw [k4 1 (by decide) (by decide), ho 1 (by decide) (by decide)]; exact u1
        have w2 : X3 2 = x2 := by rw [k4 2 (by decide) (by decide), ho 2 (by decide) (by decide)]; exact u2
        have w4 : X3 4 = X2 4 := k4 4 (by decide) (by decide)
        have hF3 := hF2.trans k2
        have hnext : (X3 4 = 0 ∧ BestOut R f (X3 2)) ∨ (X3 4 ≠ 0 ∧ p + 1 ≤ tn ∧ ((p + 1 = f ∧ X3 2 = -1 ∧ ∀ v, v < n → (inH A3 v = true ↔ v = fs)) ∨ (f < p + 1 ∧ SoFar R f (p + 1 - 1) (X3 2) ∧ ∀ v, v < n → (inH A3 v = true ↔ ∃ a, Pa (cF on tw) lab fs f a (p + 1 - 1) ∧ cF on tw a v ∧ lab a (p + 1 - 1) (p + 1))))) := by
          by_cases q4 : X2 4 = 0
          · left
            refine ⟨by rw [w4]; exact q4, ?_⟩
            rw [w2]
            refine hsf.best (by clear hD hM hD1 hM1; omega) (fun j hj => ?_)
            have hdead : ∀ v, ¬ Pa (cF on tw) lab fs f v (p + 1) := by
              intro v hv
              obtain ⟨w, ⟨a, q1, q2, q3⟩, _⟩ := (Pa.next hP.prog hfp).mp hv
              have han := hstay _ _ _ _ q1 hfs
              exact h4.mpr ⟨a, han, (hlive a han).mpr q1, q3⟩ q4
            by_cases z : j ≤ p
            · exact z
            · exact (Pa.dead hP.prog (by clear hD hM hD1 hM1; omega) hdead j (by clear hD hM hD1 hM1; omega) ls ((hR j).mp hj)).elim
          · right
            refine ⟨by rw [w4]; exact q4, h4p q4, Or.inr ⟨by clear hD hM hD1 hM1; omega, ?_, fun v hv => ?_⟩⟩
            · rw [w2, Nat.add_sub_cancel]; exact hsf
            · rw [inH_t, k3 v hv, h33 v hv, Nat.add_sub_cancel]
              constructor
              · rintro ⟨u, hu, hHu, q2, q3⟩; exact ⟨u, (hlive u hu).mp hHu, q2, q3⟩
              · rintro ⟨a, q1, q2, q3⟩
                have han := hstay _ _ _ _ q1 hfs
                exact ⟨a, han, (hlive a han).mpr q1, q2, q3⟩
        obtain ⟨x, A', e1, e2, e3⟩ := ih (p + 1) fuel3 A3 X3 (hF3.done hD) (hF3.txt hM) (by clear hD hM hD1 hM1; omega) k1 (by clear hD hM hD1 hM1; omega) (by clear hD hM hD1 hM1; omega) w1 w3 hnext
        exact ⟨x, A', e1, hF3.trans e2, e3⟩
      refine B_lo81 hD.hn hnb (Q := fun o => ∃ x A', o = some (x, I, A') ∧ HFr A A' ∧ BestOut R f x) (B := n + 1 + (n + 1 + (m + 1) * (3 * n + 6))) n 0 g A1 X1 rfl (Nat.zero_le _) (by clear hD hM hD1 hM1; omega) u5 (fun v hv => absurd hv (Nat.not_lt_zero _)) (fun fuel2 A2 X2 k1 k2 k3 k4 k5 k6 => ?_)
      have hF2 := hF1.trans k2
      have eH : ∀ u, inH A2 u = inH A1 u := fun u => by unfold inH; rw [k3]
      have v3 : X2 3 = Int32.ofNat p := by rw [k5 3 (by decide)]; exact u3
      have v4 : X2 4 = 0 := by rw [k5 4 (by decide)]; exact u4
      have v5 : X2 5 = Int32.ofNat 0 := k6
      have z01 : ∀ v, v < n → A2 33 v = 0 ∨ A2 33 v = 1 := fun v hv => Or.inl (k4 v hv)
      by_cases qp : p < tn
      · refine B_lo107 (s := s) (R := R) (fs := fs) (ls := ls) (tn := tn) (tx := tx) (on := on) (tw := tw) (lab := lab) (ps := ps) (n := n) qp (Q := fun o => ∃ x A', o = some (x, I, A') ∧ HFr A A' ∧ BestOut R f x) (B := n + 1 + (m + 1) * (3 * n + 6)) n 0 fuel2 A2 X2 (hF2.done hD) (hF2.txt hM) rfl (Nat.zero_le _) k1 v3 v5 (fun v hv => ?_) ?_ z01 (fun fuel3 A3 X3 j1 j2 j3 j4 j5 j6 j7 j8 => ?_)
        · constructor
          · intro z; exact (z (k4 v hv)).elim
          · rintro ⟨u, hu, _⟩; exact absurd hu (Nat.not_lt_zero _)
        · constructor
          · intro z; exact (z v4).elim
          · rintro ⟨u, hu, _⟩; exact absurd hu (Nat.not_lt_zero _)
        · simp only [eH] at j4 j5
          exact tail 0 fuel3 A3 X3 j1 (hF2.trans j2) j4 j8 j5 (fun _ => qp) (fun j q1 q2 => by rw [j6 j q1 q2, k5 j q2]) j7
      · -- at the end of the text nothing is taken
        have hno : ∀ u, u < n → ¬ lab u p (p + 1) := fun u _ hl => by
          rcases hP u p (p + 1) hl with z | z
          · clear hD hM hD1 hM1; omega
          · exact qp z.2
        obtain ⟨g2, rfl⟩ : ∃ g2, fuel2 = g2 + 1 := ⟨fuel2 - 1, by clear hD hM hD1 hM1; omega⟩
        rw [lo_go107]
        unfold f_M_longest_107 f_M_longest_170
        have t173 : ∃ x A', f_M_longest_go g2 173 I A2 (upd X2 5 0) = some (x, I, A') ∧ HFr A A' ∧ BestOut R f x := by
          refine tail 0 g2 A2 (upd X2 5 0) (by clear hD hM hD1 hM1; omega) hF2 (fun v hv => ?_) z01 ?_ (fun z => ?_) (fun j q1 q2 => by rw [upd_ne _ _ q2, k5 j q2]) (upd_self _ _ _)
          · constructor
            · intro z; exact (z (k4 v hv)).elim
            · rintro ⟨u, hu, _, _, hl⟩; exact (hno u hu hl).elim
          · rw [upd_ne _ _ (by decide), v4]
            constructor
            · intro z; exact (z rfl).elim
            · rintro ⟨u, hu, _, hl⟩; exact (hno u hu hl).elim
          · rw [upd_ne _ _ (by decide), v4] at z; exact (z rfl).elim
        split
        · exact t173
        · rw [B_len (hF2.txt hM)]
          simp only [Option.bind_some]
          rw [v3, if_pos ((pn_le (by clear hD hM hD1 hM1; omega) (by clear hD hM hD1 hM1; omega)).mpr (by clear hD hM hD1 hM1; omega))]
          exact t173
    rw [lo_go42]
    unfold f_M_longest_42
    rw [if_neg x4, x3, eA]
    simp only [Option.bind_some]
    rw [i24, if_pos (pn_i160 (show ls < 160 by clear hD hM hD1 hM1; omega)), pn_nat (show ls < 2147483648 by clear hD hM hD1 hM1; omega), x1]
    unfold f_M_longest_73
    rcases hX with ⟨e, e2, _⟩ | ⟨hlt, hsf, _⟩
    · -- the first place
      have hs0 : SoFar R f p (X 2) := Or.inr ⟨e2, fun j h1 h2 => by clear hD hM hD1 hM1; omega⟩
      split
      · exact go81 _ hs0
      · rw [if_pos ((pn_le (by clear hD hM hD1 hM1; omega) (by clear hD hM hD1 hM1; omega)).mpr (by clear hD hM hD1 hM1; omega))]
        exact go81 _ hs0
    · have ep : p = p - 1 + 1 := by clear hD hM hD1 hM1; omega
      by_cases q : A1 32 ls = 0
      · rw [if_pos q]
        refine go81 _ ?_
        have hno : ¬ R f (p - 1 + 1) := fun z => by
          rw [← ep] at z
          exact inH_t.mp ((hlive ls hls).mpr ((hR p).mp z)) q
        have := hsf.no hno
        rw [← ep] at this; exact this
      · rw [if_neg q, if_neg (fun z => by have := (pn_le (a := p) (b := f) (by clear hD hM hD1 hM1; omega) (by clear hD hM hD1 hM1; omega)).mp z; clear hD hM hD1 hM1; omega)]
        refine go81 _ ?_
        have hyes : R f (p - 1 + 1) := by
          rw [← ep]
          exact (hR p).mpr ((hlive ls hls).mp (inH_t.mpr q))
        have := hsf.yes (by clear hD hM hD1 hM1; omega) hyes
        rw [← ep] at this; exact this

theorem st_has_single (l : Rl) {st : List RLv} (h : st ≠ []) : st_has (st_single l st) = true := by
  cases st with
  | nil => exact (h rfl).elim
  | cons x s => rfl
theorem st_len_single (l : Rl) (st : List RLv) : (st_single l st).length = st.length := by
  cases st <;> rfl
theorem st_single_ne (l : Rl) {st : List RLv} (h : st ≠ []) : st_single l st ≠ [] := by
  cases st with
  | nil => exact (h rfl).elim
  | cons x s => exact List.cons_ne_nil _ _
theorem rd_bad {tn : Nat} {tx : Nat → Int32} {s : Nat → Nat} {n m k p : Nat} {st : List RLv} (hk : k < n) (hl : lx s n k = Lx.bad p) : rd tn tx s n (m + 1) k st = Rd.fault p := by
  unfold rd; rw [if_neg (by omega), hl]
theorem rd_none {tn : Nat} {tx : Nat → Int32} {s : Nat → Nat} {n m k k' : Nat} {t : Tk} {st : List RLv} (hk : k < n) (hl : lx s n k = Lx.tok t k') (hs : stk tn tx t st = none) : rd tn tx s n (m + 1) k st = Rd.fault k := by
  unfold rd; rw [if_neg (by omega), hl]; simp only [hs]
theorem rd_some {tn : Nat} {tx : Nat → Int32} {s : Nat → Nat} {n m k k' : Nat} {t : Tk} {st st' : List RLv} (hk : k < n) (hl : lx s n k = Lx.tok t k') (hs : stk tn tx t st = some st') : rd tn tx s n (m + 1) k st = rd tn tx s n m k' st' := by
  conv => lhs; unfold rd
  rw [if_neg (by omega), hl]; simp only [hs]
theorem B_good_go {tn : Nat} {tx : Nat → Int32} {s : Nat → Nat} {n : Nat} {I : MI} {A : MA} (hS : Slip (A 2) s n) (h1 : I 1 = Int32.ofNat n) :
    ∀ (m k fuel : Nat) (st : List RLv) (X : Nat → Int32), n - k < m → n - k + 1 ≤ fuel → k ≤ n → st ≠ [] → st.length ≤ 9 → X 1 = g_flag (st_has st) → X 2 = Int32.ofNat (st.length - 1) → X 3 = Int32.ofNat k →
      ∃ x, f_M_good_go fuel 6 I A X = some (x, I, A) ∧ GRes n (rd tn tx s n m k st) x := by
  have hnb := hS.nb
  intro m
  induction m with
  | zero => intros; omega
  | succ m ih =>
    intro k fuel st X hm hf hkn hne hlen x1 x2 x3
    obtain ⟨g, rfl⟩ : ∃ g, fuel = g + 1 := ⟨fuel - 1, by omega⟩
    have hlp : 0 < st.length := by
      cases st with
      | nil => exact (hne rfl).elim
      | cons x s => exact Nat.succ_pos _
    have kf1 : ¬ (1 : Int32) < X 1 := by rw [x1]; cases st_has st <;> decide
    have kf2 : ¬ X 1 = 2 := by rw [x1]; cases st_has st <;> decide
    have kf3 : ¬ X 1 = 3 := by rw [x1]; cases st_has st <;> decide
    have kf4 : X 1 ≤ 2 := by rw [x1]; cases st_has st <;> decide
    by_cases qk : n ≤ k
    · simp only [f_M_good_go, f_M_good_6, if_true, h1, x3, x2]
      rw [if_pos ((pn_le (by omega) (by omega)).mpr qk), if_neg kf1]
      unfold rd
      rw [if_pos qk]
      by_cases q : 1 < st.length
      · rw [if_neg (fun z => by have := (pn_lec (x := 0) 0 rfl (by omega) (by omega)).mp z; omega), if_pos q]
        simp only [f_M_good_231, f_M_good_244, h1]
        exact ⟨_, rfl, Or.inr ⟨rfl, rfl⟩⟩
      · rw [if_pos ((pn_lec (x := 0) 0 rfl (by omega) (by omega)).mpr (by omega)), if_neg q]
        simp only [f_M_good_244]
        exact ⟨_, rfl, rfl⟩
    · obtain ⟨e0, c0⟩ := hS.ch k (by omega)
      have hk : k < n := by omega
      have heq : ∀ (l : Nat) (x : Int32), x = Int32.ofNat l → l < 128 → (Int32.ofNat (s k) = x ↔ s k = l) := fun l x hx hl => pn_eqc l hx (by omega) (by omega)
      obtain ⟨X0, hX0⟩ : ∃ X0, X0 = upd X 4 (Int32.ofNat (s k)) := ⟨_, rfl⟩
      have y1 : X0 1 = g_flag (st_has st) := by rw [hX0, upd_ne _ _ (by decide)]; exact x1
      have y2 : X0 2 = Int32.ofNat (st.length - 1) := by rw [hX0, upd_ne _ _ (by decide)]; exact x2
      have y3 : X0 3 = Int32.ofNat k := by rw [hX0, upd_ne _ _ (by decide)]; exact x3
      have y4 : X0 4 = Int32.ofNat (s k) := by rw [hX0, upd_self]
      have yf4 : X0 1 ≤ 2 := by rw [y1, ← x1]; exact kf4
      have to49 : f_M_good_go (g + 1) 6 I A X = f_M_good_49 (f_M_good_go g) I A X0 := by
        rw [hX0]
        conv => lhs; unfold f_M_good_go
        simp only [f_M_good_6, if_true, h1, x3, pn_nat (show k < 2147483648 by omega), e0]
        rw [if_neg (fun z => qk ((pn_le (by omega) (by omega)).mp z)), if_pos (pn_i24 (show k < 24 by omega)), if_neg kf2, if_neg kf3]
      rw [to49]
      -- a token of one character that goes on
      have goOn : ∀ (t : Tk) (st' : List RLv) (X' : Nat → Int32), lx s n k = Lx.tok t (k + 1) → stk tn tx t st = some st' → st' ≠ [] → st'.length ≤ 9 → X' 1 = g_flag (st_has st') → X' 2 = Int32.ofNat (st'.length - 1) → X' 3 = Int32.ofNat k →
          ∃ x, f_M_good_216 (f_M_good_go g) I A X' = some (x, I, A) ∧ GRes n (rd tn tx s n (m + 1) k st) x := by
        intro t st' X' hl hs hne' hlen' z1 z2 z3
        unfold f_M_good_216
        rw [z3, pn_succ, rd_some hk hl hs]
        exact ih (k + 1) g st' _ (by omega) (by omega) (by omega) hne' hlen' (by rw [upd_ne _ _ (by decide)]; exact z1) (by rw [upd_ne _ _ (by decide)]; exact z2) (upd_self _ _ _)
      have bad : lx s n k = Lx.bad k ∨ (∃ t k', lx s n k = Lx.tok t k' ∧ stk tn tx t st = none) → ∃ x, some (Int32.ofNat k, I, A) = some (x, I, A) ∧ GRes n (rd tn tx s n (m + 1) k st) x := by
        rintro (hl | ⟨t, k', hl, hs⟩)
        · rw [rd_bad hk hl]; exact ⟨_, rfl, Or.inl ⟨hk, rfl⟩⟩
        · rw [rd_none hk hl hs]; exact ⟨_, rfl, Or.inl ⟨hk, rfl⟩⟩
      unfold f_M_good_49
      rw [if_pos yf4, y4, y2, y3]
      by_cases q40 : s k = 40
      · have hl : lx s n k = Lx.tok Tk.opn (k + 1) := by unfold lx; rw [if_pos q40]
        rw [if_pos ((heq 40 40 rfl (by omega)).mpr q40)]
        by_cases q9 : st.length = 9
        · rw [if_pos ((pn_eqc (x := 8) 8 rfl (by omega) (by omega)).mpr (by omega))]
          exact bad (Or.inr ⟨_, _, hl, by rw [stk_opn, if_pos q9]⟩)
        · rw [if_neg (fun z => by have := (pn_eqc (x := 8) 8 rfl (by omega) (by omega)).mp z; omega), pn_succ]
          refine goOn _ (st_open st) _ hl (by rw [stk_opn, if_neg q9]) (List.cons_ne_nil _ _) (by show st.length + 1 ≤ 9; omega) ?_ ?_ ?_
          · rw [upd_ne _ _ (by decide), upd_self]; rfl
          · rw [upd_self]; show Int32.ofNat (st.length - 1 + 1) = Int32.ofNat (st.length + 1 - 1); rw [show st.length - 1 + 1 = st.length + 1 - 1 by omega]
          · rw [upd_ne _ _ (by decide), upd_ne _ _ (by decide)]; exact y3
      rw [if_neg (fun z => q40 ((heq 40 40 rfl (by omega)).mp z))]
      -- what is behind the groups
      have rest : s k ≠ 41 ∨ st.length ≤ 1 → ∃ x, f_M_good_126 (f_M_good_go g) I A X0 = some (x, I, A) ∧ GRes n (rd tn tx s n (m + 1) k st) x := by
        intro hr
        unfold f_M_good_126
        rw [y4]
        by_cases q124 : s k = 124
        · have hl : lx s n k = Lx.tok Tk.bar (k + 1) := by unfold lx; rw [if_neg q40, if_neg (by omega), if_neg (by omega), if_neg (by omega), if_neg (by omega), if_neg (by omega), if_neg (by omega), if_neg (by omega), if_pos q124]
          rw [if_pos ((heq 124 124 rfl (by omega)).mpr q124)]
          refine goOn _ (st_bar st) _ hl (stk_bar _ _ _) ?_ ?_ ?_ ?_ ?_
          · cases st with
            | nil => exact (hne rfl).elim
            | cons x st => exact List.cons_ne_nil _ _
          · cases st <;> exact hlen
          · rw [upd_self]; cases st <;> rfl
          · rw [upd_ne _ _ (by decide), y2]; cases st <;> rfl
          · rw [upd_ne _ _ (by decide)]; exact y3
        rw [if_neg (fun z => q124 ((heq 124 124 rfl (by omega)).mp z))]
        -- a single that is complete at once
        have sing : ∀ l : LSp, lx s n k = Lx.tok (Tk.sing l) (k + 1) → ∃ x, f_M_good_197 (f_M_good_go g) I A X0 = some (x, I, A) ∧ GRes n (rd tn tx s n (m + 1) k st) x := by
          intro l hl
          unfold f_M_good_197
          refine goOn _ _ _ hl (stk_sing _ _ _ _) (st_single_ne _ hne) (by rw [st_len_single]; exact hlen) ?_ ?_ ?_
          · rw [upd_self, st_has_single _ hne]; rfl
          · rw [upd_ne _ _ (by decide), y2, st_len_single]
          · rw [upd_ne _ _ (by decide)]; exact y3
        by_cases q91 : s k = 91
        · rw [if_pos ((heq 91 91 rfl (by omega)).mpr q91)]
          have hl : lx s n k = lxSet s n k := by unfold lx; rw [if_neg q40, if_neg (by omega), if_neg (by omega), if_neg (by omega), if_neg (by omega), if_pos q91]
          unfold f_M_good_152 f_M_good_164 f_M_good_216
          rw [y4, if_pos ((heq 91 91 rfl (by omega)).mpr q91), upd_ne _ _ (by decide), y3, pn_succ]
          -- what follows the first character's place
          have tail : ∀ (fuel' : Nat) (X' : Nat → Int32), n - lxB s n k + 1 ≤ fuel' → lxB s n k ≤ n → k + 1 ≤ lxB s n k → (X' 1 = 4 ∨ (X' 1 = 3 ∧ (lxB s n k < n → s (lxB s n k) ≠ 94))) → X' 2 = Int32.ofNat (st.length - 1) → X' 3 = Int32.ofNat (lxB s n k) →
              ∃ x, f_M_good_go fuel' 6 I A X' = some (x, I, A) ∧ GRes n (rd tn tx s n (m + 1) k st) x := by
            intro fuel' X' hf' hb hkb z1 z2 z3
            obtain ⟨i1, i2, i3⟩ := B_goodB (e := lxE s n k) hS h1 hb rfl hf' z1 z3
            obtain ⟨f1, f2, f3, f4⟩ := fbr_ok s (n - lxB s n k) (lxB s n k)
            have e1 : fbr s (n - lxB s n k) (lxB s n k) = lxE s n k := rfl
            rw [e1] at f1 f2 f3 f4
            unfold lxSet at hl
            by_cases qn : lxE s n k = n
            · rw [if_pos (Or.inl qn)] at hl
              rw [i1 qn, rd_bad hk hl]
              exact ⟨_, rfl, Or.inr ⟨qn, rfl⟩⟩
            · by_cases qb : lxE s n k = lxB s n k
              · rw [if_pos (Or.inr qb)] at hl
                rw [i2 (by omega) qb, rd_bad hk hl, qb]
                exact ⟨_, rfl, Or.inl ⟨by omega, rfl⟩⟩
              · rw [if_neg (fun z => z.elim qn qb)] at hl
                obtain ⟨X2, a1, a2, a3, a4⟩ := i3 (by omega) qb
                rw [a4, rd_some hk hl (stk_sing _ _ _ _)]
                refine ih (lxE s n k + 1) _ _ X2 (by omega) (by omega) (by omega) (st_single_ne _ hne) (by rw [st_len_single]; exact hlen) ?_ ?_ a3
                · rw [a1, st_has_single _ hne]; rfl
                · rw [a2, z2, st_len_single]
          by_cases qneg : k + 1 < n ∧ s (k + 1) = 94
          · have hneg : lxNeg s n k = true := decide_eq_true qneg
            have hb : lxB s n k = k + 2 := by unfold lxB; rw [hneg]; rfl
            obtain ⟨g', hg'⟩ : ∃ g', g = g' + 1 := ⟨g - 1, by omega⟩
            obtain ⟨e1, c1⟩ := hS.ch (k + 1) qneg.1
            have h33 : ¬ (3 : Int32) = 2 := by decide
            have w1 : upd (upd X0 1 3) 3 (Int32.ofNat (k + 1)) 1 = 3 := by rw [upd_ne _ _ (by decide), upd_self]
            have w3 : upd (upd X0 1 3) 3 (Int32.ofNat (k + 1)) 3 = Int32.ofNat (k + 1) := upd_self _ _ _
            have st1 : f_M_good_go g 6 I A (upd (upd X0 1 3) 3 (Int32.ofNat (k + 1))) = f_M_good_go g' 6 I A (upd (upd (upd (upd (upd X0 1 3) 3 (Int32.ofNat (k + 1))) 1 4) 4 (Int32.ofNat (s (k + 1)))) 3 (Int32.ofNat (k + 2))) := by
              rw [hg']
              conv => lhs; unfold f_M_good_go
              simp only [f_M_good_6, if_true, h1, w3, w1, pn_nat (show k + 1 < 2147483648 by omega), e1]
              rw [if_neg (fun z => by have := (pn_le (a := n) (b := k + 1) (by omega) (by omega)).mp z; omega), if_pos (pn_i24 (show k + 1 < 24 by omega)), if_neg h33, if_pos ((pn_eqc (x := 94) 94 rfl (by omega) (by omega)).mpr qneg.2)]
              unfold f_M_good_216
              rw [upd_ne _ _ (by decide), upd_ne _ _ (by decide), w3, pn_succ]
            rw [st1]
            refine tail g' _ (by omega) (by omega) (by omega) (Or.inl ?_) ?_ (by rw [upd_self, hb])
            · rw [upd_ne _ _ (by decide), upd_ne _ _ (by decide), upd_self]
            · rw [upd_ne _ _ (by decide), upd_ne _ _ (by decide), upd_ne _ _ (by decide), upd_ne _ _ (by decide), upd_ne _ _ (by decide)]; exact y2
          · have hneg : lxNeg s n k = false := decide_eq_false qneg
            have hb : lxB s n k = k + 1 := by unfold lxB; rw [hneg]; rfl
            refine tail g _ (by omega) (by omega) (by omega) (Or.inr ⟨?_, fun w1 w2 => ?_⟩) ?_ (by rw [upd_self, hb])
            · rw [upd_ne _ _ (by decide), upd_self]
            · rw [hb] at w1 w2; exact qneg ⟨w1, w2⟩
            · rw [upd_ne _ _ (by decide), upd_ne _ _ (by decide)]; exact y2
        rw [if_neg (fun z => q91 ((heq 91 91 rfl (by omega)).mp z))]
        by_cases q92 : s k = 92
        · rw [if_pos ((heq 92 92 rfl (by omega)).mpr q92)]
          have hl : lx s n k = (if k + 1 = n then Lx.bad n else Lx.tok (Tk.sing (LSp.con (fun c => decide (c = s (k + 1))))) (k + 2)) := by unfold lx; rw [if_neg q40, if_neg (by omega), if_neg (by omega), if_neg (by omega), if_neg (by omega), if_neg q91, if_pos q92]
          unfold f_M_good_152 f_M_good_164 f_M_good_216
          rw [y4, if_neg (fun z => q91 ((heq 91 91 rfl (by omega)).mp z)), upd_ne _ _ (by decide), y3, pn_succ]
          obtain ⟨g', hg'⟩ : ∃ g', g = g' + 1 := ⟨g - 1, by omega⟩
          have w1 : upd (upd X0 1 2) 3 (Int32.ofNat (k + 1)) 1 = 2 := by rw [upd_ne _ _ (by decide), upd_self]
          have w2 : upd (upd X0 1 2) 3 (Int32.ofNat (k + 1)) 2 = Int32.ofNat (st.length - 1) := by rw [upd_ne _ _ (by decide), upd_ne _ _ (by decide)]; exact y2
          have w3 : upd (upd X0 1 2) 3 (Int32.ofNat (k + 1)) 3 = Int32.ofNat (k + 1) := upd_self _ _ _
          have h12 : (1 : Int32) < 2 := by decide
          by_cases qe : k + 1 = n
          · rw [if_pos qe] at hl
            rw [rd_bad hk hl, hg']
            simp only [f_M_good_go, f_M_good_6, if_true, h1, w3, w1]
            rw [if_pos ((pn_le (by omega) (by omega)).mpr (by omega)), if_pos h12]
            simp only [f_M_good_231, f_M_good_244, h1]
            exact ⟨_, rfl, Or.inr ⟨rfl, rfl⟩⟩
          · rw [if_neg qe] at hl
            rw [rd_some hk hl (stk_sing _ _ _ _)]
            obtain ⟨e1, c1⟩ := hS.ch (k + 1) (by omega)
            have st1 : f_M_good_go g 6 I A (upd (upd X0 1 2) 3 (Int32.ofNat (k + 1))) = f_M_good_go g' 6 I A (upd (upd (upd (upd (upd X0 1 2) 3 (Int32.ofNat (k + 1))) 1 1) 4 (Int32.ofNat (s (k + 1)))) 3 (Int32.ofNat (k + 2))) := by
              rw [hg']
              conv => lhs; unfold f_M_good_go
              simp only [f_M_good_6, if_true, h1, w3, w1, pn_nat (show k + 1 < 2147483648 by omega), e1]
              rw [if_neg (fun z => by have := (pn_le (a := n) (b := k + 1) (by omega) (by omega)).mp z; omega), if_pos (pn_i24 (show k + 1 < 24 by omega))]
              unfold f_M_good_216
              rw [upd_ne _ _ (by decide), upd_ne _ _ (by decide), w3, pn_succ]
            rw [st1]
            refine ih (k + 2) g' _ _ (by omega) (by omega) (by omega) (st_single_ne _ hne) (by rw [st_len_single]; exact hlen) ?_ ?_ (upd_self _ _ _)
            · rw [upd_ne _ _ (by decide), upd_ne _ _ (by decide), upd_self, st_has_single _ hne]; rfl
            · rw [upd_ne _ _ (by decide), upd_ne _ _ (by decide), upd_ne _ _ (by decide), w2, st_len_single]
        rw [if_neg (fun z => q92 ((heq 92 92 rfl (by omega)).mp z)), B_isPlain c0]
        simp only [Option.bind_some]
        have h10 : ¬ (1 : Int32) = 0 := by decide
        by_cases q46 : s k = 46
        · rw [if_pos (show s k = 40 ∨ s k = 41 ∨ s k = 91 ∨ s k = 93 ∨ s k = 124 ∨ s k = 42 ∨ s k = 43 ∨ s k = 63 ∨ s k = 46 ∨ s k = 94 ∨ s k = 36 ∨ s k = 92 by omega), if_pos rfl, if_pos ((heq 46 46 rfl (by omega)).mpr q46)]
          exact sing _ (by unfold lx; rw [if_neg q40, if_neg (by omega), if_neg (by omega), if_neg (by omega), if_neg (by omega), if_neg q91, if_neg q92, if_neg (by omega), if_neg q124, if_neg (by omega), if_pos q46])
        by_cases q94 : s k = 94
        · rw [if_pos (show s k = 40 ∨ s k = 41 ∨ s k = 91 ∨ s k = 93 ∨ s k = 124 ∨ s k = 42 ∨ s k = 43 ∨ s k = 63 ∨ s k = 46 ∨ s k = 94 ∨ s k = 36 ∨ s k = 92 by omega), if_pos rfl, if_neg (fun z => q46 ((heq 46 46 rfl (by omega)).mp z)), if_pos ((heq 94 94 rfl (by omega)).mpr q94)]
          exact sing _ (by unfold lx; rw [if_neg q40, if_neg (by omega), if_neg (by omega), if_neg (by omega), if_neg (by omega), if_neg q91, if_neg q92, if_neg (by omega), if_neg q124, if_neg (by omega), if_neg q46, if_pos q94])
        by_cases q36 : s k = 36
        · rw [if_pos (show s k = 40 ∨ s k = 41 ∨ s k = 91 ∨ s k = 93 ∨ s k = 124 ∨ s k = 42 ∨ s k = 43 ∨ s k = 63 ∨ s k = 46 ∨ s k = 94 ∨ s k = 36 ∨ s k = 92 by omega), if_pos rfl, if_neg (fun z => q46 ((heq 46 46 rfl (by omega)).mp z)), if_neg (fun z => q94 ((heq 94 94 rfl (by omega)).mp z)), if_pos ((heq 36 36 rfl (by omega)).mpr q36)]
          exact sing _ (by unfold lx; rw [if_neg q40, if_neg (by omega), if_neg (by omega), if_neg (by omega), if_neg (by omega), if_neg q91, if_neg q92, if_neg (by omega), if_neg q124, if_pos q36])
        by_cases qs : s k = 41 ∨ s k = 93 ∨ s k = 42 ∨ s k = 43 ∨ s k = 63
        · rw [if_pos (show s k = 40 ∨ s k = 41 ∨ s k = 91 ∨ s k = 93 ∨ s k = 124 ∨ s k = 42 ∨ s k = 43 ∨ s k = 63 ∨ s k = 46 ∨ s k = 94 ∨ s k = 36 ∨ s k = 92 by omega), if_pos rfl, if_neg (fun z => q46 ((heq 46 46 rfl (by omega)).mp z)), if_neg (fun z => q94 ((heq 94 94 rfl (by omega)).mp z)), if_neg (fun z => q36 ((heq 36 36 rfl (by omega)).mp z)), B_isTimes c0]
          simp only [Option.bind_some]
          by_cases qt : s k = 42 ∨ s k = 43 ∨ s k = 63
          · rw [if_pos qt, if_neg h10, y1]
            have hl : ∃ l a, lx s n k = Lx.tok (Tk.rep l a) (k + 1) := by
              rcases qt with q | q | q
              · exact ⟨true, true, by unfold lx; rw [if_neg q40, if_neg (by omega), if_pos q]⟩
              · exact ⟨false, true, by unfold lx; rw [if_neg q40, if_neg (by omega), if_neg (by omega), if_pos q]⟩
              · exact ⟨true, false, by unfold lx; rw [if_neg q40, if_neg (by omega), if_neg (by omega), if_neg (by omega), if_pos q]⟩
            obtain ⟨l, a, hl⟩ := hl
            cases st with
            | nil => exact (hne rfl).elim
            | cons x st =>
              obtain ⟨c, q, p⟩ := x
              cases p with
              | none =>
                have e : g_flag (st_has ((c, q, (none : Option Rl)) :: st)) = 0 := rfl
                rw [e, if_pos rfl]
                unfold f_M_good_214
                rw [y3]
                exact bad (Or.inr ⟨_, _, hl, rfl⟩)
              | some p =>
                have e : ¬ g_flag (st_has ((c, q, some p) :: st)) = 0 := by
                  have e2 : g_flag (st_has ((c, q, some p) :: st)) = 1 := rfl
                  rw [e2]; exact h10
                rw [if_neg e]
                refine goOn _ (st_times l a ((c, q, some p) :: st)) X0 hl rfl (List.cons_ne_nil _ _) hlen ?_ ?_ y3
                · rw [y1]; rfl
                · rw [y2]; rfl
          · rw [if_neg qt, if_pos rfl]
            unfold f_M_good_214
            rw [y3]
            by_cases q93 : s k = 93
            · exact bad (Or.inl (by unfold lx; rw [if_neg q40, if_neg (by omega), if_neg (by omega), if_neg (by omega), if_neg (by omega), if_neg q91, if_neg q92, if_pos q93]))
            · have q41 : s k = 41 := by omega
              refine bad (Or.inr ⟨Tk.cls, k + 1, by unfold lx; rw [if_neg q40, if_pos q41], ?_⟩)
              rw [stk_cls, if_pos (by omega)]
        · rw [if_neg (show ¬ (s k = 40 ∨ s k = 41 ∨ s k = 91 ∨ s k = 93 ∨ s k = 124 ∨ s k = 42 ∨ s k = 43 ∨ s k = 63 ∨ s k = 46 ∨ s k = 94 ∨ s k = 36 ∨ s k = 92) by omega), if_neg h10]
          exact sing _ (by unfold lx; rw [if_neg q40, if_neg (by omega), if_neg (by omega), if_neg (by omega), if_neg (by omega), if_neg q91, if_neg q92, if_neg (by omega), if_neg q124, if_neg q36, if_neg q46, if_neg q94])
      by_cases q41 : s k = 41
      · rw [if_pos ((heq 41 41 rfl (by omega)).mpr q41)]
        by_cases q1 : st.length ≤ 1
        · rw [if_pos ((pn_lec (x := 0) 0 rfl (by omega) (by omega)).mpr (by omega))]
          exact rest (Or.inr q1)
        · have hl : lx s n k = Lx.tok Tk.cls (k + 1) := by unfold lx; rw [if_neg q40, if_pos q41]
          rw [if_neg (fun z => by have := (pn_lec (x := 0) 0 rfl (by omega) (by omega)).mp z; omega), pn_addm1 (by omega)]
          cases st with
          | nil => exact (hne rfl).elim
          | cons x st => cases st with
            | nil => exact (q1 (Nat.le_refl _)).elim
            | cons y st =>
              refine goOn _ (st_close (x :: y :: st)) _ hl (by rw [stk_cls, if_neg q1]) (List.cons_ne_nil _ _) (by show st.length + 1 ≤ 9; have : st.length + 2 ≤ 9 := hlen; omega) ?_ ?_ ?_
              · rw [upd_ne _ _ (by decide), upd_self]; rfl
              · rw [upd_self]; rfl
              · rw [upd_ne _ _ (by decide), upd_ne _ _ (by decide)]; exact y3
      · rw [if_neg (fun z => q41 ((heq 41 41 rfl (by omega)).mp z))]
        exact rest (Or.inl q41)
theorem B_good {tn : Nat} {tx : Nat → Int32} {s : Nat → Nat} {n : Nat} {I : MI} {A : MA} (hS : Slip (A 2) s n) (h1 : I 1 = Int32.ofNat n) : ∃ x, f_M_good I A = some (x, I, A) ∧ GRes n (rd tn tx s n (n + 1) 0 (st_open [])) x := by
  have fu := wk_FUEL_big
  have hnb := hS.nb
  unfold f_M_good f_M_good_e
  exact B_good_go hS h1 (n + 1) 0 wk_FUEL (st_open []) _ (by omega) (by omega) (by omega) (List.cons_ne_nil _ _) (by decide) rfl rfl rfl

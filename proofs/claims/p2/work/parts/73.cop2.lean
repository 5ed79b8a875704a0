-- own rows: compile and replace of the class, pure
theorem C_compile {e : ES} {k : CK} (h : CRel e k) (w : EWf e) {s : Nat → Nat} (hs : ∀ j, j < e.sn → s j = e.sc j) :
    (∀ p, c_rd s e.sn = Sum.inl p → ∃ I' RI' RA' N' NB' NL', f_D_compile k.I k.A k.M k.MB k.L k.RI k.RA k.N k.NB k.NL = some (3, 0, I', k.A, k.M, k.MB, k.L, RI', RA', N', NB', NL') ∧ ∀ sf, CRel (e_cf e p) (k.rd sf I' k.A k.M k.MB k.L RI' RA' N' NB' NL')) ∧
    (∀ st, c_rd s e.sn = Sum.inr st → ∃ I' RI' RA' N' NB' NL', f_D_compile k.I k.A k.M k.MB k.L k.RI k.RA k.N k.NB k.NL = some (0, 0, I', k.A, k.M, k.MB, k.L, RI', RA', N', NB', NL') ∧ ∀ sf, CRel (e_cd e s) (k.rd sf I' k.A k.M k.MB k.L RI' RA' N' NB' NL').sw) := by
  have hsb := w.sb
  have hS : Slip (k.A 0) s e.sn := ⟨hsb, fun j hj => ⟨by rw [h.s2 j hj, hs j hj], by rw [hs j hj]; exact w.sv j hj⟩⟩
  have all : ∀ tn tx, Txt tn tx → Res (f_P_read (k.A 0) k.RI k.RA k.N k.NB k.NL (Int32.ofNat e.sn)) (ReadOut tn tx e.sn (rd tn tx s e.sn (e.sn + 1) 0 (st_open []))) := fun tn tx hT => A_read hT hS _ _ _ _ _
  obtain ⟨z, ez, hz⟩ := all 0 (fun _ => 0) Txt0
  have all' : ∀ tn tx, Txt tn tx → ReadOut tn tx e.sn (rd tn tx s e.sn (e.sn + 1) 0 (st_open [])) z := fun tn tx hT => by
    obtain ⟨z', ez', hz'⟩ := all tn tx hT
    rw [ez] at ez'
    cases ez'
    exact hz'
  obtain ⟨r1, RI1, RA1, N1, NB1, NL1⟩ := z
  have ho0 : c_rd s e.sn = rd 0 (fun _ => 0) s e.sn (e.sn + 1) 0 (st_open []) := rfl
  rw [← ho0] at hz
  unfold f_D_compile
  rw [h.s1, ez]
  simp only [Option.bind_some, wk_let, upd_self]
  constructor
  · intro p hp
    rw [hp] at hz
    obtain ⟨e1, hpn⟩ := hz
    have e1' : r1 = Int32.ofNat p := e1
    rw [e1', if_neg (pn_ne1 (by clear h w hS; omega))]
    refine ⟨_, _, _, _, _, _, rfl, fun sf => ⟨?_, h.s2, ?_, ?_, ?_, ?_, ?_, (show upd k.I 11 (Int32.ofNat p) 11 = _ from upd_self _ _ _), h.pm⟩⟩
    · show upd k.I 11 (Int32.ofNat p) 1 = _; rw [upd_ne _ _ (by decide)]; exact h.s1
    · show upd k.I 11 (Int32.ofNat p) 3 = _; rw [upd_ne _ _ (by decide)]; exact h.hn
    · show upd k.I 11 (Int32.ofNat p) 4 = _; rw [upd_ne _ _ (by decide)]; exact h.hp
    · show upd k.I 11 (Int32.ofNat p) 6 = _; rw [upd_ne _ _ (by decide)]; exact h.hc
    · show upd k.I 11 (Int32.ofNat p) 7 = _; rw [upd_ne _ _ (by decide)]; exact h.hm
    · show upd k.I 11 (Int32.ofNat p) 10 = _; rw [upd_ne _ _ (by decide)]; exact h.hh
  · intro st hst
    rw [hst] at hz
    obtain ⟨e1, x, ex, hx⟩ := hz
    have e1' : r1 = -1 := e1
    rw [if_pos e1']
    unfold f_P_handOver
    simp only [Option.bind_some]
    refine ⟨_, _, _, _, _, _, rfl, fun sf => ⟨?_, fun j hj => absurd hj (Nat.not_lt_zero _), ?_, ?_, ?_, ?_, ?_, ?_, fun _ tn tx hT => ?_⟩⟩
    · show upd (upd (upd k.I 11 r1) 10 1) 1 0 1 = _; rw [upd_self]; rfl
    · show upd (upd (upd k.I 11 r1) 10 1) 1 0 3 = _; rw [upd_ne _ _ (by decide), upd_ne _ _ (by decide), upd_ne _ _ (by decide)]; exact h.hn
    · show upd (upd (upd k.I 11 r1) 10 1) 1 0 4 = _; rw [upd_ne _ _ (by decide), upd_ne _ _ (by decide), upd_ne _ _ (by decide)]; exact h.hp
    · show upd (upd (upd k.I 11 r1) 10 1) 1 0 6 = _; rw [upd_ne _ _ (by decide), upd_ne _ _ (by decide), upd_ne _ _ (by decide)]; exact h.hc
    · show upd (upd (upd k.I 11 r1) 10 1) 1 0 7 = _; rw [upd_ne _ _ (by decide), upd_ne _ _ (by decide), upd_ne _ _ (by decide)]; exact h.hm
    · show upd (upd (upd k.I 11 r1) 10 1) 1 0 10 = _; rw [upd_ne _ _ (by decide), upd_self]; rfl
    · show upd (upd (upd k.I 11 r1) 10 1) 1 0 11 = _; rw [upd_ne _ _ (by decide), upd_ne _ _ (by decide), upd_self]; exact e1'
    · have hT' := all' tn tx hT
      show CMean tn tx N1 NB1 NL1 (c_pat s e.sn tn tx)
      unfold c_pat
      rcases hr : rd tn tx s e.sn (e.sn + 1) 0 (st_open []) with p | st2
      · rw [hr] at hT'
        obtain ⟨g1, g2⟩ := hT'
        have g1' : r1 = Int32.ofNat p := g1
        rw [e1'] at g1'
        exact absurd g1'.symm (pn_ne1 (by clear h w hS; omega))
      · rw [hr] at hT'
        obtain ⟨-, x2, ex2, hx2⟩ := hT'
        rw [ex2]
        exact hx2
def msA (A : MA) : Nat → List (Nat × Nat) → Prop
  | _, [] => True
  | c, (a, b) :: l => A 12 c = Int32.ofNat a ∧ A 13 c = Int32.ofNat b ∧ msA A (c + 1) l
theorem Ms.len {R : Rl} {tn : Nat} : ∀ (l : List (Nat × Nat)) (p : Nat), p ≤ tn → Ms R tn p l → p + l.length ≤ tn
  | [], p, hp, _ => hp
  | (a, b) :: l, p, hp, h => by
    have h1 := h.1.1
    have h2 := h.1.2.2.2.1.1
    have := Ms.len l b h.1.2.2.1 h.2
    simp only [List.length_cons]; omega
theorem C_coll_go {tn : Nat} {tx : Nat → Int32} (tt : Txt tn tx) {R : Rl} {I : MI} {MB : MA} {L : ML} {Y : Nat → Int64} : ∀ (l : List (Nat × Nat)) (p c fuel : Nat) (A : MA) (M : MI) (X : Nat → Int32), CMean tn tx M MB L R → Ms R tn p l → p ≤ tn → c ≤ p → l.length < fuel → X 1 = Int32.ofNat p → X 2 = Int32.ofNat c →
    ∃ A' M', f_D_collectMatches_go tn tx fuel 4 I A M MB L X Y = some (Int32.ofNat (c + l.length), I, A', M', MB, L) ∧ msA A' c l ∧ (∀ j, j < c → A' 12 j = A 12 j ∧ A' 13 j = A 13 j) ∧ (∀ j, j ≠ 12 → j ≠ 13 → A' j = A j) ∧ (∀ tn tx R, CMean tn tx M MB L R → CMean tn tx M' MB L R) := by
  have ht := tt.nb
  have h10 : ¬ (1 : Int32) = 0 := by decide
  intro l
  induction l with
  | nil =>
    intro p c fuel A M X hM hms hp hcp hf x1 x2
    obtain ⟨f, rfl⟩ : ∃ f, fuel = f + 1 := ⟨fuel - 1, by omega⟩
    show ∃ A' M', f_D_collectMatches_4 tn tx (f_D_collectMatches_go tn tx f) I A M MB L X Y = some (Int32.ofNat c, I, A', M', MB, L) ∧ _
    unfold f_D_collectMatches_4
    rw [x2, x1]
    by_cases q : c = 160
    · rw [if_pos ((pn_cle (x := 160) 160 rfl (by clear tt; omega) (by omega)).mpr (by clear tt; omega)), q]
      exact ⟨A, M, rfl, trivial, fun _ _ => ⟨rfl, rfl⟩, fun _ _ _ => rfl, fun _ _ _ z => z⟩
    · rw [if_neg (fun z => by have := (pn_cle (x := 160) 160 rfl (show c < 2147483648 by clear tt; omega) (by omega)).mp z; clear tt; omega)]
      rcases A_seek tt hM hp with ⟨es, _⟩ | ⟨a, b, es, hF⟩
      · rw [es]
        simp only [Option.bind_some, if_true]
        exact ⟨A, M, rfl, trivial, fun _ _ => ⟨rfl, rfl⟩, fun _ _ _ => rfl, fun _ _ _ z => z⟩
      · exact (hF.not hms).elim
  | cons ab l ih =>
    obtain ⟨a, b⟩ := ab
    intro p c fuel A M X hM hms hp hcp hf x1 x2
    obtain ⟨hF, hl⟩ := hms
    have ha := hF.1
    have ha2 := hF.2.1
    have hb := hF.2.2.1
    have hab := hF.2.2.2.1.1
    obtain ⟨f, rfl⟩ : ∃ f, fuel = f + 1 := ⟨fuel - 1, by omega⟩
    have hc : c < 160 := by clear tt; omega
    have hc0 : c < 2147483648 := by omega
    show ∃ A' M', f_D_collectMatches_4 tn tx (f_D_collectMatches_go tn tx f) I A M MB L X Y = _ ∧ _
    unfold f_D_collectMatches_4
    rw [x2, x1, if_neg (fun z => by have := (pn_cle (x := 160) 160 rfl hc0 (by omega)).mp z; omega)]
    rcases A_seek tt hM hp with ⟨es, hN⟩ | ⟨a', b', es, hF'⟩
    · exact (hF.not hN).elim
    · obtain ⟨e1, e2⟩ := hF'.uniq hF
      subst e1; subst e2
      rw [es]
      have m8 : upd (upd M 8 (Int32.ofNat a')) 9 (Int32.ofNat b') 8 = Int32.ofNat a' := by rw [upd_ne _ _ (by decide), upd_self]
      have m9 : upd (upd M 8 (Int32.ofNat a')) 9 (Int32.ofNat b') 9 = Int32.ofNat b' := upd_self _ _ _
      simp only [Option.bind_some, if_neg h10, m8, m9, wk_let]
      rw [if_pos ((pn_inb hc0).mpr hc), if_pos ((pn_inb hc0).mpr hc), pn_nat hc0]
      obtain ⟨A1, hA1⟩ : ∃ A1, A1 = va_up A 12 (upd (A 12) c (Int32.ofNat a')) := ⟨_, rfl⟩
      obtain ⟨A2, hA2⟩ : ∃ A2, A2 = va_up A1 13 (upd (A1 13) c (Int32.ofNat b')) := ⟨_, rfl⟩
      rw [← hA1, ← hA2]
      have g12 : A2 12 c = Int32.ofNat a' := by rw [hA2, va_up_ne _ _ (by decide), hA1, va_up_self, upd_self]
      have g13 : A2 13 c = Int32.ofNat b' := by rw [hA2, va_up_self, upd_self]
      have f12 : ∀ j, j < c → A2 12 j = A 12 j := fun j hj => by rw [hA2, va_up_ne _ _ (by decide), hA1, va_up_self, upd_ne _ _ (by omega)]
      have f13 : ∀ j, j < c → A2 13 j = A 13 j := fun j hj => by rw [hA2, va_up_self, upd_ne _ _ (by omega), hA1, va_up_ne _ _ (by decide)]
      have fo : ∀ j, j ≠ 12 → j ≠ 13 → A2 j = A j := fun j h1 h2 => by rw [hA2, va_up_ne _ _ h2, hA1, va_up_ne _ _ h1]
      obtain ⟨A', M', e0, k1, k2, k3, k4⟩ := ih b' (c + 1) f A2 (upd (upd M 8 (Int32.ofNat a')) 9 (Int32.ofNat b')) (upd (upd X 1 (Int32.ofNat b')) 2 (Int32.ofNat c + 1)) (hM.found _ _) hl hb (by clear tt; omega) (by simp only [List.length_cons] at hf; omega) (by rw [upd_ne _ _ (by decide), upd_self]) (by rw [upd_self, pn_succ])
      refine ⟨A', M', ?_, ⟨?_, ?_, k1⟩, fun j hj => ?_, fun j h1 h2 => ?_, fun tn tx R z => k4 tn tx R (z.found _ _)⟩
      · rw [e0, List.length_cons, show c + 1 + l.length = c + (l.length + 1) by omega]
      · rw [(k2 c (Nat.lt_succ_self c)).1, g12]
      · rw [(k2 c (Nat.lt_succ_self c)).2, g13]
      · rw [(k2 j (by omega)).1, (k2 j (by omega)).2, f12 j hj, f13 j hj]; exact ⟨rfl, rfl⟩
      · rw [k3 j h1 h2, fo j h1 h2]
theorem C_coll {tn : Nat} {tx : Nat → Int32} (tt : Txt tn tx) {R : Rl} {I : MI} {A : MA} {M : MI} {MB : MA} {L : ML} (hM : CMean tn tx M MB L R) {l : List (Nat × Nat)} (hl : Ms R tn 0 l) :
    ∃ A' M', f_D_collectMatches tn tx I A M MB L = some (Int32.ofNat l.length, I, A', M', MB, L) ∧ msA A' 0 l ∧ (∀ j, j ≠ 12 → j ≠ 13 → A' j = A j) ∧ (∀ tn tx R, CMean tn tx M MB L R → CMean tn tx M' MB L R) := by
  have ht := tt.nb
  have hlen := Ms.len l 0 (Nat.zero_le _) hl
  have fu := wk_FUEL_big
  unfold f_D_collectMatches f_D_collectMatches_e
  obtain ⟨A', M', e0, k1, -, k3, k4⟩ := C_coll_go tt (I := I) (Y := fun _ => 0) l 0 0 wk_FUEL A M (upd (upd (fun _ => 0) 1 0) 2 0) hM hl (Nat.zero_le _) (Nat.le_refl _) (by clear tt hM hl; omega) (by rw [upd_ne _ _ (by decide), upd_self]; rfl) (by rw [upd_self]; rfl)
  exact ⟨A', M', by rw [e0, Nat.zero_add], k1, k3, k4⟩
def rsum : List (Nat × Nat) → Nat
  | [] => 0
  | (a, b) :: l => (b - a) + rsum l
theorem rp_sum {R : Rl} {tn sn : Nat} : ∀ (l : List (Nat × Nat)) (p : Nat), p ≤ tn → Ms R tn p l → rp_len sn tn p l + rsum l = (tn - p) + l.length * sn
  | [], p, hp, _ => by simp [rp_len, rsum]
  | (a, b) :: l, p, hp, h => by
    have h1 := h.1.1
    have h3 := h.1.2.2.1
    have h2 := h.1.2.2.2.1.1
    have ih := rp_sum (sn := sn) l b h3 h.2
    simp only [rp_len, rsum, List.length_cons]
    rw [Nat.succ_mul]
    omega
theorem C_size_go {tn : Nat} {tx : Nat → Int32} {R : Rl} {N : Nat} (hN : N ≤ 160) {I : MI} {A : MA} {M : MI} {MB : MA} {L : ML} {Y : Nat → Int64} : ∀ (l : List (Nat × Nat)) (p c v fuel : Nat) (X : Nat → Int32), msA A c l → Ms R tn p l → c + l.length = N → rsum l ≤ v → l.length < fuel → X 1 = Int32.ofNat N → X 2 = Int32.ofNat v → X 3 = Int32.ofNat c →
    f_D_sizeWithSlipIn_go tn tx fuel 15 I A M MB L X Y = some (Int32.ofNat (v - rsum l), I, A, M, MB, L) := by
  intro l
  induction l with
  | nil =>
    intro p c v fuel X hA hl hc hv hf x1 x2 x3
    obtain ⟨f, rfl⟩ : ∃ f, fuel = f + 1 := ⟨fuel - 1, by omega⟩
    show f_D_sizeWithSlipIn_15 tn tx (f_D_sizeWithSlipIn_go tn tx f) I A M MB L X Y = _
    have hc' : c = N := hc
    unfold f_D_sizeWithSlipIn_15
    rw [x1, x3, if_pos ((pn_le (by omega) (by omega)).mpr (by omega)), x2]
    rfl
  | cons ab l ih =>
    obtain ⟨a, b⟩ := ab
    intro p c v fuel X hA hl hc hv hf x1 x2 x3
    obtain ⟨g12, g13, hA'⟩ := hA
    have hab := hl.1.2.2.2.1.1
    simp only [List.length_cons] at hc hf
    simp only [rsum] at hv ⊢
    obtain ⟨f, rfl⟩ : ∃ f, fuel = f + 1 := ⟨fuel - 1, by omega⟩
    have hc0 : c < 2147483648 := by omega
    show f_D_sizeWithSlipIn_15 tn tx (f_D_sizeWithSlipIn_go tn tx f) I A M MB L X Y = _
    unfold f_D_sizeWithSlipIn_15
    rw [x1, x3, if_neg (fun z => by have := (pn_le (a := N) (b := c) (by omega) (by omega)).mp z; omega), if_pos ((pn_inb hc0).mpr (by omega)), if_pos ((pn_inb hc0).mpr (by omega)), pn_nat hc0, g12, g13, x2, pn_sub (show a ≤ b by omega), pn_sub (show b - a ≤ v by omega), pn_succ]
    rw [ih b (c + 1) (v - (b - a)) f _ hA' hl.2 (by omega) (by omega) (by omega) (by rw [upd_ne _ _ (by decide), upd_ne _ _ (by decide)]; exact x1) (by rw [upd_ne _ _ (by decide), upd_self]) (upd_self _ _ _), Nat.sub_sub]
theorem C_size {tn : Nat} {tx : Nat → Int32} {R : Rl} {I : MI} {A : MA} {M : MI} {MB : MA} {L : ML} {l : List (Nat × Nat)} {sn : Nat} (ht : tn ≤ 160) (hA : msA A 0 l) (hl : Ms R tn 0 l) (i1 : I 1 = Int32.ofNat sn) : f_D_sizeWithSlipIn tn tx I A M MB L (Int32.ofNat l.length) = some (Int32.ofNat (rp_len sn tn 0 l), I, A, M, MB, L) := by
  have hlen := Ms.len l 0 (Nat.zero_le _) hl
  have hs := rp_sum (sn := sn) l 0 (Nat.zero_le _) hl
  have fu := wk_FUEL_big
  unfold f_D_sizeWithSlipIn f_D_sizeWithSlipIn_e
  rw [i1, pn_mul, pn_add]
  rw [C_size_go (R := R) (N := l.length) (by clear hA hl; omega) l 0 0 (tn + l.length * sn) wk_FUEL _ hA hl (by omega) (by clear hA hl; omega) (by clear hA hl; omega) (by rw [upd_ne _ _ (by decide), upd_ne _ _ (by decide), upd_self]) (by rw [upd_ne _ _ (by decide), upd_self]) (by rw [upd_self]; rfl), show tn + l.length * sn - rsum l = rp_len sn tn 0 l by clear hA hl; omega]
/-- line of the class -/
theorem C_brk_go {tn p : Nat} {tx : Nat → Int32} {I : MI} {A : MA} {M : MI} {MB : MA} {L : ML} {Y : Nat → Int64} (ht : tn ≤ 160) (hp : p ≤ tn) : ∀ (d i fuel : Nat) (X : Nat → Int32), p - i = d → i ≤ p → d < fuel → X 1 = Int32.ofNat p → X 2 = Int32.ofNat (brk tx i) → X 3 = Int32.ofNat i → f_D_breaksBefore_go tn tx fuel 4 I A M MB L X Y = some (Int32.ofNat (brk tx p), I, A, M, MB, L) := by
  intro d
  induction d with
  | zero =>
    intro i fuel X hd hi hf x1 x2 x3
    obtain ⟨f, rfl⟩ : ∃ f, fuel = f + 1 := ⟨fuel - 1, by omega⟩
    have ei : i = p := by omega
    show f_D_breaksBefore_4 tn tx (f_D_breaksBefore_go tn tx f) I A M MB L X Y = _
    unfold f_D_breaksBefore_4
    rw [x1, x3, if_pos ((pn_le (by omega) (by omega)).mpr (by omega)), x2, ei]
  | succ d ih =>
    intro i fuel X hd hi hf x1 x2 x3
    obtain ⟨f, rfl⟩ : ∃ f, fuel = f + 1 := ⟨fuel - 1, by omega⟩
    show f_D_breaksBefore_4 tn tx (f_D_breaksBefore_go tn tx f) I A M MB L X Y = _
    unfold f_D_breaksBefore_4 f_D_breaksBefore_23
    rw [x1, x3, if_neg (fun z => by have := (pn_le (a := p) (b := i) (by omega) (by omega)).mp z; omega), if_pos ((pn_inb (by omega)).mpr (by omega)), pn_nat (show i < 2147483648 by omega)]
    by_cases q : tx i = 10
    · rw [if_pos q]
      refine ih (i + 1) f _ (by omega) (by omega) (by omega) ?_ ?_ ?_
      · rw [upd_ne _ _ (by decide), upd_ne _ _ (by decide)]; exact x1
      · rw [upd_ne _ _ (by decide), upd_self, x2, pn_succ]
        simp only [brk]; rw [if_pos q]
      · rw [upd_self, upd_ne _ _ (by decide), x3, pn_succ]
    · rw [if_neg q]
      refine ih (i + 1) f _ (by omega) (by omega) (by omega) ?_ ?_ ?_
      · rw [upd_ne _ _ (by decide)]; exact x1
      · rw [upd_ne _ _ (by decide), x2]
        simp only [brk]; rw [if_neg q]; rfl
      · rw [upd_self, pn_succ]
theorem C_brk {tn p : Nat} {tx : Nat → Int32} {I : MI} {A : MA} {M : MI} {MB : MA} {L : ML} (ht : tn ≤ 160) (hp : p ≤ tn) : f_D_breaksBefore tn tx I A M MB L (Int32.ofNat p) = some (Int32.ofNat (brk tx p), I, A, M, MB, L) := by
  have fu := wk_FUEL_big
  unfold f_D_breaksBefore f_D_breaksBefore_e
  refine C_brk_go ht hp p 0 wk_FUEL _ (by omega) (Nat.zero_le _) (by omega) ?_ ?_ (by rw [upd_self]; rfl)
  · rw [upd_ne _ _ (by decide), upd_ne _ _ (by decide), upd_self]
  · rw [upd_ne _ _ (by decide), upd_self]; rfl
theorem C_lb_go {tn : Nat} {tx : Nat → Int32} {I : MI} {A : MA} {M : MI} {MB : MA} {L : ML} {Y : Nat → Int64} (ht : tn ≤ 160) {k2 : Int32} : ∀ (d i fuel : Nat) (X : Nat → Int32), tn - i = d → i ≤ tn → d < fuel → X 1 = k2 → X 2 = Int32.ofNat (brk tx i) → X 3 = Int32.ofNat i → (∀ n, k2 = Int32.ofNat n → n ≤ brk tx tn → brk tx i < n) →
    f_D_lineBegin_go tn tx fuel 10 I A M MB L X Y = if okLn k2 (brk tx tn) = true then some (0, Int32.ofNat (lst tx k2.toNatClampNeg d i), I, A, M, MB, L) else some (2, 0, I, A, M, MB, L) := by
  have hbt := brk_le tx tn
  intro d
  induction d with
  | zero =>
    intro i fuel X hd hi hf x1 x2 x3 hn
    obtain ⟨f, rfl⟩ : ∃ f, fuel = f + 1 := ⟨fuel - 1, by omega⟩
    have ei : i = tn := by omega
    show f_D_lineBegin_10 tn tx (f_D_lineBegin_go tn tx f) I A M MB L X Y = _
    unfold f_D_lineBegin_10
    rw [x3, if_pos ((pn_le (by omega) (by omega)).mpr (by omega))]
    by_cases q : okLn k2 (brk tx tn) = true
    · obtain ⟨n, h1, h2⟩ := okLn_nat (by omega) q
      have := hn n h2 h1
      rw [ei] at this
      omega
    · rw [if_neg q]
  | succ d ih =>
    intro i fuel X hd hi hf x1 x2 x3 hn
    obtain ⟨f, rfl⟩ : ∃ f, fuel = f + 1 := ⟨fuel - 1, by omega⟩
    have hbi := brk_le tx i
    have hmo : brk tx (i + 1) ≤ brk tx tn := by
      have := brk_mono tx (i + 1) (tn - (i + 1))
      rw [show i + 1 + (tn - (i + 1)) = tn by omega] at this
      exact this
    show f_D_lineBegin_10 tn tx (f_D_lineBegin_go tn tx f) I A M MB L X Y = _
    unfold f_D_lineBegin_10 f_D_lineBegin_42
    rw [x3, if_neg (fun z => by have := (pn_le (a := tn) (b := i) (by omega) (by omega)).mp z; omega), if_pos ((pn_inb (by omega)).mpr (by omega)), pn_nat (show i < 2147483648 by omega), x2, x1, pn_succ, pn_succ]
    have lu : ∀ n, k2 = Int32.ofNat n → n ≤ brk tx tn → lst tx k2.toNatClampNeg (d + 1) i = lst tx n d (i + 1) := fun n h1 h2 => by
      have := hn n h1 h2
      rw [h1, pn_nat (show n < 2147483648 by omega)]
      simp only [lst]
      rw [if_neg (by omega)]
    by_cases q : tx i = 10
    · have hb1 : brk tx (i + 1) = brk tx i + 1 := by simp only [brk]; rw [if_pos q]
      rw [if_pos q]
      by_cases q2 : Int32.ofNat (brk tx i + 1) = k2
      · rw [if_pos q2]
        have okl : okLn k2 (brk tx tn) = true := by
          unfold okLn
          rw [← q2, decide_eq_false (pn_nneg (show brk tx i + 1 < 2147483648 by omega)), decide_eq_true ((pn_lt (show brk tx i + 1 < 2147483648 by omega) (by omega)).mpr (by omega))]; rfl
        rw [if_pos okl, lu (brk tx i + 1) q2.symm (by omega)]
        have el : lst tx (brk tx i + 1) d (i + 1) = i + 1 := by
          cases d with
          | zero => rfl
          | succ d => simp only [lst]; rw [if_pos (by omega)]
        rw [el]
      · rw [if_neg q2]
        rw [ih (i + 1) f _ (by omega) (by omega) (by omega) (by rw [upd_ne _ _ (by decide), upd_ne _ _ (by decide)]; exact x1) (by rw [upd_ne _ _ (by decide), upd_self, hb1]) (by rw [upd_self, upd_ne _ _ (by decide), x3, pn_succ]) (fun n h1 h2 => ?_)]
        · by_cases okl : okLn k2 (brk tx tn) = true
          · obtain ⟨n, h1, h2⟩ := okLn_nat (by omega) okl
            rw [if_pos okl, if_pos okl, lu n h2 h1, h2, pn_nat (show n < 2147483648 by omega)]
          · rw [if_neg okl, if_neg okl]
        · have := hn n h1 h2
          rw [hb1]
          rcases Nat.lt_or_ge (brk tx i + 1) n with z | z
          · exact z
          · exact absurd (by rw [h1, show n = brk tx i + 1 by omega]) q2
    · have hb1 : brk tx (i + 1) = brk tx i := by simp only [brk]; rw [if_neg q]; rfl
      rw [if_neg q]
      rw [ih (i + 1) f _ (by omega) (by omega) (by omega) (by rw [upd_ne _ _ (by decide)]; exact x1) (by rw [upd_ne _ _ (by decide), hb1]; exact x2) (by rw [upd_self]) (fun n h1 h2 => by rw [hb1]; exact hn n h1 h2)]
      by_cases okl : okLn k2 (brk tx tn) = true
      · obtain ⟨n, h1, h2⟩ := okLn_nat (by omega) okl
        rw [if_pos okl, if_pos okl, lu n h2 h1, h2, pn_nat (show n < 2147483648 by omega)]
      · rw [if_neg okl, if_neg okl]
theorem C_lb {tn : Nat} {tx : Nat → Int32} {I : MI} {A : MA} {M : MI} {MB : MA} {L : ML} (ht : tn ≤ 160) (k2 : Int32) : f_D_lineBegin tn tx I A M MB L k2 = if okLn k2 (brk tx tn) = true then some (0, Int32.ofNat (l_beg tn tx k2), I, A, M, MB, L) else some (2, 0, I, A, M, MB, L) := by
  have fu := wk_FUEL_big
  unfold f_D_lineBegin f_D_lineBegin_e l_beg
  by_cases q : k2 = 0
  · have okl : okLn k2 (brk tx tn) = true := by
      have := brk_le tx tn
      have e0 : (0 : Int32) = Int32.ofNat 0 := rfl
      unfold okLn
      rw [q, e0, decide_eq_false (show ¬ Int32.ofNat 0 < Int32.ofNat 0 by decide), decide_eq_true ((pn_lt (show 0 < 2147483648 by omega) (by omega)).mpr (by omega))]; rfl
    rw [if_pos q, if_pos okl, q]
    have el : lst tx (0 : Int32).toNatClampNeg tn 0 = 0 := by
      rw [show (0 : Int32).toNatClampNeg = 0 by decide]
      cases tn with
      | zero => rfl
      | succ d => simp only [lst]; exact if_pos (Nat.zero_le _)
    rw [el]; rfl
  · rw [if_neg q]
    refine C_lb_go ht tn 0 wk_FUEL _ (by omega) (Nat.zero_le _) (by omega) ?_ ?_ (by rw [upd_self]; rfl) (fun n h1 h2 => ?_)
    · rw [upd_ne _ _ (by decide), upd_ne _ _ (by decide), upd_self]
    · rw [upd_ne _ _ (by decide), upd_self]; rfl
    · show 0 < n
      rcases Nat.eq_zero_or_pos n with z | z
      · exact absurd (by rw [h1, z]; rfl) q
      · exact z
theorem C_ls_go {tn s : Nat} {tx : Nat → Int32} {I : MI} {A : MA} {M : MI} {MB : MA} {L : ML} {Y : Nat → Int64} (ht : tn ≤ 160) : ∀ (d j fuel : Nat) (X : Nat → Int32), tn - j = d → j ≤ tn → s ≤ j → d < fuel → X 2 = Int32.ofNat (j - s) → X 3 = Int32.ofNat j → f_D_lineSize_go tn tx fuel 4 I A M MB L X Y = some (Int32.ofNat (eol tx d j - s), I, A, M, MB, L) := by
  intro d
  induction d with
  | zero =>
    intro j fuel X hd hj hsj hf x2 x3
    obtain ⟨f, rfl⟩ : ∃ f, fuel = f + 1 := ⟨fuel - 1, by omega⟩
    show f_D_lineSize_4 tn tx (f_D_lineSize_go tn tx f) I A M MB L X Y = _
    unfold f_D_lineSize_4 f_D_lineSize_33
    rw [x3, if_pos ((pn_le (by omega) (by omega)).mpr (by omega)), x2]; rfl
  | succ d ih =>
    intro j fuel X hd hj hsj hf x2 x3
    obtain ⟨f, rfl⟩ : ∃ f, fuel = f + 1 := ⟨fuel - 1, by omega⟩
    show f_D_lineSize_4 tn tx (f_D_lineSize_go tn tx f) I A M MB L X Y = _
    unfold f_D_lineSize_4 f_D_lineSize_33
    rw [x3, if_neg (fun z => by have := (pn_le (a := tn) (b := j) (by omega) (by omega)).mp z; omega), if_pos ((pn_inb (by omega)).mpr (by omega)), pn_nat (show j < 2147483648 by omega), x2]
    simp only [eol]
    by_cases q : tx j = 10
    · rw [if_pos q, if_pos q]
    · rw [if_neg q, if_neg q]
      refine ih (j + 1) f _ (by omega) (by omega) (by omega) (by omega) ?_ ?_
      · rw [upd_ne _ _ (by decide), upd_self, pn_succ, show j - s + 1 = j + 1 - s by omega]
      · rw [upd_self, pn_succ]
theorem C_ls {tn s : Nat} {tx : Nat → Int32} {I : MI} {A : MA} {M : MI} {MB : MA} {L : ML} (ht : tn ≤ 160) (hs : s ≤ tn) : f_D_lineSize tn tx I A M MB L (Int32.ofNat s) = some (Int32.ofNat (eol tx (tn - s) s - s), I, A, M, MB, L) := by
  have fu := wk_FUEL_big
  unfold f_D_lineSize f_D_lineSize_e
  refine C_ls_go ht (tn - s) s wk_FUEL _ rfl hs (Nat.le_refl _) (by omega) ?_ (upd_self _ _ _)
  rw [upd_ne _ _ (by decide), upd_self, Nat.sub_self]; rfl
theorem C_line {tn : Nat} {tx : Nat → Int32} {I : MI} {A : MA} {M : MI} {MB : MA} {L : ML} (ht : tn ≤ 160) (k1 k2 : Int32) : f_D_line tn tx I A M MB L k1 k2 = some (l_tag tn tx k1 k2, if l_tag tn tx k1 k2 = 0 then l_val tn tx k1 k2 else 0, I, A, M, MB, L) := by
  have hb := brk_le tx tn
  have h20 : ¬ (2 : Nat) = 0 := by decide
  have h30 : ¬ (3 : Nat) = 0 := by decide
  unfold f_D_line l_tag l_val
  by_cases q0 : k1 = 0
  · simp only [if_pos q0, C_brk ht (Nat.le_refl tn), Option.bind_some, pn_succ, if_true]
  simp only [if_neg q0]
  by_cases q1 : k1 = 1
  · simp only [if_pos q1, C_place, Option.bind_some]
    have eo : okP2 k2 tn = okPl k2 tn := rfl
    rw [eo]
    by_cases q : okPl k2 tn = true
    · obtain ⟨n, h1, h2⟩ := okPl_nat ht q
      simp only [if_pos q, if_true]
      rw [h2, C_brk ht h1, pn_nat (show n < 2147483648 by omega)]
      simp only [Option.bind_some]
    · simp only [if_neg q, if_neg h20, if_true]
  simp only [if_neg q1]
  by_cases q2 : k1 = 2
  · simp only [if_pos q2, C_lb ht]
    by_cases q : okLn k2 (brk tx tn) = true
    · simp only [if_pos q, Option.bind_some, if_true]
    · simp only [if_neg q, Option.bind_some, if_neg h20, if_true]
  simp only [if_neg q2]
  by_cases q3 : k1 = 3
  · simp only [if_pos q3, C_lb ht]
    by_cases q : okLn k2 (brk tx tn) = true
    · have hl := lst_le tx k2.toNatClampNeg tn 0
      simp only [if_pos q, Option.bind_some, if_true]
      rw [C_ls ht (show l_beg tn tx k2 ≤ tn by unfold l_beg; omega)]
      simp only [Option.bind_some]
    · simp only [if_neg q, Option.bind_some, if_neg h20, if_true]
  simp only [if_neg q3, if_neg h30]

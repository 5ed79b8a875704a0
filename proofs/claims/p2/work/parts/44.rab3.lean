/-- the second ways of a repetition -/
def t_tw (f : Nat → Int32) (n t h : Nat) (leave again : Bool) : Nat → Int32 :=
  if leave then (if again then upd (upd (upd (upd f n (-1)) (n + 1) (-1)) n (Int32.ofNat (n + 1))) t (Int32.ofNat h) else upd (upd (upd f n (-1)) (n + 1) (-1)) n (Int32.ofNat (n + 1)))
  else (if again then upd (upd (upd f n (-1)) (n + 1) (-1)) t (Int32.ofNat h) else upd (upd f n (-1)) (n + 1) (-1))
/-- a repetition -/
theorem RAbs.times {tn : Nat} {tx : Nat → Int32} {s : Nat → Nat} {I : MI} {A : MA} {r : RR} (h : RAbs tn tx s I A r) {p : Nat} (hp : p < r.np) (hop : r.on (r.tl p) = none) (hn : r.n + 1 < 160) (hnp : r.np < 160) (leave again : Bool) {k2 k3 : Int32} (hk2 : k2 = 0 ↔ leave = false) (hk3 : k3 = 0 ↔ again = false) :
    Res (f_M_times I A (Int32.ofNat p) k2 k3) (fun z => z.1 = Int32.ofNat r.np ∧ RAbs tn tx s z.2.1 z.2.2 (r_times r p leave again) ∧ MFr I z.2.1 A z.2.2) := by
  obtain ⟨t1, t2⟩ := h.tl p hp
  obtain ⟨d3, d4⟩ := h.hd p hp
  have hnb := h.nb
  have l1 : A 21 (r.tl p) = -1 := by have := h.on _ t2; rw [hop] at this; exact this
  have n1 : (Int32.ofNat p).toNatClampNeg = p := pn_nat (by omega)
  have e25 : upd (upd I 17 (Int32.ofNat (r.n + 1))) 17 (Int32.ofNat (r.n + 2)) 25 = Int32.ofNat r.np := by rw [upd_ne _ _ (by decide), upd_ne _ _ (by decide)]; exact h.np
  unfold f_M_times
  rw [B_two h.n hn (fun r1 _ _ r2 I2 A2 => if wk_inb (Int32.ofNat p) 160 = true then (f_M_link I2 A2 r1 ((A2 26) (Int32.ofNat p).toNatClampNeg)).bind (fun z3 => (fun r3 I3 A3 => if wk_inb (Int32.ofNat p) 160 = true then (f_M_link I3 A3 ((A3 27) (Int32.ofNat p).toNatClampNeg) r2).bind (fun z4 => (fun r4 I4 A4 => if k2 = 0 then f_M_times_54 I4 A4 (upd (upd (upd (upd (upd (fun _ => 0) 1 (Int32.ofNat p)) 2 k2) 3 k3) 4 r1) 5 r2) else (f_M_link I4 A4 r1 r2).bind (fun z5 => (fun r5 I5 A5 => f_M_times_54 I5 A5 (upd (upd (upd (upd (upd (fun _ => 0) 1 (Int32.ofNat p)) 2 k2) 3 k3) 4 r1) 5 r2)) z5.1 z5.2.1 z5.2.2)) z4.1 z4.2.1 z4.2.2) else none) z3.1 z3.2.1 z3.2.2) else none)]
  obtain ⟨B, hB⟩ : ∃ B, B = A_two A r.n := ⟨_, rfl⟩
  have b26 : B 26 = A 26 := by rw [hB]; exact A_twoo A r.n (by omega)
  have b27 : B 27 = A 27 := by rw [hB]; exact A_twoo A r.n (by omega)
  have b21 : B 21 = upd (upd (A 21) r.n (-1)) (r.n + 1) (-1) := by rw [hB]; exact A_two21 A r.n
  have b22 : B 22 = upd (upd (A 22) r.n (-1)) (r.n + 1) (-1) := by rw [hB]; exact A_two22 A r.n
  rw [← hB]
  simp only [pn_i160 (show p < 160 by omega), if_true, n1, b26, d3]
  rw [B_link1 _ (show r.n < 160 by omega) (by rw [b21, upd_ne _ _ (by omega), upd_self])]
  simp only [Option.bind_some]
  obtain ⟨B1, hB1⟩ : ∃ B1, B1 = va_up B 21 (upd (B 21) r.n (Int32.ofNat (r.hd p))) := ⟨_, rfl⟩
  have c21 : B1 21 = upd (upd (upd (A 21) r.n (-1)) (r.n + 1) (-1)) r.n (Int32.ofNat (r.hd p)) := by rw [hB1, va_up_self, b21]
  have co : ∀ j, j ≠ 21 → B1 j = B j := fun j hj => by rw [hB1]; exact va_up_ne _ _ hj
  rw [← hB1, co 27 (by decide), b27, t1, B_link1 _ (show r.tl p < 160 by omega) (by rw [c21, upd_ne _ _ (by omega), upd_ne _ _ (by omega), upd_ne _ _ (by omega)]; exact l1)]
  simp only [Option.bind_some]
  obtain ⟨B2, hB2⟩ : ∃ B2, B2 = va_up B1 21 (upd (B1 21) (r.tl p) (Int32.ofNat (r.n + 1))) := ⟨_, rfl⟩
  have d21 : B2 21 = upd (upd (upd (upd (A 21) r.n (-1)) (r.n + 1) (-1)) r.n (Int32.ofNat (r.hd p))) (r.tl p) (Int32.ofNat (r.n + 1)) := by rw [hB2, va_up_self, c21]
  have do_ : ∀ j, j ≠ 21 → B2 j = B j := fun j hj => by rw [hB2, va_up_ne _ _ hj]; exact co j hj
  rw [← hB2]
  have x1 : upd (upd (upd (upd (upd (fun _ => (0 : Int32)) 1 (Int32.ofNat p)) 2 k2) 3 k3) 4 (Int32.ofNat r.n)) 5 (Int32.ofNat (r.n + 1)) 1 = Int32.ofNat p := rfl
  have x3 : upd (upd (upd (upd (upd (fun _ => (0 : Int32)) 1 (Int32.ofNat p)) 2 k2) 3 k3) 4 (Int32.ofNat r.n)) 5 (Int32.ofNat (r.n + 1)) 3 = k3 := rfl
  have x4 : upd (upd (upd (upd (upd (fun _ => (0 : Int32)) 1 (Int32.ofNat p)) 2 k2) 3 k3) 4 (Int32.ofNat r.n)) 5 (Int32.ofNat (r.n + 1)) 4 = Int32.ofNat r.n := rfl
  have x5 : upd (upd (upd (upd (upd (fun _ => (0 : Int32)) 1 (Int32.ofNat p)) 2 k2) 3 k3) 4 (Int32.ofNat r.n)) 5 (Int32.ofNat (r.n + 1)) 5 = Int32.ofNat (r.n + 1) := rfl
  -- the end, for any second ways
  have fin : ∀ B4 : MA, (∀ j, j ≠ 22 → B4 j = B2 j) → B4 22 = t_tw (A 22) r.n (r.tl p) (r.hd p) leave again → Res (f_M_times_74 (upd (upd I 17 (Int32.ofNat (r.n + 1))) 17 (Int32.ofNat (r.n + 2))) B4 (upd (upd (upd (upd (upd (fun _ => 0) 1 (Int32.ofNat p)) 2 k2) 3 k3) 4 (Int32.ofNat r.n)) 5 (Int32.ofNat (r.n + 1)))) (fun z => z.1 = Int32.ofNat r.np ∧ RAbs tn tx s z.2.1 z.2.2 (r_times r p leave again) ∧ MFr I z.2.1 A z.2.2) := by
    intro B4 ho4 g22
    unfold f_M_times_74
    rw [x4, x5, B_piece _ _ e25 hnp]
    simp only [Option.bind_some]
    have g21 : B4 21 = upd (upd (upd (upd (A 21) r.n (-1)) (r.n + 1) (-1)) r.n (Int32.ofNat (r.hd p))) (r.tl p) (Int32.ofNat (r.n + 1)) := by rw [ho4 21 (by decide), d21]
    have gg : ∀ j, j ≠ 21 → j ≠ 22 → B4 j = A_two A r.n j := fun j h1 h2 => by rw [ho4 j h2, do_ j h1, hB]
    have g18 : B4 18 = upd (upd (A 18) r.n 0) (r.n + 1) 0 := by rw [gg 18 (by decide) (by decide), A_two18]
    have g19 : B4 19 = upd (upd (A 19) r.n 0) (r.n + 1) 0 := by rw [gg 19 (by decide) (by decide), A_two19]
    have g20 : B4 20 = upd (upd (A 20) r.n 0) (r.n + 1) 0 := by rw [gg 20 (by decide) (by decide), A_two20]
    have go : ∀ j, j < 18 ∨ 23 ≤ j → B4 j = A j := fun j hj => by rw [gg j (by omega) (by omega)]; exact A_twoo A r.n hj
    have hm : r.n ≤ (r_times r p leave again).n := by show r.n ≤ r.n + 2; omega
    have hm1 : r.n < (r_times r p leave again).n := by show r.n < r.n + 2; omega
    have hm2 : r.n + 1 < (r_times r p leave again).n := by show r.n + 1 < r.n + 2; omega
    have hq' : r.np ≤ (r_times r p leave again).np := Nat.le_succ _
    have hlt : ∀ u, u < (r_times r p leave again).n → u ≠ r.n → u ≠ r.n + 1 → u < r.n := fun u hu e e' => by have : u < r.n + 2 := hu; omega
    have hlp : ∀ u, u < (r_times r p leave again).np → u ≠ r.np → u < r.np := fun u hu e => by have : u < r.np + 1 := hu; omega
    have htk := h.tk p hp
    refine Res.mk ⟨rfl, ⟨?_, hn, fun u hu => ?_, fun u hu => ?_, fun u hu => ?_, ?_, hnp, fun p' hp' => ?_, fun p' hp' => ?_, fun p' hp' => ?_, fun u hu => ?_, ?_, h.kb, fun j hj => ?_, fun j hj => ?_, fun j hj => ?_, fun u hu => ?_, fun u hu hk0 => ?_⟩, ?_⟩
    · simp only [upd, if_true, if_false, Nat.reduceEqDiff]; rfl
    · simp only [va_up, if_true, if_false, Nat.reduceEqDiff, g21]
      exact nd_upd (fun _ => nd_upd (fun _ => nd_upd (fun e1 => nd_upd (fun e => (h.on u (hlt u hu e e1)).mono hm) rfl) rfl) ⟨Nat.lt_of_lt_of_le d4 hm, rfl⟩) ⟨hm2, rfl⟩
    · simp only [va_up, if_true, if_false, Nat.reduceEqDiff, g22]
      have hb : nd (r_times r p leave again).n (upd (upd (A 22) r.n (-1)) (r.n + 1) (-1) u) (sU (sU r.tw r.n none) (r.n + 1) none u) := nd_upd (fun e1 => nd_upd (fun e => (h.tw u (hlt u hu e e1)).mono hm) rfl) rfl
      cases leave <;> cases again
      · exact hb
      · exact nd_upd (fun _ => hb) ⟨Nat.lt_of_lt_of_le d4 hm, rfl⟩
      · exact nd_upd (fun _ => hb) ⟨hm2, rfl⟩
      · exact nd_upd (fun _ => nd_upd (fun _ => hb) ⟨hm2, rfl⟩) ⟨Nat.lt_of_lt_of_le d4 hm, rfl⟩
    · simp only [va_up, if_true, if_false, Nat.reduceEqDiff, g18, g19, g20]
      exact rlab_upd0 (fun e1 => rlab_upd0 (fun e => h.lab u (hlt u hu e e1)))
    · simp only [upd_self]; rfl
    · simp only [va_up, if_true, if_false, Nat.reduceEqDiff, go 26 (by omega)]; exact of_upd (fun e => ⟨(h.hd p' (hlp p' hp' e)).1, Nat.lt_of_lt_of_le (h.hd p' (hlp p' hp' e)).2 hm⟩) hm1
    · simp only [va_up, if_true, if_false, Nat.reduceEqDiff, go 27 (by omega)]; exact of_upd (fun e => ⟨(h.tl p' (hlp p' hp' e)).1, Nat.lt_of_lt_of_le (h.tl p' (hlp p' hp' e)).2 hm⟩) hm2
    · simp only [va_up, if_true, if_false, Nat.reduceEqDiff, g18]
      by_cases e : p' = r.np
      · have e2 : (r_times r p leave again).tl p' = r.n + 1 := by rw [e]; exact sU_self _ _ _
        rw [e2, upd_self]
      · have e2 : (r_times r p leave again).tl p' = r.tl p' := sU_ne _ _ e
        have := (h.tl p' (hlp p' hp' e)).2
        rw [e2, upd_ne _ _ (by omega), upd_ne _ _ (by omega)]; exact h.tk p' (hlp p' hp' e)
    · intro hne'
      simp only [va_up, if_true, if_false, Nat.reduceEqDiff, g18]
      by_cases e1 : u = r.n + 1
      · rw [e1, upd_self]
      · rw [upd_ne _ _ e1]
        by_cases e : u = r.n
        · rw [e, upd_self]
        · rw [upd_ne _ _ e]
          by_cases et : u = r.tl p
          · rw [et]; exact htk
          · rw [r_times_tw1 leave again (hlt u hu e e1) et] at hne'
            exact h.of u (hlt u hu e e1) hne'
    · simp only [upd, if_true, if_false, Nat.reduceEqDiff]; exact h.k
    · simp only [va_up, if_true, if_false, Nat.reduceEqDiff, go 29 (by omega)]; exact (h.ch j hj).mono hq'
    · simp only [va_up, if_true, if_false, Nat.reduceEqDiff, go 30 (by omega)]; exact ⟨(h.rw j hj).1, Nat.lt_of_lt_of_le (h.rw j hj).2 hq'⟩
    · simp only [va_up, if_true, if_false, Nat.reduceEqDiff, go 31 (by omega)]; exact (h.pt j hj).mono hq'
    · simp only [va_up, if_true, if_false, Nat.reduceEqDiff, g18, g19, g20]; exact se_upd (fun e1 => se_upd (fun e => h.se u (hlt u hu e e1)) se_0) se_0
    · simp only [va_up, if_true, if_false, Nat.reduceEqDiff, g18] at hk0; exact oo_s (fun _ => oo_s (fun _ => oo_0 (fun e1 => oo_0 (fun e => h.oo u (hlt u hu e e1))) hk0))
    · refine ⟨fun j hj => ?_, fun j hj => ?_⟩
      · dsimp only; rw [upd_ne _ _ (by omega), upd_ne _ _ (by omega), upd_ne _ _ (by omega)]
      · dsimp only; rw [va_up_ne _ _ (by omega), va_up_ne _ _ (by omega)]; exact go j (by omega)
  -- from the first way out on
  have mid : ∀ B3 : MA, (∀ j, j ≠ 22 → B3 j = B2 j) → B3 22 = t_tw (A 22) r.n (r.tl p) (r.hd p) leave false → Res (f_M_times_54 (upd (upd I 17 (Int32.ofNat (r.n + 1))) 17 (Int32.ofNat (r.n + 2))) B3 (upd (upd (upd (upd (upd (fun _ => 0) 1 (Int32.ofNat p)) 2 k2) 3 k3) 4 (Int32.ofNat r.n)) 5 (Int32.ofNat (r.n + 1)))) (fun z => z.1 = Int32.ofNat r.np ∧ RAbs tn tx s z.2.1 z.2.2 (r_times r p leave again) ∧ MFr I z.2.1 A z.2.2) := by
    intro B3 ho3 h22
    unfold f_M_times_54
    rw [x3, x1]
    by_cases q : again = false
    · rw [if_pos (hk3.mpr q)]
      exact fin B3 ho3 (by rw [h22, q])
    · have qa : again = true := by cases again <;> simp_all
      rw [if_neg (fun z => q (hk3.mp z)), if_pos (pn_i160 (show p < 160 by omega)), if_pos (pn_i160 (show p < 160 by omega)), n1, ho3 27 (by decide), do_ 27 (by decide), b27, t1, ho3 26 (by decide), do_ 26 (by decide), b26, d3]
      rw [B_link2 (v := r.n + 1) _ (show r.tl p < 160 by omega) (by omega) (by rw [ho3 21 (by decide), d21, upd_self])]
      simp only [Option.bind_some]
      refine fin _ (fun j hj => by rw [va_up_ne _ _ hj]; exact ho3 j hj) ?_
      rw [va_up_self, h22, qa]
      cases leave <;> rfl
  by_cases q : leave = false
  · rw [if_pos (hk2.mpr q)]
    refine mid B2 (fun _ _ => rfl) ?_
    rw [do_ 22 (by decide), b22, q]; rfl
  · have ql : leave = true := by cases leave <;> simp_all
    rw [if_neg (fun z => q (hk2.mp z)), B_link2 (v := r.hd p) _ (show r.n < 160 by omega) (by omega) (by rw [d21, upd_ne _ _ (by omega), upd_self])]
    simp only [Option.bind_some]
    refine mid _ (fun j hj => by rw [va_up_ne _ _ hj]) ?_
    rw [va_up_self, do_ 22 (by decide), b22, ql]; rfl

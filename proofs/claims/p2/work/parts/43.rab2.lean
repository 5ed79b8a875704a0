/-- one piece behind another -/
theorem RAbs.behind {tn : Nat} {tx : Nat → Int32} {s : Nat → Nat} {I : MI} {A : MA} {r : RR} (h : RAbs tn tx s I A r) {p q : Nat} (hp : p < r.np) (hq : q < r.np) (hon : r.on (r.tl p) = none) (hnp : r.np < 160) :
    Res (f_M_behind I A (Int32.ofNat p) (Int32.ofNat q)) (fun z => z.1 = Int32.ofNat r.np ∧ RAbs tn tx s z.2.1 z.2.2 (r_seq r p q) ∧ MFr I z.2.1 A z.2.2) := by
  obtain ⟨t1, t2⟩ := h.tl p hp
  obtain ⟨d1, d2⟩ := h.hd q hq
  obtain ⟨d3, d4⟩ := h.hd p hp
  obtain ⟨t3, t4⟩ := h.tl q hq
  have hnb := h.nb
  have l1 : A 21 (r.tl p) = -1 := by have := h.on _ t2; rw [hon] at this; exact this
  have n1 : (Int32.ofNat p).toNatClampNeg = p := pn_nat (by omega)
  have n2 : (Int32.ofNat q).toNatClampNeg = q := pn_nat (by omega)
  have h0 : (0 : Int32) ≤ Int32.ofNat q := pn_0le (by omega)
  have q26 : va_up A 21 (upd (A 21) (r.tl p) (Int32.ofNat (r.hd q))) 26 = A 26 := va_up_ne _ _ (by decide)
  have q27 : va_up A 21 (upd (A 21) (r.tl p) (Int32.ofNat (r.hd q))) 27 = A 27 := va_up_ne _ _ (by decide)
  simp only [f_M_behind, if_pos h0, pn_i160 (show p < 160 by omega), pn_i160 (show q < 160 by omega), if_true, n1, n2, t1, d1, B_link1 _ (show r.tl p < 160 by omega) l1, Option.bind_some, q26, q27, d3, t3, B_piece _ _ h.np hnp]
  have hq' : r.np ≤ (r_seq r p q).np := Nat.le_succ _
  have hlp : ∀ u, u < (r_seq r p q).np → u ≠ r.np → u < r.np := fun u hu e => by have : u < r.np + 1 := hu; omega
  refine Res.mk ⟨rfl, ⟨?_, h.nb, fun u hu => ?_, fun u hu => ?_, fun u hu => ?_, ?_, hnp, fun p' hp' => ?_, fun p' hp' => ?_, fun p' hp' => ?_, fun u hu => ?_, ?_, h.kb, fun j hj => ?_, fun j hj => ?_, fun j hj => ?_, fun u hu => ?_, fun u hu hk0 => ?_⟩, ?_⟩
  · simp only [upd, if_true, if_false, Nat.reduceEqDiff]; exact h.n
  · simp only [va_up, if_true, if_false, Nat.reduceEqDiff]; exact nd_upd (fun _ => h.on u hu) ⟨d2, rfl⟩
  · simp only [va_up, if_true, if_false, Nat.reduceEqDiff]; exact h.tw u hu
  · simp only [va_up, if_true, if_false, Nat.reduceEqDiff]; exact h.lab u hu
  · simp only [upd_self]; rfl
  · simp only [va_up, if_true, if_false, Nat.reduceEqDiff]; exact of_upd (fun e => h.hd p' (hlp p' hp' e)) d4
  · simp only [va_up, if_true, if_false, Nat.reduceEqDiff]; exact of_upd (fun e => h.tl p' (hlp p' hp' e)) t4
  · simp only [va_up, if_true, if_false, Nat.reduceEqDiff]
    by_cases e : p' = r.np
    · have e2 : (r_seq r p q).tl p' = r.tl q := by rw [e]; exact sU_self _ _ _
      rw [e2]; exact h.tk q hq
    · have e2 : (r_seq r p q).tl p' = r.tl p' := sU_ne _ _ e
      rw [e2]; exact h.tk p' (hlp p' hp' e)
  · simp only [va_up, if_true, if_false, Nat.reduceEqDiff]; exact h.of u hu
  · simp only [upd, if_true, if_false, Nat.reduceEqDiff]; exact h.k
  · simp only [va_up, if_true, if_false, Nat.reduceEqDiff]; exact (h.ch j hj).mono hq'
  · simp only [va_up, if_true, if_false, Nat.reduceEqDiff]; exact ⟨(h.rw j hj).1, Nat.lt_of_lt_of_le (h.rw j hj).2 hq'⟩
  · simp only [va_up, if_true, if_false, Nat.reduceEqDiff]; exact (h.pt j hj).mono hq'
  · simp only [va_up, if_true, if_false, Nat.reduceEqDiff]; exact h.se u hu
  · simp only [va_up, if_true, if_false, Nat.reduceEqDiff] at hk0; exact oo_s (fun _ => h.oo u hu hk0)
  · refine ⟨fun j hj => ?_, fun j hj => ?_⟩
    · dsimp only; rw [upd_ne _ _ (by omega)]
    · dsimp only; rw [va_up_ne _ _ (by omega), va_up_ne _ _ (by omega), va_up_ne _ _ (by omega)]
theorem B_behind0 {I : MI} {A : MA} (p : Int32) : f_M_behind I A p (-1) = some (p, I, A) := by
  have h0 : ¬ (0 : Int32) ≤ -1 := by decide
  simp only [f_M_behind, if_neg h0]
/-- two empty nodes -/
def A_two (A : MA) (n : Nat) : MA :=
  va_up (va_up (va_up (va_up (va_up (va_up (va_up (va_up (va_up (va_up A 18 (upd (A 18) n 0)) 19 (upd (A 19) n 0)) 20 (upd (A 20) n 0)) 21 (upd (A 21) n (-1))) 22 (upd (A 22) n (-1))) 18 (upd (upd (A 18) n 0) (n + 1) 0)) 19 (upd (upd (A 19) n 0) (n + 1) 0)) 20 (upd (upd (A 20) n 0) (n + 1) 0)) 21 (upd (upd (A 21) n (-1)) (n + 1) (-1))) 22 (upd (upd (A 22) n (-1)) (n + 1) (-1))
theorem A_two18 (A : MA) (n : Nat) : A_two A n 18 = upd (upd (A 18) n 0) (n + 1) 0 := by simp only [A_two, va_up, if_true, if_false, Nat.reduceEqDiff]
theorem A_two19 (A : MA) (n : Nat) : A_two A n 19 = upd (upd (A 19) n 0) (n + 1) 0 := by simp only [A_two, va_up, if_true, if_false, Nat.reduceEqDiff]
theorem A_two20 (A : MA) (n : Nat) : A_two A n 20 = upd (upd (A 20) n 0) (n + 1) 0 := by simp only [A_two, va_up, if_true, if_false, Nat.reduceEqDiff]
theorem A_two21 (A : MA) (n : Nat) : A_two A n 21 = upd (upd (A 21) n (-1)) (n + 1) (-1) := by simp only [A_two, va_up, if_true, if_false, Nat.reduceEqDiff]
theorem A_two22 (A : MA) (n : Nat) : A_two A n 22 = upd (upd (A 22) n (-1)) (n + 1) (-1) := by simp only [A_two, va_up, if_true, if_false, Nat.reduceEqDiff]
theorem A_twoo (A : MA) (n : Nat) {j : Nat} (hj : j < 18 ∨ 23 ≤ j) : A_two A n j = A j := by
  unfold A_two
  rw [va_up_ne _ _ (by omega), va_up_ne _ _ (by omega), va_up_ne _ _ (by omega), va_up_ne _ _ (by omega), va_up_ne _ _ (by omega), va_up_ne _ _ (by omega), va_up_ne _ _ (by omega), va_up_ne _ _ (by omega), va_up_ne _ _ (by omega), va_up_ne _ _ (by omega)]
theorem B_two {I : MI} {A : MA} {n : Nat} (hn : I 17 = Int32.ofNat n) (h : n + 1 < 160) {β : Type} (g : Int32 → MI → MA → Int32 → MI → MA → Option β) :
    (f_M_node I A 0 0 0).bind (fun z1 => (f_M_node z1.2.1 z1.2.2 0 0 0).bind (fun z2 => g z1.1 z1.2.1 z1.2.2 z2.1 z2.2.1 z2.2.2)) = g (Int32.ofNat n) (upd I 17 (Int32.ofNat (n + 1))) (va_up (va_up (va_up (va_up (va_up A 18 (upd (A 18) n 0)) 19 (upd (A 19) n 0)) 20 (upd (A 20) n 0)) 21 (upd (A 21) n (-1))) 22 (upd (A 22) n (-1))) (Int32.ofNat (n + 1)) (upd (upd I 17 (Int32.ofNat (n + 1))) 17 (Int32.ofNat (n + 2))) (A_two A n) := by
  have e17 : upd I 17 (Int32.ofNat (n + 1)) 17 = Int32.ofNat (n + 1) := upd_self _ _ _
  rw [B_node 0 0 0 hn (by omega)]
  simp only [Option.bind_some]
  rw [B_node 0 0 0 e17 h]
  simp only [Option.bind_some]
  have e18 : va_up (va_up (va_up (va_up (va_up A 18 (upd (A 18) n 0)) 19 (upd (A 19) n 0)) 20 (upd (A 20) n 0)) 21 (upd (A 21) n (-1))) 22 (upd (A 22) n (-1)) 18 = upd (A 18) n 0 := by simp only [va_up, if_true, if_false, Nat.reduceEqDiff]
  have e19 : va_up (va_up (va_up (va_up (va_up A 18 (upd (A 18) n 0)) 19 (upd (A 19) n 0)) 20 (upd (A 20) n 0)) 21 (upd (A 21) n (-1))) 22 (upd (A 22) n (-1)) 19 = upd (A 19) n 0 := by simp only [va_up, if_true, if_false, Nat.reduceEqDiff]
  have e20 : va_up (va_up (va_up (va_up (va_up A 18 (upd (A 18) n 0)) 19 (upd (A 19) n 0)) 20 (upd (A 20) n 0)) 21 (upd (A 21) n (-1))) 22 (upd (A 22) n (-1)) 20 = upd (A 20) n 0 := by simp only [va_up, if_true, if_false, Nat.reduceEqDiff]
  have e21 : va_up (va_up (va_up (va_up (va_up A 18 (upd (A 18) n 0)) 19 (upd (A 19) n 0)) 20 (upd (A 20) n 0)) 21 (upd (A 21) n (-1))) 22 (upd (A 22) n (-1)) 21 = upd (A 21) n (-1) := by simp only [va_up, if_true, if_false, Nat.reduceEqDiff]
  have e22 : va_up (va_up (va_up (va_up (va_up A 18 (upd (A 18) n 0)) 19 (upd (A 19) n 0)) 20 (upd (A 20) n 0)) 21 (upd (A 21) n (-1))) 22 (upd (A 22) n (-1)) 22 = upd (A 22) n (-1) := by simp only [va_up, if_true, if_false, Nat.reduceEqDiff]
  rw [e18, e19, e20, e21, e22]
  rfl
/-- a choice of two -/
theorem RAbs.alt {tn : Nat} {tx : Nat → Int32} {s : Nat → Nat} {I : MI} {A : MA} {r : RR} (h : RAbs tn tx s I A r) {p q : Nat} (hp : p < r.np) (hq : q < r.np) (hop : r.on (r.tl p) = none) (hoq : r.on (r.tl q) = none) (hne : r.tl q ≠ r.tl p) (hn : r.n + 1 < 160) (hnp : r.np < 160) :
    Res (f_M_either I A (Int32.ofNat p) (Int32.ofNat q)) (fun z => z.1 = Int32.ofNat r.np ∧ RAbs tn tx s z.2.1 z.2.2 (r_alt r p q) ∧ MFr I z.2.1 A z.2.2) := by
  obtain ⟨t1, t2⟩ := h.tl p hp
  obtain ⟨t3, t4⟩ := h.tl q hq
  obtain ⟨d1, d2⟩ := h.hd q hq
  obtain ⟨d3, d4⟩ := h.hd p hp
  have hnb := h.nb
  have l1 : A 21 (r.tl p) = -1 := by have := h.on _ t2; rw [hop] at this; exact this
  have l2 : A 21 (r.tl q) = -1 := by have := h.on _ t4; rw [hoq] at this; exact this
  have n1 : (Int32.ofNat p).toNatClampNeg = p := pn_nat (by omega)
  have n2 : (Int32.ofNat q).toNatClampNeg = q := pn_nat (by omega)
  have h0 : (0 : Int32) ≤ Int32.ofNat p := pn_0le (by omega)
  have e25 : upd (upd I 17 (Int32.ofNat (r.n + 1))) 17 (Int32.ofNat (r.n + 2)) 25 = Int32.ofNat r.np := by rw [upd_ne _ _ (by decide), upd_ne _ _ (by decide)]; exact h.np
  unfold f_M_either
  rw [if_pos h0, B_two h.n hn (fun r1 _ _ r2 I2 A2 => if wk_inb (Int32.ofNat p) 160 = true then (f_M_link I2 A2 r1 ((A2 26) (Int32.ofNat p).toNatClampNeg)).bind (fun z3 => (fun r3 I3 A3 => if wk_inb (Int32.ofNat q) 160 = true then (f_M_link I3 A3 r1 ((A3 26) (Int32.ofNat q).toNatClampNeg)).bind (fun z4 => (fun r4 I4 A4 => if wk_inb (Int32.ofNat p) 160 = true then (f_M_link I4 A4 ((A4 27) (Int32.ofNat p).toNatClampNeg) r2).bind (fun z5 => (fun r5 I5 A5 => if wk_inb (Int32.ofNat q) 160 = true then (f_M_link I5 A5 ((A5 27) (Int32.ofNat q).toNatClampNeg) r2).bind (fun z6 => (fun r6 I6 A6 => (f_M_piece I6 A6 r1 r2).bind (fun z7 => (fun r7 I7 A7 => some (r7, I7, A7)) z7.1 z7.2.1 z7.2.2)) z6.1 z6.2.1 z6.2.2) else none) z5.1 z5.2.1 z5.2.2) else none) z4.1 z4.2.1 z4.2.2) else none) z3.1 z3.2.1 z3.2.2) else none)]
  obtain ⟨B, hB⟩ : ∃ B, B = A_two A r.n := ⟨_, rfl⟩
  have b26 : B 26 = A 26 := by rw [hB]; exact A_twoo A r.n (by omega)
  have b27 : B 27 = A 27 := by rw [hB]; exact A_twoo A r.n (by omega)
  have b21 : B 21 = upd (upd (A 21) r.n (-1)) (r.n + 1) (-1) := by rw [hB]; exact A_two21 A r.n
  rw [← hB]
  simp only [pn_i160 (show p < 160 by omega), pn_i160 (show q < 160 by omega), if_true, n1, n2, b26, d3]
  rw [B_link1 _ (show r.n < 160 by omega) (by rw [b21, upd_ne _ _ (by omega), upd_self])]
  simp only [Option.bind_some]
  obtain ⟨B1, hB1⟩ : ∃ B1, B1 = va_up B 21 (upd (B 21) r.n (Int32.ofNat (r.hd p))) := ⟨_, rfl⟩
  have c21 : B1 21 = upd (upd (upd (A 21) r.n (-1)) (r.n + 1) (-1)) r.n (Int32.ofNat (r.hd p)) := by rw [hB1, va_up_self, b21]
  have co : ∀ j, j ≠ 21 → B1 j = B j := fun j hj => by rw [hB1]; exact va_up_ne _ _ hj
  rw [← hB1, co 26 (by decide), b26, d1, B_link2 (v := r.hd p) _ (show r.n < 160 by omega) (by omega) (by rw [c21, upd_self])]
  simp only [Option.bind_some]
  obtain ⟨B2, hB2⟩ : ∃ B2, B2 = va_up B1 22 (upd (B1 22) r.n (Int32.ofNat (r.hd q))) := ⟨_, rfl⟩
  have do_ : ∀ j, j ≠ 22 → B2 j = B1 j := fun j hj => by rw [hB2]; exact va_up_ne _ _ hj
  rw [← hB2, do_ 27 (by decide), co 27 (by decide), b27, t1, B_link1 _ (show r.tl p < 160 by omega) (by rw [do_ 21 (by decide), c21, upd_ne _ _ (by omega), upd_ne _ _ (by omega), upd_ne _ _ (by omega)]; exact l1)]
  simp only [Option.bind_some]
  obtain ⟨B3, hB3⟩ : ∃ B3, B3 = va_up B2 21 (upd (B2 21) (r.tl p) (Int32.ofNat (r.n + 1))) := ⟨_, rfl⟩
  have eo : ∀ j, j ≠ 21 → B3 j = B2 j := fun j hj => by rw [hB3]; exact va_up_ne _ _ hj
  have e21 : B3 21 = upd (B2 21) (r.tl p) (Int32.ofNat (r.n + 1)) := by rw [hB3, va_up_self]
  rw [← hB3, eo 27 (by decide), do_ 27 (by decide), co 27 (by decide), b27, t3, B_link1 _ (show r.tl q < 160 by omega) (by rw [e21, upd_ne _ _ hne, do_ 21 (by decide), c21, upd_ne _ _ (by omega), upd_ne _ _ (by omega), upd_ne _ _ (by omega)]; exact l2)]
  simp only [Option.bind_some]
  obtain ⟨B4, hB4⟩ : ∃ B4, B4 = va_up B3 21 (upd (B3 21) (r.tl q) (Int32.ofNat (r.n + 1))) := ⟨_, rfl⟩
  have fo : ∀ j, j ≠ 21 → B4 j = B3 j := fun j hj => by rw [hB4]; exact va_up_ne _ _ hj
  rw [← hB4, B_piece _ _ e25 hnp]
  simp only [Option.bind_some]
  have g21 : B4 21 = upd (upd (upd (upd (upd (A 21) r.n (-1)) (r.n + 1) (-1)) r.n (Int32.ofNat (r.hd p))) (r.tl p) (Int32.ofNat (r.n + 1))) (r.tl q) (Int32.ofNat (r.n + 1)) := by
    rw [hB4, va_up_self, e21, do_ 21 (by decide), c21]
  have g22 : B4 22 = upd (upd (upd (A 22) r.n (-1)) (r.n + 1) (-1)) r.n (Int32.ofNat (r.hd q)) := by
    rw [fo 22 (by decide), eo 22 (by decide), hB2, va_up_self, co 22 (by decide), hB, A_two22]
  have gg : ∀ j, j ≠ 21 → j ≠ 22 → B4 j = A_two A r.n j := fun j h1 h2 => by rw [fo j h1, eo j h1, do_ j h2, co j h1, hB]
  have g18 : B4 18 = upd (upd (A 18) r.n 0) (r.n + 1) 0 := by rw [gg 18 (by decide) (by decide), A_two18]
  have g19 : B4 19 = upd (upd (A 19) r.n 0) (r.n + 1) 0 := by rw [gg 19 (by decide) (by decide), A_two19]
  have g20 : B4 20 = upd (upd (A 20) r.n 0) (r.n + 1) 0 := by rw [gg 20 (by decide) (by decide), A_two20]
  have go : ∀ j, j < 18 ∨ 23 ≤ j → B4 j = A j := fun j hj => by rw [gg j (by omega) (by omega)]; exact A_twoo A r.n hj
  have hm : r.n ≤ (r_alt r p q).n := by show r.n ≤ r.n + 2; omega
  have hm1 : r.n < (r_alt r p q).n := by show r.n < r.n + 2; omega
  have hm2 : r.n + 1 < (r_alt r p q).n := by show r.n + 1 < r.n + 2; omega
  have hq' : r.np ≤ (r_alt r p q).np := Nat.le_succ _
  have hlt : ∀ u, u < (r_alt r p q).n → u ≠ r.n → u ≠ r.n + 1 → u < r.n := fun u hu e e' => by have : u < r.n + 2 := hu; omega
  have hlp : ∀ u, u < (r_alt r p q).np → u ≠ r.np → u < r.np := fun u hu e => by have : u < r.np + 1 := hu; omega
  refine Res.mk ⟨rfl, ⟨?_, hn, fun u hu => ?_, fun u hu => ?_, fun u hu => ?_, ?_, hnp, fun p' hp' => ?_, fun p' hp' => ?_, fun p' hp' => ?_, fun u hu => ?_, ?_, h.kb, fun j hj => ?_, fun j hj => ?_, fun j hj => ?_, fun u hu => ?_, fun u hu hk0 => ?_⟩, ?_⟩
  · simp only [upd, if_true, if_false, Nat.reduceEqDiff]; rfl
  · simp only [va_up, if_true, if_false, Nat.reduceEqDiff, g21]
    exact nd_upd (fun _ => nd_upd (fun _ => nd_upd (fun _ => nd_upd (fun e1 => nd_upd (fun e => (h.on u (hlt u hu e e1)).mono hm) rfl) rfl) ⟨Nat.lt_of_lt_of_le d4 hm, rfl⟩) ⟨hm2, rfl⟩) ⟨hm2, rfl⟩
  · simp only [va_up, if_true, if_false, Nat.reduceEqDiff, g22]
    exact nd_upd (fun _ => nd_upd (fun e1 => nd_upd (fun e => (h.tw u (hlt u hu e e1)).mono hm) rfl) rfl) ⟨Nat.lt_of_lt_of_le d2 hm, rfl⟩
  · simp only [va_up, if_true, if_false, Nat.reduceEqDiff, g18, g19, g20]
    exact rlab_upd0 (fun e1 => rlab_upd0 (fun e => h.lab u (hlt u hu e e1)))
  · simp only [upd_self]; rfl
  · simp only [va_up, if_true, if_false, Nat.reduceEqDiff, go 26 (by omega)]; exact of_upd (fun e => ⟨(h.hd p' (hlp p' hp' e)).1, Nat.lt_of_lt_of_le (h.hd p' (hlp p' hp' e)).2 hm⟩) hm1
  · simp only [va_up, if_true, if_false, Nat.reduceEqDiff, go 27 (by omega)]; exact of_upd (fun e => ⟨(h.tl p' (hlp p' hp' e)).1, Nat.lt_of_lt_of_le (h.tl p' (hlp p' hp' e)).2 hm⟩) hm2
  · simp only [va_up, if_true, if_false, Nat.reduceEqDiff, g18]
    by_cases e : p' = r.np
    · have e2 : (r_alt r p q).tl p' = r.n + 1 := by rw [e]; exact sU_self _ _ _
      rw [e2, upd_self]
    · have e2 : (r_alt r p q).tl p' = r.tl p' := sU_ne _ _ e
      have := (h.tl p' (hlp p' hp' e)).2
      rw [e2, upd_ne _ _ (by omega), upd_ne _ _ (by omega)]; exact h.tk p' (hlp p' hp' e)
  · intro hne'
    simp only [va_up, if_true, if_false, Nat.reduceEqDiff, g18]
    by_cases e1 : u = r.n + 1
    · rw [e1, upd_self]
    · rw [upd_ne _ _ e1]
      by_cases e : u = r.n
      · rw [e, upd_self]
      · rw [upd_ne _ _ e]
        have hne2 : sU (sU (sU r.tw r.n none) (r.n + 1) none) r.n (some (r.hd q)) u ≠ none := hne'
        rw [sU_ne _ _ e, sU_ne _ _ e1, sU_ne _ _ e] at hne2
        exact h.of u (hlt u hu e e1) hne2
  · simp only [upd, if_true, if_false, Nat.reduceEqDiff]; exact h.k
  · simp only [va_up, if_true, if_false, Nat.reduceEqDiff, go 29 (by omega)]; exact (h.ch j hj).mono hq'
  · simp only [va_up, if_true, if_false, Nat.reduceEqDiff, go 30 (by omega)]; exact ⟨(h.rw j hj).1, Nat.lt_of_lt_of_le (h.rw j hj).2 hq'⟩
  · simp only [va_up, if_true, if_false, Nat.reduceEqDiff, go 31 (by omega)]; exact (h.pt j hj).mono hq'
  · simp only [va_up, if_true, if_false, Nat.reduceEqDiff, g18, g19, g20]; exact se_upd (fun e1 => se_upd (fun e => h.se u (hlt u hu e e1)) se_0) se_0
  · simp only [va_up, if_true, if_false, Nat.reduceEqDiff, g18] at hk0; exact oo_s (fun _ => oo_s (fun _ => oo_s (fun _ => oo_0 (fun e1 => oo_0 (fun e => h.oo u (hlt u hu e e1))) hk0)))
  · refine ⟨fun j hj => ?_, fun j hj => ?_⟩
    · dsimp only; rw [upd_ne _ _ (by omega), upd_ne _ _ (by omega), upd_ne _ _ (by omega)]
    · dsimp only; rw [va_up_ne _ _ (by omega), va_up_ne _ _ (by omega)]; exact go j (by omega)

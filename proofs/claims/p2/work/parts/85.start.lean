def lqE : ES := ES.mk 0 (fun _ => 0) 1 0 0 none (fun _ => 0) (fun _ _ => 0) (fun _ => 0) (fun _ => none) (fun _ => none) false (fun _ _ _ _ => False) none
def lqI : MI := fun j => match j with | 3 => 1 | 7 => -1 | 11 => -1 | _ => 0
def lqM : MI := fun j => match j with | 3 => 1 | 12 => -1 | 14 => -1 | _ => 0
def lqA : MA := fun j => match j with | 8 => upd (fun _ => 0) 0 (-1) | _ => fun _ => 0
def lqX (dC : Nat → ClassId) (dI : Nat → Nat → Nat) (q1 q2 q3 q6 q24 q25 q7 q8 q9 q10 q26 q27 q28 q29 q30 q31 q32 q33 q34 q35 q36 q37 q38 q39 q40 q41 q42 q43 q44 q45 q46 q47 : Nat) (gc gi gl gs gz : ClassId) : FX := FX.mk dC dI q1 (fun j => match j with | 0 => q2 | 2 => q3 | 8 => q6 | 12 => q24 | _ => q25) (fun j => match j with | 0 => q7 | 1 => q8 | 2 => q9 | _ => q10) gc gi gl gs gz q26 (fun j => match j with | 2 => q27 | 5 => q28 | 6 => q29 | 7 => q30 | 8 => q31 | 9 => q32 | 16 => q33 | 18 => q34 | 19 => q35 | 20 => q36 | 21 => q37 | 22 => q38 | 26 => q39 | 27 => q40 | 29 => q41 | 30 => q42 | 31 => q43 | 32 => q44 | 33 => q45 | _ => q46) q47
def lqK (q18 q19 q20 q21 q22 q23 q11 q12 q13 q14 q15 q16 q17 q5 q4 : Nat) : CK := CK.mk q18 (fun j => match j with | 0 => q19 | 1 => q20 | 2 => q21 | 3 => q22 | _ => q23) q11 (fun j => match j with | 0 => q12 | 1 => q13 | 2 => q14 | 3 => q15 | _ => q16) (.ref q17) (fun _ => q5) (fun _ => q4) lqI (fun _ _ => 0) (fun _ => 0) (fun _ _ => 0) (fun _ _ => 0) (fun _ => 0) (fun _ _ => 0) (fun _ => 0) (fun _ _ => 0) (fun _ _ => 0)
theorem lqE_wf : EWf lqE := by
  refine ⟨Nat.zero_le _, fun k hk => absurd hk (Nat.not_lt_zero _), Nat.le_refl _, by decide, Nat.lt_succ_self 0, fun s _ => ⟨Nat.zero_le _, fun k hk => absurd hk (Nat.not_lt_zero _)⟩, Nat.le_refl _, fun m hm => (by cases hm), fun s _ => Nat.le_refl _, rfl, fun s h0 hs => ?_, fun s j _ hj => (by cases hj), fun s _ _ j _ hj => (by cases hj)⟩
  have hs' : s < 1 := hs
  omega
theorem lqE_c (q18 q19 q20 q21 q22 q23 q11 q12 q13 q14 q15 q16 q17 q5 q4 : Nat) : CRel lqE (lqK q18 q19 q20 q21 q22 q23 q11 q12 q13 q14 q15 q16 q17 q5 q4) := ⟨rfl, fun j hj => absurd hj (Nat.not_lt_zero _), rfl, rfl, rfl, rfl, rfl, rfl, fun h => (by cases h)⟩
theorem lqE_m : MRel lqE 0 (fun _ => 0) lqM lqA := by
  have h1 : ∀ s, s < lqE.n → s = 0 := fun s hs => by
    have hs' : s < 1 := hs
    omega
  refine ⟨rfl, fun k hk => absurd hk (Nat.not_lt_zero _), rfl, rfl, fun s _ => rfl, fun s _ i hi => absurd hi (Nat.not_lt_zero _), rfl, rfl, fun s _ => rfl, fun s hs => ?_, rfl, fun s _ => ⟨rfl, Nat.le_refl _⟩, fun s j j' _ hj => (by cases hj), rfl, rfl, fun k _ => ⟨0, by decide, rfl⟩, fun h => (by cases h)⟩
  rw [h1 s hs]
  rfl
theorem lq_tw (q : Nat) : va_up (fun _ => none) 0 (some q) = tw_f 1 (fun _ => q) := by
  funext i
  unfold va_up tw_f
  by_cases h : i = 0
  · rw [if_pos h, if_pos (by omega)]
  · rw [if_neg h, if_neg (by omega)]
set_option maxHeartbeats 8000000 in
set_option maxRecDepth 100000 in
theorem law_go {p : Program} {en : Env} {s : State} {m : MethodId} {below : List Frame} {meth : Method} {c : Code} (l : Launch) (hfl : l.flags = flags0) {b L : Nat} {xs : Nat → Int32} (hx : p.tables.exec = Jvm.exec) (hb : c.code = code) (hml : c.maxLocals = 7) (hown : s.vm.findClass "DraftTreeLaw" = some m.cls) (hts : ∀ w ∈ (Cond.initialized "DraftTreeLaw" :: wk_tbl), w.before #[Value.ref b] s = true) (B9 : Nat → Prop) (hA : ∀ q : Nat, s.heap.size ≤ q → B9 q) (hZ : th_ZA B9 s) (hX : va_X b L xs s s.heap) (hbl : b < s.heap.size) (hbA : ¬ B9 b) (hL : L ≤ 1536) (hAe : (fun q => s.heap.size ≤ q) = B9) (hret : meth.sig.returnType = ret) (hlocks : meth.locks = false) (dC : Nat → ClassId) (dI : Nat → Nat → Nat) (q1 q2 q3 q4 q5 q6 q7 q8 q9 q10 q11 q12 q13 q14 q15 q16 q17 q18 q19 q20 q21 q22 q23 q24 q25 q26 q27 q28 q29 q30 q31 q32 q33 q34 q35 q36 q37 q38 q39 q40 q41 q42 q43 q44 q45 q46 q47 : Nat) (g2 g3 g4 g7 g8 g9 g10 g12 g13 g14 g15 g16 g17 g19 g20 g21 g22 g23 g24 g25 g27 g28 g29 g30 g31 g32 g33 g34 g35 g36 g37 g38 g39 g40 g41 g42 g43 g44 g45 g46 g47 : ClassId) (H : Heap) (locs : List Loc) (ls : Array Slot) (hP : va_P (dC, dI) vwCl [(q1, .inr (0, [.ref q2, .int 0, .ref q3, .int 1, .int 0, .ref q4, .int 0, .int (-1), .ref q6, .ref q18, .int 0, .int (-1), .ref q24, .ref q25])), (q2, .inl (g2, 24, .inl (fun _ => 0))), (q3, .inl (g3, 40, .inr (.inr (.inr (.inr (va_up (fun _ => none) 0 (some q5))))))), (q4, .inl (g4, 0, .inl (fun _ => 0))), (q5, .inr (1, [.ref q4, .int (-1), .int 0, .int (-1)])), (q6, .inr (2, [.ref q7, .ref q8, .ref q9, .ref q10, .ref q11, .ref q17, .int 0, .int 0, .int 0, .int 0, .int 0, .int 0, .int 0])), (q7, .inl (g7, 9, .inl (fun _ => 0))), (q8, .inl (g8, 9, .inl (fun _ => 0))), (q9, .inl (g9, 9, .inl (fun _ => 0))), (q10, .inl (g10, 9, .inl (fun _ => 0))), (q11, .inr (3, [.ref q12, .ref q13, .ref q14, .ref q15, .ref q16, .int 0, .int 0, .int 0, .int 0, .int 0])), (q12, .inl (g12, 50, .inl (fun _ => 0))), (q13, .inl (g13, 50, .inl (fun _ => 0))), (q14, .inl (g14, 50, .inl (fun _ => 0))), (q15, .inl (g15, 50, .inr (.inl (fun _ => 0)))), (q16, .inl (g16, 50, .inr (.inl (fun _ => 0)))), (q17, .inl (g17, 0, .inl (fun _ => 0))), (q18, .inr (3, [.ref q19, .ref q20, .ref q21, .ref q22, .ref q23, .int 0, .int 0, .int 0, .int 0, .int 0])), (q19, .inl (g19, 50, .inl (fun _ => 0))), (q20, .inl (g20, 50, .inl (fun _ => 0))), (q21, .inl (g21, 50, .inl (fun _ => 0))), (q22, .inl (g22, 50, .inr (.inl (fun _ => 0)))), (q23, .inl (g23, 50, .inr (.inl (fun _ => 0)))), (q24, .inl (g24, 160, .inl (fun _ => 0))), (q25, .inl (g25, 160, .inl (fun _ => 0))), (q26, .inr (4, [.int 0, .int 0, .ref q27, .int 1, .int 0, .ref q28, .ref q29, .ref q30, .ref q31, .ref q32, .int 0, .int 0, .int (-1), .int 0, .int (-1), .int 0, .ref q33, .int 0, .ref q34, .ref q35, .ref q36, .ref q37, .ref q38, .int 0, .int 0, .int 0, .ref q39, .ref q40, .int 0, .ref q41, .ref q42, .ref q43, .ref q44, .ref q45, .int 0, .int 0, .int 0, .ref q46])), (q27, .inl (g27, 24, .inl (fun _ => 0))), (q28, .inl (g28, 6400, .inl (fun _ => 0))), (q29, .inl (g29, 40, .inl (fun _ => 0))), (q30, .inl (g30, 40, .inl (fun _ => 0))), (q31, .inl (g31, 40, .inl (upd (fun _ => 0) 0 (-1)))), (q32, .inl (g32, 40, .inl (fun _ => 0))), (q33, .inl (g33, 24, .inl (fun _ => 0))), (q34, .inl (g34, 160, .inl (fun _ => 0))), (q35, .inl (g35, 160, .inl (fun _ => 0))), (q36, .inl (g36, 160, .inl (fun _ => 0))), (q37, .inl (g37, 160, .inl (fun _ => 0))), (q38, .inl (g38, 160, .inl (fun _ => 0))), (q39, .inl (g39, 160, .inl (fun _ => 0))), (q40, .inl (g40, 160, .inl (fun _ => 0))), (q41, .inl (g41, 26, .inl (fun _ => 0))), (q42, .inl (g42, 26, .inl (fun _ => 0))), (q43, .inl (g43, 26, .inl (fun _ => 0))), (q44, .inl (g44, 160, .inl (fun _ => 0))), (q45, .inl (g45, 160, .inl (fun _ => 0))), (q46, .inl (g46, 4000, .inl (fun _ => 0))), (q47, .inl (g47, 1, .inr (.inl (fun _ => 0))))] H) (hD : va_D B9 [(q1, .inr (0, [.ref q2, .int 0, .ref q3, .int 1, .int 0, .ref q4, .int 0, .int (-1), .ref q6, .ref q18, .int 0, .int (-1), .ref q24, .ref q25])), (q2, .inl (g2, 24, .inl (fun _ => 0))), (q3, .inl (g3, 40, .inr (.inr (.inr (.inr (va_up (fun _ => none) 0 (some q5))))))), (q4, .inl (g4, 0, .inl (fun _ => 0))), (q5, .inr (1, [.ref q4, .int (-1), .int 0, .int (-1)])), (q6, .inr (2, [.ref q7, .ref q8, .ref q9, .ref q10, .ref q11, .ref q17, .int 0, .int 0, .int 0, .int 0, .int 0, .int 0, .int 0])), (q7, .inl (g7, 9, .inl (fun _ => 0))), (q8, .inl (g8, 9, .inl (fun _ => 0))), (q9, .inl (g9, 9, .inl (fun _ => 0))), (q10, .inl (g10, 9, .inl (fun _ => 0))), (q11, .inr (3, [.ref q12, .ref q13, .ref q14, .ref q15, .ref q16, .int 0, .int 0, .int 0, .int 0, .int 0])), (q12, .inl (g12, 50, .inl (fun _ => 0))), (q13, .inl (g13, 50, .inl (fun _ => 0))), (q14, .inl (g14, 50, .inl (fun _ => 0))), (q15, .inl (g15, 50, .inr (.inl (fun _ => 0)))), (q16, .inl (g16, 50, .inr (.inl (fun _ => 0)))), (q17, .inl (g17, 0, .inl (fun _ => 0))), (q18, .inr (3, [.ref q19, .ref q20, .ref q21, .ref q22, .ref q23, .int 0, .int 0, .int 0, .int 0, .int 0])), (q19, .inl (g19, 50, .inl (fun _ => 0))), (q20, .inl (g20, 50, .inl (fun _ => 0))), (q21, .inl (g21, 50, .inl (fun _ => 0))), (q22, .inl (g22, 50, .inr (.inl (fun _ => 0)))), (q23, .inl (g23, 50, .inr (.inl (fun _ => 0)))), (q24, .inl (g24, 160, .inl (fun _ => 0))), (q25, .inl (g25, 160, .inl (fun _ => 0))), (q26, .inr (4, [.int 0, .int 0, .ref q27, .int 1, .int 0, .ref q28, .ref q29, .ref q30, .ref q31, .ref q32, .int 0, .int 0, .int (-1), .int 0, .int (-1), .int 0, .ref q33, .int 0, .ref q34, .ref q35, .ref q36, .ref q37, .ref q38, .int 0, .int 0, .int 0, .ref q39, .ref q40, .int 0, .ref q41, .ref q42, .ref q43, .ref q44, .ref q45, .int 0, .int 0, .int 0, .ref q46])), (q27, .inl (g27, 24, .inl (fun _ => 0))), (q28, .inl (g28, 6400, .inl (fun _ => 0))), (q29, .inl (g29, 40, .inl (fun _ => 0))), (q30, .inl (g30, 40, .inl (fun _ => 0))), (q31, .inl (g31, 40, .inl (upd (fun _ => 0) 0 (-1)))), (q32, .inl (g32, 40, .inl (fun _ => 0))), (q33, .inl (g33, 24, .inl (fun _ => 0))), (q34, .inl (g34, 160, .inl (fun _ => 0))), (q35, .inl (g35, 160, .inl (fun _ => 0))), (q36, .inl (g36, 160, .inl (fun _ => 0))), (q37, .inl (g37, 160, .inl (fun _ => 0))), (q38, .inl (g38, 160, .inl (fun _ => 0))), (q39, .inl (g39, 160, .inl (fun _ => 0))), (q40, .inl (g40, 160, .inl (fun _ => 0))), (q41, .inl (g41, 26, .inl (fun _ => 0))), (q42, .inl (g42, 26, .inl (fun _ => 0))), (q43, .inl (g43, 26, .inl (fun _ => 0))), (q44, .inl (g44, 160, .inl (fun _ => 0))), (q45, .inl (g45, 160, .inl (fun _ => 0))), (q46, .inl (g46, 4000, .inl (fun _ => 0))), (q47, .inl (g47, 1, .inr (.inl (fun _ => 0))))]) (hK : va_K (dC, dI) vwCl [(g2, .char), (g3, (.object "DraftTree$State")), (g4, .char), (g7, .int), (g8, .int), (g9, .int), (g10, .int), (g12, .int), (g13, .int), (g14, .int), (g15, .long), (g16, .long), (g17, .char), (g19, .int), (g20, .int), (g21, .int), (g22, .long), (g23, .long), (g24, .int), (g25, .int), (g27, .char), (g28, .char), (g29, .int), (g30, .int), (g31, .int), (g32, .int), (g33, .char), (g34, .int), (g35, .int), (g36, .int), (g37, .int), (g38, .int), (g39, .int), (g40, .int), (g41, .int), (g42, .int), (g43, .int), (g44, .boolean), (g45, .boolean), (g46, .char), (g47, .long)] s) (hS : va_S B9 s.heap H locs) (hl : lv_has ls 7 [(4, .int 0), (3, .ref q47), (2, .ref q26), (1, .ref q1), (0, .ref b)]) : W p l en room_1 s m #[Value.ref b] below meth c H locs 47 13136 (lw_Z below #[Value.ref b] s) (F0 m 23 ls []) := by
  have e_g4 : g2 = g4 := hK.one (ty := .char) rfl (List.mem_of_getElem? (i := 0) rfl) (List.mem_of_getElem? (i := 2) rfl)
  subst e_g4
  have e_g8 : g7 = g8 := hK.one (ty := .int) rfl (List.mem_of_getElem? (i := 3) rfl) (List.mem_of_getElem? (i := 4) rfl)
  subst e_g8
  have e_g9 : g7 = g9 := hK.one (ty := .int) rfl (List.mem_of_getElem? (i := 3) rfl) (List.mem_of_getElem? (i := 5) rfl)
  subst e_g9
  have e_g10 : g7 = g10 := hK.one (ty := .int) rfl (List.mem_of_getElem? (i := 3) rfl) (List.mem_of_getElem? (i := 6) rfl)
  subst e_g10
  have e_g12 : g7 = g12 := hK.one (ty := .int) rfl (List.mem_of_getElem? (i := 3) rfl) (List.mem_of_getElem? (i := 7) rfl)
  subst e_g12
  have e_g13 : g7 = g13 := hK.one (ty := .int) rfl (List.mem_of_getElem? (i := 3) rfl) (List.mem_of_getElem? (i := 8) rfl)
  subst e_g13
  have e_g14 : g7 = g14 := hK.one (ty := .int) rfl (List.mem_of_getElem? (i := 3) rfl) (List.mem_of_getElem? (i := 9) rfl)
  subst e_g14
  have e_g16 : g15 = g16 := hK.one (ty := .long) rfl (List.mem_of_getElem? (i := 10) rfl) (List.mem_of_getElem? (i := 11) rfl)
  subst e_g16
  have e_g17 : g2 = g17 := hK.one (ty := .char) rfl (List.mem_of_getElem? (i := 0) rfl) (List.mem_of_getElem? (i := 12) rfl)
  subst e_g17
  have e_g19 : g7 = g19 := hK.one (ty := .int) rfl (List.mem_of_getElem? (i := 3) rfl) (List.mem_of_getElem? (i := 13) rfl)
  subst e_g19
  have e_g20 : g7 = g20 := hK.one (ty := .int) rfl (List.mem_of_getElem? (i := 3) rfl) (List.mem_of_getElem? (i := 14) rfl)
  subst e_g20
  have e_g21 : g7 = g21 := hK.one (ty := .int) rfl (List.mem_of_getElem? (i := 3) rfl) (List.mem_of_getElem? (i := 15) rfl)
  subst e_g21
  have e_g22 : g15 = g22 := hK.one (ty := .long) rfl (List.mem_of_getElem? (i := 10) rfl) (List.mem_of_getElem? (i := 16) rfl)
  subst e_g22
  have e_g23 : g15 = g23 := hK.one (ty := .long) rfl (List.mem_of_getElem? (i := 10) rfl) (List.mem_of_getElem? (i := 17) rfl)
  subst e_g23
  have e_g24 : g7 = g24 := hK.one (ty := .int) rfl (List.mem_of_getElem? (i := 3) rfl) (List.mem_of_getElem? (i := 18) rfl)
  subst e_g24
  have e_g25 : g7 = g25 := hK.one (ty := .int) rfl (List.mem_of_getElem? (i := 3) rfl) (List.mem_of_getElem? (i := 19) rfl)
  subst e_g25
  have e_g27 : g2 = g27 := hK.one (ty := .char) rfl (List.mem_of_getElem? (i := 0) rfl) (List.mem_of_getElem? (i := 20) rfl)
  subst e_g27
  have e_g28 : g2 = g28 := hK.one (ty := .char) rfl (List.mem_of_getElem? (i := 0) rfl) (List.mem_of_getElem? (i := 21) rfl)
  subst e_g28
  have e_g29 : g7 = g29 := hK.one (ty := .int) rfl (List.mem_of_getElem? (i := 3) rfl) (List.mem_of_getElem? (i := 22) rfl)
  subst e_g29
  have e_g30 : g7 = g30 := hK.one (ty := .int) rfl (List.mem_of_getElem? (i := 3) rfl) (List.mem_of_getElem? (i := 23) rfl)
  subst e_g30
  have e_g31 : g7 = g31 := hK.one (ty := .int) rfl (List.mem_of_getElem? (i := 3) rfl) (List.mem_of_getElem? (i := 24) rfl)
  subst e_g31
  have e_g32 : g7 = g32 := hK.one (ty := .int) rfl (List.mem_of_getElem? (i := 3) rfl) (List.mem_of_getElem? (i := 25) rfl)
  subst e_g32
  have e_g33 : g2 = g33 := hK.one (ty := .char) rfl (List.mem_of_getElem? (i := 0) rfl) (List.mem_of_getElem? (i := 26) rfl)
  subst e_g33
  have e_g34 : g7 = g34 := hK.one (ty := .int) rfl (List.mem_of_getElem? (i := 3) rfl) (List.mem_of_getElem? (i := 27) rfl)
  subst e_g34
  have e_g35 : g7 = g35 := hK.one (ty := .int) rfl (List.mem_of_getElem? (i := 3) rfl) (List.mem_of_getElem? (i := 28) rfl)
  subst e_g35
  have e_g36 : g7 = g36 := hK.one (ty := .int) rfl (List.mem_of_getElem? (i := 3) rfl) (List.mem_of_getElem? (i := 29) rfl)
  subst e_g36
  have e_g37 : g7 = g37 := hK.one (ty := .int) rfl (List.mem_of_getElem? (i := 3) rfl) (List.mem_of_getElem? (i := 30) rfl)
  subst e_g37
  have e_g38 : g7 = g38 := hK.one (ty := .int) rfl (List.mem_of_getElem? (i := 3) rfl) (List.mem_of_getElem? (i := 31) rfl)
  subst e_g38
  have e_g39 : g7 = g39 := hK.one (ty := .int) rfl (List.mem_of_getElem? (i := 3) rfl) (List.mem_of_getElem? (i := 32) rfl)
  subst e_g39
  have e_g40 : g7 = g40 := hK.one (ty := .int) rfl (List.mem_of_getElem? (i := 3) rfl) (List.mem_of_getElem? (i := 33) rfl)
  subst e_g40
  have e_g41 : g7 = g41 := hK.one (ty := .int) rfl (List.mem_of_getElem? (i := 3) rfl) (List.mem_of_getElem? (i := 34) rfl)
  subst e_g41
  have e_g42 : g7 = g42 := hK.one (ty := .int) rfl (List.mem_of_getElem? (i := 3) rfl) (List.mem_of_getElem? (i := 35) rfl)
  subst e_g42
  have e_g43 : g7 = g43 := hK.one (ty := .int) rfl (List.mem_of_getElem? (i := 3) rfl) (List.mem_of_getElem? (i := 36) rfl)
  subst e_g43
  have e_g45 : g44 = g45 := hK.one (ty := .boolean) rfl (List.mem_of_getElem? (i := 37) rfl) (List.mem_of_getElem? (i := 38) rfl)
  subst e_g45
  have e_g46 : g2 = g46 := hK.one (ty := .char) rfl (List.mem_of_getElem? (i := 0) rfl) (List.mem_of_getElem? (i := 39) rfl)
  subst e_g46
  have e_g47 : g15 = g47 := hK.one (ty := .long) rfl (List.mem_of_getElem? (i := 10) rfl) (List.mem_of_getElem? (i := 40) rfl)
  subst e_g47
  rw [lq_tw q5] at hP hD
  have hK := hK.sub (tys' := kT (lqX dC dI q1 q2 q3 q6 q24 q25 q7 q8 q9 q10 q26 q27 q28 q29 q30 q31 q32 q33 q34 q35 q36 q37 q38 q39 q40 q41 q42 q43 q44 q45 q46 q47 g2 g7 g15 g3 g44)) [0, 3, 10, 1, 37] rfl
  have hP := hP.sub (ws' := WL (lqX dC dI q1 q2 q3 q6 q24 q25 q7 q8 q9 q10 q26 q27 q28 q29 q30 q31 q32 q33 q34 q35 q36 q37 q38 q39 q40 q41 q42 q43 q44 q45 q46 q47 g2 g7 g15 g3 g44) (lqK q18 q19 q20 q21 q22 q23 q11 q12 q13 q14 q15 q16 q17 q5 q4) lqE (fun _ => 0) lqM lqA) [25, 26, 27, 28, 29, 30, 31, 32, 33, 34, 35, 36, 37, 38, 39, 40, 41, 42, 43, 44, 45, 46, 0, 1, 23, 24, 17, 18, 19, 20, 21, 22, 5, 6, 7, 8, 9, 10, 11, 12, 13, 14, 15, 2, 4, 3] rfl
  have hD := hD.sub (ws' := WL (lqX dC dI q1 q2 q3 q6 q24 q25 q7 q8 q9 q10 q26 q27 q28 q29 q30 q31 q32 q33 q34 q35 q36 q37 q38 q39 q40 q41 q42 q43 q44 q45 q46 q47 g2 g7 g15 g3 g44) (lqK q18 q19 q20 q21 q22 q23 q11 q12 q13 q14 q15 q16 q17 q5 q4) lqE (fun _ => 0) lqM lqA) [25, 26, 27, 28, 29, 30, 31, 32, 33, 34, 35, 36, 37, 38, 39, 40, 41, 42, 43, 44, 45, 46, 0, 1, 23, 24, 17, 18, 19, 20, 21, 22, 5, 6, 7, 8, 9, 10, 11, 12, 13, 14, 15, 2, 4, 3] (by decide) rfl
  exact law_loop l hfl (lqX dC dI q1 q2 q3 q6 q24 q25 q7 q8 q9 q10 q26 q27 q28 q29 q30 q31 q32 q33 q34 q35 q36 q37 q38 q39 q40 q41 q42 q43 q44 q45 q46 q47 g2 g7 g15 g3 g44) hx hb hml hown hts B9 hA hZ hX hbl hbA hL hK hAe hret hlocks 512 0 (lqK q18 q19 q20 q21 q22 q23 q11 q12 q13 q14 q15 q16 q17 q5 q4) lqE 0 (fun _ => 0) lqM lqA (fun _ => 0) 47 13136 H locs ls (by omega) (Nat.zero_le _) (lqE_c q18 q19 q20 q21 q22 q23 q11 q12 q13 q14 q15 q16 q17 q5 q4) lqE_wf lqE_m (by decide) (by decide) (by decide) hP hD hS hl

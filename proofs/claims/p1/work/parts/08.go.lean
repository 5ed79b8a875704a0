set_option maxHeartbeats 8000000 in
set_option maxRecDepth 100000 in
theorem law_go0 {p : Program} {e : Env} {s : State} {m : MethodId} {below : List Frame} {meth : Method} {c : Code} (l : Launch) (hfl : l.flags = flags0) {b : Nat} {xs : Nat → Int32} (hx : p.tables.exec = Jvm.exec) (hb : c.code = code) (hret : meth.sig.returnType = ret) (hlocks : meth.locks = false) (hX : va_X b 0 xs s s.heap) (hbl : b < s.heap.size) (A : Nat → Prop) (hAe : (fun q => s.heap.size ≤ q) = A) (q47 q26 q1 : Nat) (H : Heap) (locs : List Loc) (ls : Array Slot) (hS : va_S A s.heap H locs) (hl : lv_has ls 7 [(4, .int 0), (3, .ref q47), (2, .ref q26), (1, .ref q1), (0, .ref b)]) : W p l e room_1 s m #[Value.ref b] below meth c H locs 47 13136 (lw_Z below #[Value.ref b] s) (F0 m 23 ls []) := by
  have hbA : ¬ A b := by rw [← hAe]; exact Nat.not_le.mpr hbl
  refine lv_iload hx hb d_L_law_23 (lv_at hl 0 rfl) ?_
  refine lv_aload_n hx hb d_L_law_25 rfl (lv_at hl 4 rfl) ?_
  refine va_slen hx hb hX hbl hbA hS d_L_law_26 ?_
  refine wk_top (w := .int 0) rfl ?_
  refine lv_iconst (v := 3) hx hb d_L_law_27 (by decide) ?_
  refine t_isub (v := (-3)) hx hb d_L_law_28 (by decide +kernel) ?_
  refine lv_icmp_gt (tgt := 840) hx hb d_L_law_29 (by decide) (fun _ => ?_) (fun h => absurd (by decide +kernel) h)
  refine lv_iconst (v := 1) hx hb d_L_law_840 (by decide) ?_
  refine va_forget (fun q hq => by have h9 := hS.2.2 q hq; rw [← hAe] at h9; exact h9) ?_
  refine W.widen (k := 600002) (n := 7302232) (by decide) (by decide) ?_
  exact lw_ret hx hb hret hlocks d_L_law_841
set_option maxHeartbeats 8000000 in
set_option maxRecDepth 100000 in
theorem law_go1 {p : Program} {e : Env} {s : State} {m : MethodId} {below : List Frame} {meth : Method} {c : Code} (l : Launch) (hfl : l.flags = flags0) {b : Nat} {xs : Nat → Int32} (hx : p.tables.exec = Jvm.exec) (hb : c.code = code) (hret : meth.sig.returnType = ret) (hlocks : meth.locks = false) (hX : va_X b 1 xs s s.heap) (hbl : b < s.heap.size) (A : Nat → Prop) (hAe : (fun q => s.heap.size ≤ q) = A) (q47 q26 q1 : Nat) (H : Heap) (locs : List Loc) (ls : Array Slot) (hS : va_S A s.heap H locs) (hl : lv_has ls 7 [(4, .int 0), (3, .ref q47), (2, .ref q26), (1, .ref q1), (0, .ref b)]) : W p l e room_1 s m #[Value.ref b] below meth c H locs 47 13136 (lw_Z below #[Value.ref b] s) (F0 m 23 ls []) := by
  have hbA : ¬ A b := by rw [← hAe]; exact Nat.not_le.mpr hbl
  refine lv_iload hx hb d_L_law_23 (lv_at hl 0 rfl) ?_
  refine lv_aload_n hx hb d_L_law_25 rfl (lv_at hl 4 rfl) ?_
  refine va_slen hx hb hX hbl hbA hS d_L_law_26 ?_
  refine wk_top (w := .int 1) rfl ?_
  refine lv_iconst (v := 3) hx hb d_L_law_27 (by decide) ?_
  refine t_isub (v := (-2)) hx hb d_L_law_28 (by decide +kernel) ?_
  refine lv_icmp_gt (tgt := 840) hx hb d_L_law_29 (by decide) (fun _ => ?_) (fun h => absurd (by decide +kernel) h)
  refine lv_iconst (v := 1) hx hb d_L_law_840 (by decide) ?_
  refine va_forget (fun q hq => by have h9 := hS.2.2 q hq; rw [← hAe] at h9; exact h9) ?_
  refine W.widen (k := 600002) (n := 7302232) (by decide) (by decide) ?_
  exact lw_ret hx hb hret hlocks d_L_law_841
set_option maxHeartbeats 8000000 in
set_option maxRecDepth 100000 in
theorem law_go2 {p : Program} {e : Env} {s : State} {m : MethodId} {below : List Frame} {meth : Method} {c : Code} (l : Launch) (hfl : l.flags = flags0) {b : Nat} {xs : Nat → Int32} (hx : p.tables.exec = Jvm.exec) (hb : c.code = code) (hret : meth.sig.returnType = ret) (hlocks : meth.locks = false) (hX : va_X b 2 xs s s.heap) (hbl : b < s.heap.size) (A : Nat → Prop) (hAe : (fun q => s.heap.size ≤ q) = A) (q47 q26 q1 : Nat) (H : Heap) (locs : List Loc) (ls : Array Slot) (hS : va_S A s.heap H locs) (hl : lv_has ls 7 [(4, .int 0), (3, .ref q47), (2, .ref q26), (1, .ref q1), (0, .ref b)]) : W p l e room_1 s m #[Value.ref b] below meth c H locs 47 13136 (lw_Z below #[Value.ref b] s) (F0 m 23 ls []) := by
  have hbA : ¬ A b := by rw [← hAe]; exact Nat.not_le.mpr hbl
  refine lv_iload hx hb d_L_law_23 (lv_at hl 0 rfl) ?_
  refine lv_aload_n hx hb d_L_law_25 rfl (lv_at hl 4 rfl) ?_
  refine va_slen hx hb hX hbl hbA hS d_L_law_26 ?_
  refine wk_top (w := .int 2) rfl ?_
  refine lv_iconst (v := 3) hx hb d_L_law_27 (by decide) ?_
  refine t_isub (v := (-1)) hx hb d_L_law_28 (by decide +kernel) ?_
  refine lv_icmp_gt (tgt := 840) hx hb d_L_law_29 (by decide) (fun _ => ?_) (fun h => absurd (by decide +kernel) h)
  refine lv_iconst (v := 1) hx hb d_L_law_840 (by decide) ?_
  refine va_forget (fun q hq => by have h9 := hS.2.2 q hq; rw [← hAe] at h9; exact h9) ?_
  refine W.widen (k := 600002) (n := 7302232) (by decide) (by decide) ?_
  exact lw_ret hx hb hret hlocks d_L_law_841
set_option maxHeartbeats 8000000 in
set_option maxRecDepth 100000 in
theorem law_go3 {p : Program} {e : Env} {s : State} {m : MethodId} {below : List Frame} {meth : Method} {c : Code} (l : Launch) (hfl : l.flags = flags0) {b : Nat} {xs : Nat → Int32} (hx : p.tables.exec = Jvm.exec) (hb : c.code = code) (hml : c.maxLocals = 7) (hown : s.vm.findClass "DraftTreeLaw" = some m.cls) (hts : ∀ w ∈ (Cond.initialized "DraftTreeLaw" :: wk_tbl), w.before #[Value.ref b] s = true) (A : Nat → Prop) (hAe : (fun q => s.heap.size ≤ q) = A) (hZ : th_ZA A s) (hret : meth.sig.returnType = ret) (hlocks : meth.locks = false) (hX : va_X b 3 xs s s.heap) (hbl : b < s.heap.size) (dC : Nat → ClassId) (dI : Nat → Nat → Nat) (q1 q2 q3 q4 q5 q6 q7 q8 q9 q10 q11 q12 q13 q14 q15 q16 q17 q18 q19 q20 q21 q22 q23 q24 q25 q26 q27 q28 q29 q30 q31 q32 q33 q34 q35 q36 q37 q38 q39 q40 q41 q42 q43 q44 q45 q46 q47 : Nat) (g2 g3 g4 g7 g8 g9 g10 g12 g13 g14 g15 g16 g17 g19 g20 g21 g22 g23 g24 g25 g27 g28 g29 g30 g31 g32 g33 g34 g35 g36 g37 g38 g39 g40 g41 g42 g43 g44 g45 g46 g47 : ClassId) (H : Heap) (locs : List Loc) (ls : Array Slot) (hP : va_P (dC, dI) vwCl [(q1, .inr (0, [.ref q2, .int 0, .ref q3, .int 1, .int 0, .ref q4, .int 0, .int (-1), .ref q6, .ref q18, .int 0, .int (-1), .ref q24, .ref q25])), (q2, .inl (g2, 24, .inl (fun _ => 0))), (q3, .inl (g3, 40, .inr (.inr (.inr (.inr (va_up (fun _ => none) 0 (some q5))))))), (q4, .inl (g4, 0, .inl (fun _ => 0))), (q5, .inr (1, [.ref q4, .int (-1), .int 0, .int (-1)])), (q6, .inr (2, [.ref q7, .ref q8, .ref q9, .ref q10, .ref q11, .ref q17, .int 0, .int 0, .int 0, .int 0, .int 0, .int 0, .int 0])), (q7, .inl (g7, 9, .inl (fun _ => 0))), (q8, .inl (g8, 9, .inl (fun _ => 0))), (q9, .inl (g9, 9, .inl (fun _ => 0))), (q10, .inl (g10, 9, .inl (fun _ => 0))), (q11, .inr (3, [.ref q12, .ref q13, .ref q14, .ref q15, .ref q16, .int 0, .int 0, .int 0, .int 0, .int 0])), (q12, .inl (g12, 50, .inl (fun _ => 0))), (q13, .inl (g13, 50, .inl (fun _ => 0))), (q14, .inl (g14, 50, .inl (fun _ => 0))), (q15, .inl (g15, 50, .inr (.inl (fun _ => 0)))), (q16, .inl (g16, 50, .inr (.inl (fun _ => 0)))), (q17, .inl (g17, 0, .inl (fun _ => 0))), (q18, .inr (3, [.ref q19, .ref q20, .ref q21, .ref q22, .ref q23, .int 0, .int 0, .int 0, .int 0, .int 0])), (q19, .inl (g19, 50, .inl (fun _ => 0))), (q20, .inl (g20, 50, .inl (fun _ => 0))), (q21, .inl (g21, 50, .inl (fun _ => 0))), (q22, .inl (g22, 50, .inr (.inl (fun _ => 0)))), (q23, .inl (g23, 50, .inr (.inl (fun _ => 0)))), (q24, .inl (g24, 160, .inl (fun _ => 0))), (q25, .inl (g25, 160, .inl (fun _ => 0))), (q26, .inr (4, [.int 0, .int 0, .ref q27, .int 1, .int 0, .ref q28, .ref q29, .ref q30, .ref q31, .ref q32, .int 0, .int 0, .int (-1), .int 0, .int (-1), .int 0, .ref q33, .int 0, .ref q34, .ref q35, .ref q36, .ref q37, .ref q38, .int 0, .int 0, .int 0, .ref q39, .ref q40, .int 0, .ref q41, .ref q42, .ref q43, .ref q44, .ref q45, .int 0, .int 0, .int 0, .ref q46])), (q27, .inl (g27, 24, .inl (fun _ => 0))), (q28, .inl (g28, 6400, .inl (fun _ => 0))), (q29, .inl (g29, 40, .inl (fun _ => 0))), (q30, .inl (g30, 40, .inl (fun _ => 0))), (q31, .inl (g31, 40, .inl (upd (fun _ => 0) 0 (-1)))), (q32, .inl (g32, 40, .inl (fun _ => 0))), (q33, .inl (g33, 24, .inl (fun _ => 0))), (q34, .inl (g34, 160, .inl (fun _ => 0))), (q35, .inl (g35, 160, .inl (fun _ => 0))), (q36, .inl (g36, 160, .inl (fun _ => 0))), (q37, .inl (g37, 160, .inl (fun _ => 0))), (q38, .inl (g38, 160, .inl (fun _ => 0))), (q39, .inl (g39, 160, .inl (fun _ => 0))), (q40, .inl (g40, 160, .inl (fun _ => 0))), (q41, .inl (g41, 26, .inl (fun _ => 0))), (q42, .inl (g42, 26, .inl (fun _ => 0))), (q43, .inl (g43, 26, .inl (fun _ => 0))), (q44, .inl (g44, 160, .inl (fun _ => 0))), (q45, .inl (g45, 160, .inl (fun _ => 0))), (q46, .inl (g46, 4000, .inl (fun _ => 0))), (q47, .inl (g47, 1, .inr (.inl (fun _ => 0))))] H) (hD : va_D A [(q1, .inr (0, [.ref q2, .int 0, .ref q3, .int 1, .int 0, .ref q4, .int 0, .int (-1), .ref q6, .ref q18, .int 0, .int (-1), .ref q24, .ref q25])), (q2, .inl (g2, 24, .inl (fun _ => 0))), (q3, .inl (g3, 40, .inr (.inr (.inr (.inr (va_up (fun _ => none) 0 (some q5))))))), (q4, .inl (g4, 0, .inl (fun _ => 0))), (q5, .inr (1, [.ref q4, .int (-1), .int 0, .int (-1)])), (q6, .inr (2, [.ref q7, .ref q8, .ref q9, .ref q10, .ref q11, .ref q17, .int 0, .int 0, .int 0, .int 0, .int 0, .int 0, .int 0])), (q7, .inl (g7, 9, .inl (fun _ => 0))), (q8, .inl (g8, 9, .inl (fun _ => 0))), (q9, .inl (g9, 9, .inl (fun _ => 0))), (q10, .inl (g10, 9, .inl (fun _ => 0))), (q11, .inr (3, [.ref q12, .ref q13, .ref q14, .ref q15, .ref q16, .int 0, .int 0, .int 0, .int 0, .int 0])), (q12, .inl (g12, 50, .inl (fun _ => 0))), (q13, .inl (g13, 50, .inl (fun _ => 0))), (q14, .inl (g14, 50, .inl (fun _ => 0))), (q15, .inl (g15, 50, .inr (.inl (fun _ => 0)))), (q16, .inl (g16, 50, .inr (.inl (fun _ => 0)))), (q17, .inl (g17, 0, .inl (fun _ => 0))), (q18, .inr (3, [.ref q19, .ref q20, .ref q21, .ref q22, .ref q23, .int 0, .int 0, .int 0, .int 0, .int 0])), (q19, .inl (g19, 50, .inl (fun _ => 0))), (q20, .inl (g20, 50, .inl (fun _ => 0))), (q21, .inl (g21, 50, .inl (fun _ => 0))), (q22, .inl (g22, 50, .inr (.inl (fun _ => 0)))), (q23, .inl (g23, 50, .inr (.inl (fun _ => 0)))), (q24, .inl (g24, 160, .inl (fun _ => 0))), (q25, .inl (g25, 160, .inl (fun _ => 0))), (q26, .inr (4, [.int 0, .int 0, .ref q27, .int 1, .int 0, .ref q28, .ref q29, .ref q30, .ref q31, .ref q32, .int 0, .int 0, .int (-1), .int 0, .int (-1), .int 0, .ref q33, .int 0, .ref q34, .ref q35, .ref q36, .ref q37, .ref q38, .int 0, .int 0, .int 0, .ref q39, .ref q40, .int 0, .ref q41, .ref q42, .ref q43, .ref q44, .ref q45, .int 0, .int 0, .int 0, .ref q46])), (q27, .inl (g27, 24, .inl (fun _ => 0))), (q28, .inl (g28, 6400, .inl (fun _ => 0))), (q29, .inl (g29, 40, .inl (fun _ => 0))), (q30, .inl (g30, 40, .inl (fun _ => 0))), (q31, .inl (g31, 40, .inl (upd (fun _ => 0) 0 (-1)))), (q32, .inl (g32, 40, .inl (fun _ => 0))), (q33, .inl (g33, 24, .inl (fun _ => 0))), (q34, .inl (g34, 160, .inl (fun _ => 0))), (q35, .inl (g35, 160, .inl (fun _ => 0))), (q36, .inl (g36, 160, .inl (fun _ => 0))), (q37, .inl (g37, 160, .inl (fun _ => 0))), (q38, .inl (g38, 160, .inl (fun _ => 0))), (q39, .inl (g39, 160, .inl (fun _ => 0))), (q40, .inl (g40, 160, .inl (fun _ => 0))), (q41, .inl (g41, 26, .inl (fun _ => 0))), (q42, .inl (g42, 26, .inl (fun _ => 0))), (q43, .inl (g43, 26, .inl (fun _ => 0))), (q44, .inl (g44, 160, .inl (fun _ => 0))), (q45, .inl (g45, 160, .inl (fun _ => 0))), (q46, .inl (g46, 4000, .inl (fun _ => 0))), (q47, .inl (g47, 1, .inr (.inl (fun _ => 0))))]) (hK : va_K (dC, dI) vwCl [(g2, .char), (g3, (.object "DraftTree$State")), (g4, .char), (g7, .int), (g8, .int), (g9, .int), (g10, .int), (g12, .int), (g13, .int), (g14, .int), (g15, .long), (g16, .long), (g17, .char), (g19, .int), (g20, .int), (g21, .int), (g22, .long), (g23, .long), (g24, .int), (g25, .int), (g27, .char), (g28, .char), (g29, .int), (g30, .int), (g31, .int), (g32, .int), (g33, .char), (g34, .int), (g35, .int), (g36, .int), (g37, .int), (g38, .int), (g39, .int), (g40, .int), (g41, .int), (g42, .int), (g43, .int), (g44, .boolean), (g45, .boolean), (g46, .char), (g47, .long)] s) (hS : va_S A s.heap H locs) (hl : lv_has ls 7 [(4, .int 0), (3, .ref q47), (2, .ref q26), (1, .ref q1), (0, .ref b)]) : W p l e room_1 s m #[Value.ref b] below meth c H locs 47 13136 (lw_Z below #[Value.ref b] s) (F0 m 23 ls []) := by
  have hA : ∀ q : Nat, s.heap.size ≤ q → A q := fun q h => by rw [← hAe]; exact h
  have hbA : ¬ A b := by rw [← hAe]; exact Nat.not_le.mpr hbl
  obtain ⟨k0, hs0⟩ : ∃ v, xs 0 = v := ⟨_, rfl⟩
  refine lv_iload hx hb d_L_law_23 (lv_at hl 0 rfl) ?_
  refine lv_aload_n hx hb d_L_law_25 rfl (lv_at hl 4 rfl) ?_
  refine va_slen hx hb hX hbl hbA hS d_L_law_26 ?_
  refine wk_top (w := .int 3) rfl ?_
  refine lv_iconst (v := 3) hx hb d_L_law_27 (by decide) ?_
  refine t_isub (v := 0) hx hb d_L_law_28 (by decide +kernel) ?_
  refine lv_icmp_gt (tgt := 840) hx hb d_L_law_29 (by decide) (fun h => absurd h (by decide +kernel)) (fun _ => ?_)
  refine lv_aload_n hx hb d_L_law_32 rfl (lv_at hl 4 rfl) ?_
  refine lv_iload hx hb d_L_law_33 (lv_at hl 0 rfl) ?_
  refine va_sld hx hb hX hbl hbA hS (wk_in (by decide +kernel)) d_L_law_35 ?_
  refine wk_top (w := .int k0) (congrArg _ hs0) ?_
  refine lv_bipush (v := 31) hx hb d_L_law_36 (by decide) ?_
  obtain ⟨z48, hz48, hf1⟩ := wk_and31 k0
  refine t_iand (v := z48) hx hb d_L_law_38 hz48 ?_
  by_cases hf2 : z48.toInt = 0
  ·
    obtain rfl : z48 = 0 := (wk_eq 0 (by decide)).mpr (by omega)
    refine lv_tableIn (off := 81) (tgt := 120) hx hb d_L_law_39 (by decide) (by decide) (by decide) (by decide) ?_
    exact law_type l hfl hx hb hml hown hts A hAe hZ hret hlocks hX hbl _ _ rfl rfl dC dI q1 q2 q3 q4 q5 q6 q7 q8 q9 q10 q11 q12 q13 q14 q15 q16 q17 q18 q19 q20 q21 q22 q23 q24 q25 q26 q27 q28 q29 q30 q31 q32 q33 q34 q35 q36 q37 q38 q39 q40 q41 q42 q43 q44 q45 q46 q47 g2 g3 g4 g7 g8 g9 g10 g12 g13 g14 g15 g16 g17 g19 g20 g21 g22 g23 g24 g25 g27 g28 g29 g30 g31 g32 g33 g34 g35 g36 g37 g38 g39 g40 g41 g42 g43 g44 g45 g46 g47 _ _ _ hP hD hK hS hl
  ·
    by_cases hf3 : z48.toInt = 1
    ·
      obtain rfl : z48 = 1 := (wk_eq 1 (by decide)).mpr (by omega)
      refine lv_tableIn (off := 108) (tgt := 147) hx hb d_L_law_39 (by decide) (by decide) (by decide) (by decide) ?_
      exact law_wipe l hfl hx hb hml hown hts A hAe hZ hret hlocks hX hbl _ _ rfl rfl dC dI q1 q2 q3 q4 q5 q6 q7 q8 q9 q10 q11 q12 q13 q14 q15 q16 q17 q18 q19 q20 q21 q22 q23 q24 q25 q26 q27 q28 q29 q30 q31 q32 q33 q34 q35 q36 q37 q38 q39 q40 q41 q42 q43 q44 q45 q46 q47 g2 g3 g4 g7 g8 g9 g10 g12 g13 g14 g15 g16 g17 g19 g20 g21 g22 g23 g24 g25 g27 g28 g29 g30 g31 g32 g33 g34 g35 g36 g37 g38 g39 g40 g41 g42 g43 g44 g45 g46 g47 _ _ _ hP hD hK hS hl
    ·
      by_cases hf4 : z48.toInt = 2
      ·
        obtain rfl : z48 = 2 := (wk_eq 2 (by decide)).mpr (by omega)
        refine lv_tableIn (off := 121) (tgt := 160) hx hb d_L_law_39 (by decide) (by decide) (by decide) (by decide) ?_
        exact law_insert l hfl hx hb hml hown hts A hAe hZ hret hlocks hX hbl _ _ rfl rfl dC dI q1 q2 q3 q4 q5 q6 q7 q8 q9 q10 q11 q12 q13 q14 q15 q16 q17 q18 q19 q20 q21 q22 q23 q24 q25 q26 q27 q28 q29 q30 q31 q32 q33 q34 q35 q36 q37 q38 q39 q40 q41 q42 q43 q44 q45 q46 q47 g2 g3 g4 g7 g8 g9 g10 g12 g13 g14 g15 g16 g17 g19 g20 g21 g22 g23 g24 g25 g27 g28 g29 g30 g31 g32 g33 g34 g35 g36 g37 g38 g39 g40 g41 g42 g43 g44 g45 g46 g47 _ _ _ hP hD hK hS hl
      ·
        by_cases hf5 : z48.toInt = 3
        ·
          obtain rfl : z48 = 3 := (wk_eq 3 (by decide)).mpr (by omega)
          refine lv_tableIn (off := 165) (tgt := 204) hx hb d_L_law_39 (by decide) (by decide) (by decide) (by decide) ?_
          exact law_erase l hfl hx hb hml hown hts A hAe hZ hret hlocks hX hbl _ _ rfl rfl dC dI q1 q2 q3 q4 q5 q6 q7 q8 q9 q10 q11 q12 q13 q14 q15 q16 q17 q18 q19 q20 q21 q22 q23 q24 q25 q26 q27 q28 q29 q30 q31 q32 q33 q34 q35 q36 q37 q38 q39 q40 q41 q42 q43 q44 q45 q46 q47 g2 g3 g4 g7 g8 g9 g10 g12 g13 g14 g15 g16 g17 g19 g20 g21 g22 g23 g24 g25 g27 g28 g29 g30 g31 g32 g33 g34 g35 g36 g37 g38 g39 g40 g41 g42 g43 g44 g45 g46 g47 _ _ _ hP hD hK hS hl
        ·
          by_cases hf6 : z48.toInt = 4
          ·
            obtain rfl : z48 = 4 := (wk_eq 4 (by decide)).mpr (by omega)
            refine lv_tableIn (off := 221) (tgt := 260) hx hb d_L_law_39 (by decide) (by decide) (by decide) (by decide) ?_
            exact law_go l hfl hx hb hml hown hts A hAe hZ hret hlocks hX hbl _ _ rfl rfl dC dI q1 q2 q3 q4 q5 q6 q7 q8 q9 q10 q11 q12 q13 q14 q15 q16 q17 q18 q19 q20 q21 q22 q23 q24 q25 q26 q27 q28 q29 q30 q31 q32 q33 q34 q35 q36 q37 q38 q39 q40 q41 q42 q43 q44 q45 q46 q47 g2 g3 g4 g7 g8 g9 g10 g12 g13 g14 g15 g16 g17 g19 g20 g21 g22 g23 g24 g25 g27 g28 g29 g30 g31 g32 g33 g34 g35 g36 g37 g38 g39 g40 g41 g42 g43 g44 g45 g46 g47 _ _ _ hP hD hK hS hl
          ·
            by_cases hf7 : z48.toInt = 5
            ·
              obtain rfl : z48 = 5 := (wk_eq 5 (by decide)).mpr (by omega)
              refine lv_tableIn (off := 285) (tgt := 324) hx hb d_L_law_39 (by decide) (by decide) (by decide) (by decide) ?_
              exact law_compile l hfl hx hb hml hown hts A hAe hZ hret hlocks hX hbl _ _ rfl rfl dC dI q1 q2 q3 q4 q5 q6 q7 q8 q9 q10 q11 q12 q13 q14 q15 q16 q17 q18 q19 q20 q21 q22 q23 q24 q25 q26 q27 q28 q29 q30 q31 q32 q33 q34 q35 q36 q37 q38 q39 q40 q41 q42 q43 q44 q45 q46 q47 g2 g3 g4 g7 g8 g9 g10 g12 g13 g14 g15 g16 g17 g19 g20 g21 g22 g23 g24 g25 g27 g28 g29 g30 g31 g32 g33 g34 g35 g36 g37 g38 g39 g40 g41 g42 g43 g44 g45 g46 g47 _ _ _ hP hD hK hS hl
            ·
              by_cases hf8 : z48.toInt = 6
              ·
                obtain rfl : z48 = 6 := (wk_eq 6 (by decide)).mpr (by omega)
                refine lv_tableIn (off := 309) (tgt := 348) hx hb d_L_law_39 (by decide) (by decide) (by decide) (by decide) ?_
                exact law_fault l hfl hx hb hml hown hts A hAe hZ hret hlocks hX hbl _ _ rfl rfl dC dI q1 q2 q3 q4 q5 q6 q7 q8 q9 q10 q11 q12 q13 q14 q15 q16 q17 q18 q19 q20 q21 q22 q23 q24 q25 q26 q27 q28 q29 q30 q31 q32 q33 q34 q35 q36 q37 q38 q39 q40 q41 q42 q43 q44 q45 q46 q47 g2 g3 g4 g7 g8 g9 g10 g12 g13 g14 g15 g16 g17 g19 g20 g21 g22 g23 g24 g25 g27 g28 g29 g30 g31 g32 g33 g34 g35 g36 g37 g38 g39 g40 g41 g42 g43 g44 g45 g46 g47 _ _ _ hP hD hK hS hl
              ·
                by_cases hf9 : z48.toInt = 7
                ·
                  obtain rfl : z48 = 7 := (wk_eq 7 (by decide)).mpr (by omega)
                  refine lv_tableIn (off := 322) (tgt := 361) hx hb d_L_law_39 (by decide) (by decide) (by decide) (by decide) ?_
                  exact law_find l hfl hx hb hml hown hts A hAe hZ hret hlocks hX hbl _ _ rfl rfl dC dI q1 q2 q3 q4 q5 q6 q7 q8 q9 q10 q11 q12 q13 q14 q15 q16 q17 q18 q19 q20 q21 q22 q23 q24 q25 q26 q27 q28 q29 q30 q31 q32 q33 q34 q35 q36 q37 q38 q39 q40 q41 q42 q43 q44 q45 q46 q47 g2 g3 g4 g7 g8 g9 g10 g12 g13 g14 g15 g16 g17 g19 g20 g21 g22 g23 g24 g25 g27 g28 g29 g30 g31 g32 g33 g34 g35 g36 g37 g38 g39 g40 g41 g42 g43 g44 g45 g46 g47 _ _ _ hP hD hK hS hl
                ·
                  by_cases hf10 : z48.toInt = 8
                  ·
                    obtain rfl : z48 = 8 := (wk_eq 8 (by decide)).mpr (by omega)
                    refine lv_tableIn (off := 378) (tgt := 417) hx hb d_L_law_39 (by decide) (by decide) (by decide) (by decide) ?_
                    exact law_replace l hfl hx hb hml hown hts A hAe hZ hret hlocks hX hbl _ _ rfl rfl dC dI q1 q2 q3 q4 q5 q6 q7 q8 q9 q10 q11 q12 q13 q14 q15 q16 q17 q18 q19 q20 q21 q22 q23 q24 q25 q26 q27 q28 q29 q30 q31 q32 q33 q34 q35 q36 q37 q38 q39 q40 q41 q42 q43 q44 q45 q46 q47 g2 g3 g4 g7 g8 g9 g10 g12 g13 g14 g15 g16 g17 g19 g20 g21 g22 g23 g24 g25 g27 g28 g29 g30 g31 g32 g33 g34 g35 g36 g37 g38 g39 g40 g41 g42 g43 g44 g45 g46 g47 _ _ _ hP hD hK hS hl
                  ·
                    by_cases hf11 : z48.toInt = 9
                    ·
                      obtain rfl : z48 = 9 := (wk_eq 9 (by decide)).mpr (by omega)
                      refine lv_tableIn (off := 422) (tgt := 461) hx hb d_L_law_39 (by decide) (by decide) (by decide) (by decide) ?_
                      exact law_undo l hfl hx hb hml hown hts A hAe hZ hret hlocks hX hbl _ _ rfl rfl dC dI q1 q2 q3 q4 q5 q6 q7 q8 q9 q10 q11 q12 q13 q14 q15 q16 q17 q18 q19 q20 q21 q22 q23 q24 q25 q26 q27 q28 q29 q30 q31 q32 q33 q34 q35 q36 q37 q38 q39 q40 q41 q42 q43 q44 q45 q46 q47 g2 g3 g4 g7 g8 g9 g10 g12 g13 g14 g15 g16 g17 g19 g20 g21 g22 g23 g24 g25 g27 g28 g29 g30 g31 g32 g33 g34 g35 g36 g37 g38 g39 g40 g41 g42 g43 g44 g45 g46 g47 _ _ _ hP hD hK hS hl
                    ·
                      by_cases hf12 : z48.toInt = 10
                      ·
                        obtain rfl : z48 = 10 := (wk_eq 10 (by decide)).mpr (by omega)
                        refine lv_tableIn (off := 466) (tgt := 505) hx hb d_L_law_39 (by decide) (by decide) (by decide) (by decide) ?_
                        exact law_redo l hfl hx hb hml hown hts A hAe hZ hret hlocks hX hbl _ _ rfl rfl dC dI q1 q2 q3 q4 q5 q6 q7 q8 q9 q10 q11 q12 q13 q14 q15 q16 q17 q18 q19 q20 q21 q22 q23 q24 q25 q26 q27 q28 q29 q30 q31 q32 q33 q34 q35 q36 q37 q38 q39 q40 q41 q42 q43 q44 q45 q46 q47 g2 g3 g4 g7 g8 g9 g10 g12 g13 g14 g15 g16 g17 g19 g20 g21 g22 g23 g24 g25 g27 g28 g29 g30 g31 g32 g33 g34 g35 g36 g37 g38 g39 g40 g41 g42 g43 g44 g45 g46 g47 _ _ _ hP hD hK hS hl
                      ·
                        by_cases hf13 : z48.toInt = 11
                        ·
                          obtain rfl : z48 = 11 := (wk_eq 11 (by decide)).mpr (by omega)
                          refine lv_tableIn (off := 510) (tgt := 549) hx hb d_L_law_39 (by decide) (by decide) (by decide) (by decide) ?_
                          exact law_jump l hfl hx hb hml hown hts A hAe hZ hret hlocks hX hbl _ _ rfl rfl dC dI q1 q2 q3 q4 q5 q6 q7 q8 q9 q10 q11 q12 q13 q14 q15 q16 q17 q18 q19 q20 q21 q22 q23 q24 q25 q26 q27 q28 q29 q30 q31 q32 q33 q34 q35 q36 q37 q38 q39 q40 q41 q42 q43 q44 q45 q46 q47 g2 g3 g4 g7 g8 g9 g10 g12 g13 g14 g15 g16 g17 g19 g20 g21 g22 g23 g24 g25 g27 g28 g29 g30 g31 g32 g33 g34 g35 g36 g37 g38 g39 g40 g41 g42 g43 g44 g45 g46 g47 _ _ _ hP hD hK hS hl
                        ·
                          by_cases hf14 : z48.toInt = 12
                          ·
                            obtain rfl : z48 = 12 := (wk_eq 12 (by decide)).mpr (by omega)
                            refine lv_tableIn (off := 546) (tgt := 585) hx hb d_L_law_39 (by decide) (by decide) (by decide) (by decide) ?_
                            exact law_length l hfl hx hb hml hown hts A hAe hZ hret hlocks hX hbl _ _ rfl rfl dC dI q1 q2 q3 q4 q5 q6 q7 q8 q9 q10 q11 q12 q13 q14 q15 q16 q17 q18 q19 q20 q21 q22 q23 q24 q25 q26 q27 q28 q29 q30 q31 q32 q33 q34 q35 q36 q37 q38 q39 q40 q41 q42 q43 q44 q45 q46 q47 g2 g3 g4 g7 g8 g9 g10 g12 g13 g14 g15 g16 g17 g19 g20 g21 g22 g23 g24 g25 g27 g28 g29 g30 g31 g32 g33 g34 g35 g36 g37 g38 g39 g40 g41 g42 g43 g44 g45 g46 g47 _ _ _ hP hD hK hS hl
                          ·
                            by_cases hf15 : z48.toInt = 13
                            ·
                              obtain rfl : z48 = 13 := (wk_eq 13 (by decide)).mpr (by omega)
                              refine lv_tableIn (off := 559) (tgt := 598) hx hb d_L_law_39 (by decide) (by decide) (by decide) (by decide) ?_
                              exact law_at l hfl hx hb hml hown hts A hAe hZ hret hlocks hX hbl _ _ rfl rfl dC dI q1 q2 q3 q4 q5 q6 q7 q8 q9 q10 q11 q12 q13 q14 q15 q16 q17 q18 q19 q20 q21 q22 q23 q24 q25 q26 q27 q28 q29 q30 q31 q32 q33 q34 q35 q36 q37 q38 q39 q40 q41 q42 q43 q44 q45 q46 q47 g2 g3 g4 g7 g8 g9 g10 g12 g13 g14 g15 g16 g17 g19 g20 g21 g22 g23 g24 g25 g27 g28 g29 g30 g31 g32 g33 g34 g35 g36 g37 g38 g39 g40 g41 g42 g43 g44 g45 g46 g47 _ _ _ hP hD hK hS hl
                            ·
                              by_cases hf16 : z48.toInt = 14
                              ·
                                obtain rfl : z48 = 14 := (wk_eq 14 (by decide)).mpr (by omega)
                                refine lv_tableIn (off := 615) (tgt := 654) hx hb d_L_law_39 (by decide) (by decide) (by decide) (by decide) ?_
                                exact law_line l hfl hx hb hml hown hts A hAe hZ hret hlocks hX hbl _ _ rfl rfl dC dI q1 q2 q3 q4 q5 q6 q7 q8 q9 q10 q11 q12 q13 q14 q15 q16 q17 q18 q19 q20 q21 q22 q23 q24 q25 q26 q27 q28 q29 q30 q31 q32 q33 q34 q35 q36 q37 q38 q39 q40 q41 q42 q43 q44 q45 q46 q47 g2 g3 g4 g7 g8 g9 g10 g12 g13 g14 g15 g16 g17 g19 g20 g21 g22 g23 g24 g25 g27 g28 g29 g30 g31 g32 g33 g34 g35 g36 g37 g38 g39 g40 g41 g42 g43 g44 g45 g46 g47 _ _ _ hP hD hK hS hl
                              ·
                                by_cases hf17 : z48.toInt = 15
                                ·
                                  obtain rfl : z48 = 15 := (wk_eq 15 (by decide)).mpr (by omega)
                                  refine lv_tableIn (off := 683) (tgt := 722) hx hb d_L_law_39 (by decide) (by decide) (by decide) (by decide) ?_
                                  exact law_figure l hfl hx hb hml hown hts A hAe hZ hret hlocks hX hbl _ _ rfl rfl dC dI q1 q2 q3 q4 q5 q6 q7 q8 q9 q10 q11 q12 q13 q14 q15 q16 q17 q18 q19 q20 q21 q22 q23 q24 q25 q26 q27 q28 q29 q30 q31 q32 q33 q34 q35 q36 q37 q38 q39 q40 q41 q42 q43 q44 q45 q46 q47 g2 g3 g4 g7 g8 g9 g10 g12 g13 g14 g15 g16 g17 g19 g20 g21 g22 g23 g24 g25 g27 g28 g29 g30 g31 g32 g33 g34 g35 g36 g37 g38 g39 g40 g41 g42 g43 g44 g45 g46 g47 _ _ _ hP hD hK hS hl
                                ·
                                  by_cases hf18 : z48.toInt = 16
                                  ·
                                    obtain rfl : z48 = 16 := (wk_eq 16 (by decide)).mpr (by omega)
                                    refine lv_tableIn (off := 739) (tgt := 778) hx hb d_L_law_39 (by decide) (by decide) (by decide) (by decide) ?_
                                    exact law_parent l hfl hx hb hml hown hts A hAe hZ hret hlocks hX hbl _ _ rfl rfl dC dI q1 q2 q3 q4 q5 q6 q7 q8 q9 q10 q11 q12 q13 q14 q15 q16 q17 q18 q19 q20 q21 q22 q23 q24 q25 q26 q27 q28 q29 q30 q31 q32 q33 q34 q35 q36 q37 q38 q39 q40 q41 q42 q43 q44 q45 q46 q47 g2 g3 g4 g7 g8 g9 g10 g12 g13 g14 g15 g16 g17 g19 g20 g21 g22 g23 g24 g25 g27 g28 g29 g30 g31 g32 g33 g34 g35 g36 g37 g38 g39 g40 g41 g42 g43 g44 g45 g46 g47 _ _ _ hP hD hK hS hl
                                  ·
                                    refine lv_tableOut (tgt := 834) hx hb d_L_law_39 (by omega) (by decide) ?_
                                    exact law_end l hx hb hret hlocks hX hbl hAe (by decide) (by decide) hS (lv_sub hl [0, 4] rfl)

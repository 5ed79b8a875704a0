set_option maxHeartbeats 4000000 in
theorem whole_start {p : Program} {e : Env} {s : State} {m : MethodId} {below : List Frame} {meth : Method} {c : Code} (l : Launch) (hfl : l.flags = flags0) {b L : Nat} {xs : Nat → Int32} (hL : L ≤ 1536) (C0 : lw_At p s m meth c b L xs) : W p l e room_1 s m #[Value.ref b] below meth c s.heap [] 0 0 (lw_Z below #[Value.ref b] s) (entryFrame m ([Value.ref b] : List Value).toArray 7) := by
  obtain ⟨hx, hb, hret, hml, hown, hlw, hX, hbl, hlocks, hgv⟩ := C0
  have hts : ∀ w ∈ (Cond.initialized "DraftTreeLaw" :: wk_tbl), w.before #[Value.ref b] s = true := List.forall_mem_cons.mpr ⟨hlw _ wk_u_lw.2.2.2.1, fun w h => hlw w (wk_in_lw w h)⟩
  have hg := flat_of_before _ hgv
  have hZ : th_ZA (fun q => s.heap.size ≤ q) s := ⟨vx_Zqof (hlw _ wk_u_lw.1) (hlw _ wk_u_lw.2.2.1) (hg _ (by decide +kernel)) (fun a h => Nat.not_le.mpr h), vx_Zqof (hlw _ wk_u_lw.2.1) (hlw _ wk_u_lw.2.2.1) (hg _ (by decide +kernel)) (fun a h => Nat.not_le.mpr h), fun w h => va_tabs (th_bad_ok w h).1 rfl (hlw w (wk_bad_lw w h)), va_AO.of (hlw _ wk_u_lw.2.2.2.2), va_Nc.of (hg (.not (.castable "java/lang/IndexOutOfBoundsException" "java/lang/IllegalArgumentException")) (by decide +kernel)), va_Nc.of (hg (.not (.castable "java/lang/IndexOutOfBoundsException" "java/lang/IllegalStateException")) (by decide +kernel)), va_Nc.of (hg (.not (.castable "java/util/NoSuchElementException" "java/lang/IllegalStateException")) (by decide +kernel)), va_Nc.of (hg (.not (.castable "java/util/NoSuchElementException" "java/lang/IndexOutOfBoundsException")) (by decide +kernel))⟩
  obtain ⟨c0, i0, hk0⟩ := u_known (n := 14) hts (fun w h => List.mem_cons_of_mem _ (in_D w h)) (hts _ (List.mem_cons_of_mem _ lk_599))
  obtain ⟨c1, i1, hk1⟩ := u_known (n := 4) hts (fun w h => List.mem_cons_of_mem _ (in_S w h)) (hts _ (List.mem_cons_of_mem _ lk_528))
  obtain ⟨c2, i2, hk2⟩ := u_known (n := 13) hts (fun w h => List.mem_cons_of_mem _ (in_P w h)) (hts _ (List.mem_cons_of_mem _ lk_701))
  obtain ⟨c3, i3, hk3⟩ := u_known (n := 10) hts (fun w h => List.mem_cons_of_mem _ (in_A w h)) (hts _ (List.mem_cons_of_mem _ lk_705))
  obtain ⟨c4, i4, hk4⟩ := u_known (n := 38) hts (fun w h => List.mem_cons_of_mem _ (in_M w h)) (hts _ (List.mem_cons_of_mem _ lk_604))
  have hK : va_K ((fun k => match k with | 0 => c0 | 1 => c1 | 2 => c2 | 3 => c3 | _ => c4), (fun k => match k with | 0 => i0 | 1 => i1 | 2 => i2 | 3 => i3 | _ => i4)) vwCl [] s := by
    refine ⟨fun c q hq => ?_, fun k q h => by simp at h⟩
    match c, hq with
    | 0, hq => cases hq; exact hk0
    | 1, hq => cases hq; exact hk1
    | 2, hq => cases hq; exact hk2
    | 3, hq => cases hq; exact hk3
    | 4, hq => cases hq; exact hk4
    | n + 5, hq => simp [vwCl] at hq
  refine law_pre (xs := xs) l hfl _ _ hx hb hml hown hts _ rfl hZ hK (fun q1 q2 q3 q4 q5 q6 q7 q8 q9 q10 q11 q12 q13 q14 q15 q16 q17 q18 q19 q20 q21 q22 q23 q24 q25 q26 q27 q28 q29 q30 q31 q32 q33 q34 q35 q36 q37 q38 q39 q40 q41 q42 q43 q44 q45 q46 q47 g2 g3 g4 g7 g8 g9 g10 g12 g13 g14 g15 g16 g17 g19 g20 g21 g22 g23 g24 g25 g27 g28 g29 g30 g31 g32 g33 g34 g35 g36 g37 g38 g39 g40 g41 g42 g43 g44 g45 g46 g47 H locs ls hP hD hK hS hl => ?_)
  exact law_go l hfl hx hb hml hown hts _ (fun _ h => h) hZ hX hbl (Nat.not_le.mpr hbl) hL rfl hret hlocks _ _ q1 q2 q3 q4 q5 q6 q7 q8 q9 q10 q11 q12 q13 q14 q15 q16 q17 q18 q19 q20 q21 q22 q23 q24 q25 q26 q27 q28 q29 q30 q31 q32 q33 q34 q35 q36 q37 q38 q39 q40 q41 q42 q43 q44 q45 q46 q47 g2 g3 g4 g7 g8 g9 g10 g12 g13 g14 g15 g16 g17 g19 g20 g21 g22 g23 g24 g25 g27 g28 g29 g30 g31 g32 g33 g34 g35 g36 g37 g38 g39 g40 g41 g42 g43 g44 g45 g46 g47 H locs ls hP hD hK hS hl

theorem lq_cmp {i L : Nat} (hi : i ≤ 100000) (hL : L ≤ 100000) : Int32.ofNat L - 3 < Int32.ofNat i ↔ ¬ i + 3 ≤ L := by
  have h3 : (3 : Int32).toInt = 3 := by decide
  have hs : (Int32.ofNat L - 3).toInt = (L : Int) - 3 := by
    rw [Int32.toInt_sub, pn_toInt (by omega), h3]
    exact Int.bmod_eq_of_le (by omega) (by omega)
  rw [Int32.lt_iff_toInt_lt, hs, pn_toInt (by omega)]
  omega
theorem lq_out {v : Int32} (h0 : ¬ v = 0) (h1 : ¬ v = 1) (h2 : ¬ v = 2) (h3 : ¬ v = 3) (h4 : ¬ v = 4) (h5 : ¬ v = 5) (h6 : ¬ v = 6) (h7 : ¬ v = 7) (h8 : ¬ v = 8) (h9 : ¬ v = 9) (h10 : ¬ v = 10) (h11 : ¬ v = 11) (h12 : ¬ v = 12) (h13 : ¬ v = 13) (h14 : ¬ v = 14) (h15 : ¬ v = 15) (h16 : ¬ v = 16) : v.toInt < 0 ∨ 16 < v.toInt := by
  by_cases a : v.toInt < 0
  · exact Or.inl a
  · by_cases b : 16 < v.toInt
    · exact Or.inr b
    · have h0' : 0 ≤ v := by
        rw [Int32.le_iff_toInt_le, Int32.toInt_zero]
        omega
      obtain ⟨q1, q2⟩ := er_nat h0'
      have hc9 : v.toNatClampNeg = v.toInt.toNat := rfl
      have hn : v.toNatClampNeg ≤ 16 := by omega
      generalize v.toNatClampNeg = n at q1 hn
      exfalso
      have hh : n = 0 ∨ n = 1 ∨ n = 2 ∨ n = 3 ∨ n = 4 ∨ n = 5 ∨ n = 6 ∨ n = 7 ∨ n = 8 ∨ n = 9 ∨ n = 10 ∨ n = 11 ∨ n = 12 ∨ n = 13 ∨ n = 14 ∨ n = 15 ∨ n = 16 := by omega
      rcases hh with z | z | z | z | z | z | z | z | z | z | z | z | z | z | z | z | z
      · exact h0 (by rw [q1, z]; rfl)
      · exact h1 (by rw [q1, z]; rfl)
      · exact h2 (by rw [q1, z]; rfl)
      · exact h3 (by rw [q1, z]; rfl)
      · exact h4 (by rw [q1, z]; rfl)
      · exact h5 (by rw [q1, z]; rfl)
      · exact h6 (by rw [q1, z]; rfl)
      · exact h7 (by rw [q1, z]; rfl)
      · exact h8 (by rw [q1, z]; rfl)
      · exact h9 (by rw [q1, z]; rfl)
      · exact h10 (by rw [q1, z]; rfl)
      · exact h11 (by rw [q1, z]; rfl)
      · exact h12 (by rw [q1, z]; rfl)
      · exact h13 (by rw [q1, z]; rfl)
      · exact h14 (by rw [q1, z]; rfl)
      · exact h15 (by rw [q1, z]; rfl)
      · exact h16 (by rw [q1, z]; rfl)
set_option maxHeartbeats 8000000 in
set_option maxRecDepth 100000 in
theorem law_loop {p : Program} {en : Env} {s : State} {m : MethodId} {below : List Frame} {meth : Method} {c : Code} (l : Launch) (hfl : l.flags = flags0) (x : FX) {b L : Nat} {xs : Nat → Int32} (hx : p.tables.exec = Jvm.exec) (hb : c.code = code) (hml : c.maxLocals = 7) (hown : s.vm.findClass "DraftTreeLaw" = some m.cls) (hts : ∀ w ∈ (Cond.initialized "DraftTreeLaw" :: wk_tbl), w.before #[Value.ref b] s = true) (B9 : Nat → Prop) (hA : ∀ q : Nat, s.heap.size ≤ q → B9 q) (hZ : th_ZA B9 s) (hX : va_X b L xs s s.heap) (hbl : b < s.heap.size) (hbA : ¬ B9 b) (hL : L ≤ 1536) (hK : va_K x.D vwCl (kT x) s) (hAe : (fun q => s.heap.size ≤ q) = B9) (hret : meth.sig.returnType = ret) (hlocks : meth.locks = false) : ∀ (n i : Nat) (k : CK) (e : ES) (t : Nat) (cf : Nat → Nat) (I : MI) (A : MA) (ov : Nat → Int64) (cells slots : Nat) (H : Heap) (locs : List Loc) (ls : Array Slot), L ≤ i + 3 * n → i ≤ L → CRel e k → EWf e → MRel e t cf I A → t + n < 100000 → cells + 3 * n ≤ 601024 → slots + 170 * n ≤ 7293034 → va_P x.D vwCl (WL x k e ov I A) H → va_D B9 (WL x k e ov I A) → va_S B9 s.heap H locs → lv_has ls 7 [(4, .int (Int32.ofNat i)), (3, .ref x.ob), (2, .ref x.hM), (1, .ref x.h), (0, .ref b)] → W p l en room_1 s m #[Value.ref b] below meth c H locs cells slots (lw_Z below #[Value.ref b] s) (F0 m 23 ls []) := by
  intro n
  induction n with
  | zero =>
    intro i k e t cf I A ov cells slots H locs ls hn hiL hC w hM ht hcl hsl hP hD hS hl
    refine lv_iload hx hb d_L_law_23 (lv_at hl 0 rfl) ?_
    refine lv_aload_n hx hb d_L_law_25 rfl (lv_at hl 4 rfl) ?_
    refine va_slen hx hb hX hbl hbA hS d_L_law_26 ?_
    refine lv_iconst (v := 3) hx hb d_L_law_27 (by decide) ?_
    refine lv_isub hx hb d_L_law_28 ?_
    have hcmp := lq_cmp (i := i) (L := L) (by clear w hM hC; omega) (by clear w hM hC; omega)
    refine lv_icmp_gt (tgt := 527) hx hb d_L_law_29 (by decide) (fun _ => ?_) (fun hc => absurd (hcmp.mpr (by clear w hM hC; omega)) hc)
    refine lv_iconst (v := 1) hx hb d_L_law_527 (by decide) ?_
    refine va_forget (fun q hq => by have h9 := hS.2.2 q hq; rw [← hAe] at h9; exact h9) ?_
    refine W.widen (k := 601024) (n := 7293034) (by clear w hM hC; omega) (by clear w hM hC; omega) ?_
    exact lw_ret hx hb hret hlocks d_L_law_528
  | succ n ih =>
    intro i k e t cf I A ov cells slots H locs ls hn hiL hC w hM ht hcl hsl hP hD hS hl
    refine lv_iload hx hb d_L_law_23 (lv_at hl 0 rfl) ?_
    refine lv_aload_n hx hb d_L_law_25 rfl (lv_at hl 4 rfl) ?_
    refine va_slen hx hb hX hbl hbA hS d_L_law_26 ?_
    refine lv_iconst (v := 3) hx hb d_L_law_27 (by decide) ?_
    refine lv_isub hx hb d_L_law_28 ?_
    have hcmp := lq_cmp (i := i) (L := L) (by clear w hM hC; omega) (by clear w hM hC; omega)
    refine lv_icmp_gt (tgt := 527) hx hb d_L_law_29 (by decide) (fun _ => ?_) (fun hc => ?_)
    ·
      refine lv_iconst (v := 1) hx hb d_L_law_527 (by decide) ?_
      refine va_forget (fun q hq => by have h9 := hS.2.2 q hq; rw [← hAe] at h9; exact h9) ?_
      refine W.widen (k := 601024) (n := 7293034) (by clear w hM hC; omega) (by clear w hM hC; omega) ?_
      exact lw_ret hx hb hret hlocks d_L_law_528
    ·
      have hi : i + 3 ≤ L := Classical.not_not.mp (fun z => hc (hcmp.mpr z))
      have kk : LKont p l en s m below meth c x b B9 i t cells slots := by
        intro k' e' t' cf' ov' I' A' H' locs' ls' hC' w' hM' htt hP' hD' hS' hl'
        refine lv_iinc (k := 0) (v := Int32.ofNat (i + 3)) (lv' := [(4, .int (Int32.ofNat (i + 3))), (3, .ref x.ob), (2, .ref x.hM), (1, .ref x.h), (0, .ref b)]) hx hb d_L_law_521 hl' rfl (pn_add3 i) (by decide) rfl (fun ls hl => ?_)
        refine lv_goto (tgt := 23) hx hb d_L_law_524 (by decide) ?_
        exact ih (i + 3) k' e' t' cf' I' A' ov' (cells + 3) (slots + 170) H' locs' ls (by clear w hM hC w' hM' hC'; omega) hi hC' w' hM' (by clear w hM hC w' hM' hC'; omega) (by clear w hM hC w' hM' hC'; omega) (by clear w hM hC w' hM' hC'; omega) hP' hD' hS' hl
      refine lv_aload_n hx hb d_L_law_32 rfl (lv_at hl 4 rfl) ?_
      refine lv_iload hx hb d_L_law_33 (lv_at hl 0 rfl) ?_
      refine va_sld hx hb hX hbl hbA hS (wk_inb_ok ((pn_inb (by clear w hM hC; omega)).mpr (by clear w hM hC; omega))) d_L_law_35 ?_
      refine lv_bipush (v := 31) hx hb d_L_law_36 (by decide) ?_
      refine lv_iand hx hb d_L_law_38 ?_
      generalize (xs (Int32.ofNat i).toNatClampNeg &&& 31) = v
      by_cases h0 : v = 0
      ·
        refine wk_top (w := .int 0) (congrArg _ h0) ?_
        refine lv_tableIn (off := 81) (tgt := 120) hx hb d_L_law_39 (by decide) (by decide) (by decide) (by decide) ?_
        exact lq_type l hfl x hx hb hml hown hts B9 hA hZ hX hbl hbA hL hK i hi hC w hM (by clear w hM hC; omega) (by clear w hM hC; omega) (by clear w hM hC; omega) hP hD hS hl kk
      by_cases h1 : v = 1
      ·
        refine wk_top (w := .int 1) (congrArg _ h1) ?_
        refine lv_tableIn (off := 108) (tgt := 147) hx hb d_L_law_39 (by decide) (by decide) (by decide) (by decide) ?_
        exact lq_wipe l hfl x hx hb hml hown hts B9 hA hZ hX hbl hbA hL hK i hi hC w hM (by clear w hM hC; omega) (by clear w hM hC; omega) (by clear w hM hC; omega) hP hD hS hl kk
      by_cases h2 : v = 2
      ·
        refine wk_top (w := .int 2) (congrArg _ h2) ?_
        refine lv_tableIn (off := 121) (tgt := 160) hx hb d_L_law_39 (by decide) (by decide) (by decide) (by decide) ?_
        exact lq_insert l hfl x hx hb hml hown hts B9 hA hZ hX hbl hbA hL hK i hi hC w hM (by clear w hM hC; omega) (by clear w hM hC; omega) (by clear w hM hC; omega) hP hD hS hl kk
      by_cases h3 : v = 3
      ·
        refine wk_top (w := .int 3) (congrArg _ h3) ?_
        refine lv_tableIn (off := 137) (tgt := 176) hx hb d_L_law_39 (by decide) (by decide) (by decide) (by decide) ?_
        exact lq_erase l hfl x hx hb hml hown hts B9 hA hZ hX hbl hbA hL hK i hi hC w hM (by clear w hM hC; omega) (by clear w hM hC; omega) (by clear w hM hC; omega) hP hD hS hl kk
      by_cases h4 : v = 4
      ·
        refine wk_top (w := .int 4) (congrArg _ h4) ?_
        refine lv_tableIn (off := 165) (tgt := 204) hx hb d_L_law_39 (by decide) (by decide) (by decide) (by decide) ?_
        exact lq_go l hfl x hx hb hml hown hts B9 hA hZ hX hbl hbA hL hK i hi hC w hM (by clear w hM hC; omega) (by clear w hM hC; omega) (by clear w hM hC; omega) hP hD hS hl kk
      by_cases h5 : v = 5
      ·
        refine wk_top (w := .int 5) (congrArg _ h5) ?_
        refine lv_tableIn (off := 218) (tgt := 257) hx hb d_L_law_39 (by decide) (by decide) (by decide) (by decide) ?_
        exact lq_compile l hfl x hx hb hml hown hts B9 hA hZ hX hbl hbA hL hK i hi hC w hM (by clear w hM hC; omega) (by clear w hM hC; omega) (by clear w hM hC; omega) hP hD hS hl kk
      by_cases h6 : v = 6
      ·
        refine wk_top (w := .int 6) (congrArg _ h6) ?_
        refine lv_tableIn (off := 231) (tgt := 270) hx hb d_L_law_39 (by decide) (by decide) (by decide) (by decide) ?_
        exact lq_fault l hfl x hx hb hml hown hts B9 hA hZ hX hbl hbA hL hK i hi hC w hM (by clear w hM hC; omega) (by clear w hM hC; omega) (by clear w hM hC; omega) hP hD hS hl kk
      by_cases h7 : v = 7
      ·
        refine wk_top (w := .int 7) (congrArg _ h7) ?_
        refine lv_tableIn (off := 244) (tgt := 283) hx hb d_L_law_39 (by decide) (by decide) (by decide) (by decide) ?_
        exact lq_find l hfl x hx hb hml hown hts B9 hA hZ hX hbl hbA hL hK i hi hC w hM (by clear w hM hC; omega) (by clear w hM hC; omega) (by clear w hM hC; omega) hP hD hS hl kk
      by_cases h8 : v = 8
      ·
        refine wk_top (w := .int 8) (congrArg _ h8) ?_
        refine lv_tableIn (off := 272) (tgt := 311) hx hb d_L_law_39 (by decide) (by decide) (by decide) (by decide) ?_
        exact lq_replace l hfl x hx hb hml hown hts B9 hA hZ hX hbl hbA hL hK i hi hC w hM (by clear w hM hC; omega) (by clear w hM hC; omega) (by clear w hM hC; omega) hP hD hS hl kk
      by_cases h9 : v = 9
      ·
        refine wk_top (w := .int 9) (congrArg _ h9) ?_
        refine lv_tableIn (off := 288) (tgt := 327) hx hb d_L_law_39 (by decide) (by decide) (by decide) (by decide) ?_
        exact lq_undo l hfl x hx hb hml hown hts B9 hA hZ hX hbl hbA hL hK i hi hC w hM (by clear w hM hC; omega) (by clear w hM hC; omega) (by clear w hM hC; omega) hP hD hS hl kk
      by_cases h10 : v = 10
      ·
        refine wk_top (w := .int 10) (congrArg _ h10) ?_
        refine lv_tableIn (off := 304) (tgt := 343) hx hb d_L_law_39 (by decide) (by decide) (by decide) (by decide) ?_
        exact lq_redo l hfl x hx hb hml hown hts B9 hA hZ hX hbl hbA hL hK i hi hC w hM (by clear w hM hC; omega) (by clear w hM hC; omega) (by clear w hM hC; omega) hP hD hS hl kk
      by_cases h11 : v = 11
      ·
        refine wk_top (w := .int 11) (congrArg _ h11) ?_
        refine lv_tableIn (off := 320) (tgt := 359) hx hb d_L_law_39 (by decide) (by decide) (by decide) (by decide) ?_
        exact lq_jump l hfl x hx hb hml hown hts B9 hA hZ hX hbl hbA hL hK i hi hC w hM (by clear w hM hC; omega) (by clear w hM hC; omega) (by clear w hM hC; omega) hP hD hS hl kk
      by_cases h12 : v = 12
      ·
        refine wk_top (w := .int 12) (congrArg _ h12) ?_
        refine lv_tableIn (off := 345) (tgt := 384) hx hb d_L_law_39 (by decide) (by decide) (by decide) (by decide) ?_
        exact lq_length l hfl x hx hb hml hown hts B9 hA hZ hX hbl hbA hL hK i hi hC w hM (by clear w hM hC; omega) (by clear w hM hC; omega) (by clear w hM hC; omega) hP hD hS hl kk
      by_cases h13 : v = 13
      ·
        refine wk_top (w := .int 13) (congrArg _ h13) ?_
        refine lv_tableIn (off := 358) (tgt := 397) hx hb d_L_law_39 (by decide) (by decide) (by decide) (by decide) ?_
        exact lq_at l hfl x hx hb hml hown hts B9 hA hZ hX hbl hbA hL hK i hi hC w hM (by clear w hM hC; omega) (by clear w hM hC; omega) (by clear w hM hC; omega) hP hD hS hl kk
      by_cases h14 : v = 14
      ·
        refine wk_top (w := .int 14) (congrArg _ h14) ?_
        refine lv_tableIn (off := 386) (tgt := 425) hx hb d_L_law_39 (by decide) (by decide) (by decide) (by decide) ?_
        exact lq_line l hfl x hx hb hml hown hts B9 hA hZ hX hbl hbA hL hK i hi hC w hM (by clear w hM hC; omega) (by clear w hM hC; omega) (by clear w hM hC; omega) hP hD hS hl kk
      by_cases h15 : v = 15
      ·
        refine wk_top (w := .int 15) (congrArg _ h15) ?_
        refine lv_tableIn (off := 426) (tgt := 465) hx hb d_L_law_39 (by decide) (by decide) (by decide) (by decide) ?_
        exact lq_figure l hfl x hx hb hml hown hts B9 hA hZ hX hbl hbA hL hK i hi hC w hM (by clear w hM hC; omega) (by clear w hM hC; omega) (by clear w hM hC; omega) hP hD hS hl kk
      by_cases h16 : v = 16
      ·
        refine wk_top (w := .int 16) (congrArg _ h16) ?_
        refine lv_tableIn (off := 454) (tgt := 493) hx hb d_L_law_39 (by decide) (by decide) (by decide) (by decide) ?_
        exact lq_parent l hfl x hx hb hml hown hts B9 hA hZ hX hbl hbA hL hK i hi hC w hM (by clear w hM hC; omega) (by clear w hM hC; omega) (by clear w hM hC; omega) hP hD hS hl kk
      refine lv_tableOut (tgt := 521) hx hb d_L_law_39 (lq_out h0 h1 h2 h3 h4 h5 h6 h7 h8 h9 h10 h11 h12 h13 h14 h15 h16) (by decide) ?_
      refine W.widen (k := cells + 3) (n := slots + 170) (Nat.le_add_right _ _) (Nat.le_add_right _ _) ?_
      exact kk k e t cf ov I A H locs ls hC w hM (Nat.le_succ _) hP hD hS hl

-- 88.claim
set_option maxHeartbeats 4000000 in
theorem lw_walk (l : Launch) (hfl : l.flags = flags0) (b : Addr) (xs : List Int32) : MetFree l x (headSpec (Jvm.Cond.code x code maxLocals ret :: tables_1) room_1) (lw_P b xs) (fun _ _ _ _ _ => True) lw_Q := by
  refine MetFree.of_bodyS (code := code) (maxLocals := maxLocals) (ret := ret) (by decide) ?_ ?_
  · intro args s m h hn
    obtain ⟨meth, c, h1, h2, h3, h4, h5, h6, -, -⟩ := Cond.code_spec hn (atoms_spec (ws := Jvm.Cond.code x code maxLocals ret :: tables_1) h _ List.mem_cons_self)
    exact ⟨meth, c, h1, h2, h3, h4, h5, h6⟩
  · intro p e s m args below meth c s₁ B hml0 hP _
    obtain ⟨rfl, hx, hbd, hgv, hxr⟩ := hP
    obtain ⟨scr, harrAt, hlist, hof, hsmall⟩ := hx
    obtain ⟨hcb, hkn, -, -⟩ := State.arrayAt?_spec harrAt
    have hown : s.vm.findClass R_law = some m.cls := findClass_of_methodNamed B.named
    have hts0 : ∀ c ∈ (Jvm.Cond.code x code maxLocals ret :: tables_1), c.before #[Value.ref b] s = true := atoms_spec (ws := Jvm.Cond.code x code maxLocals ret :: tables_1) B.pre
    have hts : ∀ w ∈ lw_tbl, w.before #[Value.ref b] s = true := k2_hts_sels lw_privs (fun w hw => hts0 w (List.mem_cons_of_mem _ hw)) lw_privs_ok
    have hml : c.maxLocals = 7 := B.maxLocals_eq (hts0 _ List.mem_cons_self)
    have X₀ : Stand p l e room_1 s m #[Value.ref b] below meth c s₁ [] 0 0 := Stand.of_body B
    have hh0 : s₁.heap = s.heap := by rw [B.state]; rfl
    have hsz : scr.slots.size = xs.length := by rw [← Array.length_toList, hlist, List.length_map]
    have hval : ∀ j : Nat, j < xs.length → scr.slots[j]? = some (.int (xs.getD j 0)) := fun j hj => by
      rw [← Array.getElem?_toList, hlist]
      simp [hj]
    have hbl : b < s.heap.size := (Array.getElem?_eq_some_iff.mp hcb).1
    have hX : va_X b xs.length (fun j => xs.getD j 0) s s.heap := ⟨scr, hcb, hof, hkn, hsz, hval⟩
    have K : W p l e room_1 s m #[Value.ref b] below meth c s₁.heap [] 0 0 (lw_Z below #[Value.ref b] s) (entryFrame m ([Value.ref b] : List Value).toArray 7) := by
      rw [hh0]
      exact whole_start (L := xs.length) (xs := fun j => xs.getD j 0) l hfl hbd (by rw [hxr]; exact rf_len) (by rw [hxr]; exact rf_xs.1) (by rw [hxr]; exact rf_xs.2) ⟨B.exec, B.bytes, B.returns, hml, hown, hts, hX, hbl, B.notSynchronized, hgv⟩
    obtain ⟨t, a1, o, b1, b2, b3⟩ := K s₁ rfl X₀
    exact ⟨t, o, a1, b1, b2, b3⟩
/-- from every start that the statement allows and whose script is this one, the law returns 0 -/
theorem rf_comes (l : Launch) (hfl : l.flags = flags0) : Comes l x (Jvm.Cond.code x code maxLocals ret :: tables_1) room_1 (fun tb e args s => (Calls_1 tb e args s ∧ rest_1 tb e args s ∧ Pre_1 tb e args s) ∧ ∃ b, args = #[Value.ref b] ∧ s.IntsAt b rf_script) (fun _ _ args s o t => lw_Q args s o t) := by
  intro p e ha hc hk s m args below hf hfit hheap happ hpre
  obtain ⟨⟨-, -, hg⟩, b, hargs, hxs⟩ := hpre
  obtain ⟨k, o, h1, h2, h3, hQ⟩ := lw_walk l hfl b rf_script p e ha hc hk s m args below hf ((Spec.applies_iff_loose hf).mp happ).1 ⟨hargs, hxs, by rw [rf_len]; decide, hg, rfl⟩ trivial
  exact ⟨k, o, h1, h2, h3, hQ⟩
/-- so wherever such a start is, the claim is false -/
theorem rf_refuted {l : Launch} (hfl : l.flags = flags0) {p : Program} {e : Env} {s : State} {m : MethodId} {args : Array Value} {below : List Frame} (hLi : Lists l classFile x code maxLocals ret tables_1 room_1) (hW : World_1 l) (ha : l.admits e) (hc : FairCas e.choices) (hk : FairClock e.choices) (hf : s.frames = Frame.invoking m args :: below) (hfit : argsFit s.vm m args = true) (hheap : heapFits s = true) (happ : (headSpec (Jvm.Cond.code x code maxLocals ret :: tables_1) room_1).applies x e.platform s = true) (hca : Calls_1 p.tables e args s) (hre : rest_1 p.tables e args s) (hpr : Pre_1 p.tables e args s) {b : Addr} (hargs : args = #[Value.ref b]) (hs : s.IntsAt b rf_script) : ¬ Claimed_1_2 := by
  intro hcl
  obtain ⟨n1, o1, w1, r1, e1, q1⟩ := rf_comes l hfl p e ha hc hk s m args below hf hfit hheap happ ⟨⟨hca, hre, hpr⟩, b, hargs, hs⟩
  obtain ⟨n2, o2, w2, r2, e2, q2⟩ := hcl l hfl hLi hW p e ha hc hk s m args below hf hfit hheap happ ⟨hca, hre, hpr⟩
  have hn : n1 = n2 := by
    rcases Nat.lt_trichotomy n1 n2 with z | z | z
    · exact absurd (w2 n1 z) (Ended.not_within e1)
    · exact z
    · exact absurd (w1 n2 z) (Ended.not_within e2)
  subst hn
  have ho := Ended.outcome_unique e2 e1
  subst ho
  obtain ⟨hz, -⟩ := q1
  subst hz
  have q3 : limb_1_2.after args s (.returned (some (.int 0))) (stepsAlone p.tables e n1 s) = true := q2.1
  have q4 := Cond.after_iff.mp q3
  rw [show limb_1_2 = Cond.eq .result (.int 1) from rfl, Cond.eq_ints (x := 0) (y := 1) rfl rfl] at q4
  exact absurd q4 (by decide)

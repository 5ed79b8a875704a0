-- own rows: contracts carried from a part of the world to the whole
theorem va_D.nd {A : Nat → Prop} {ws : va_W} (h : va_D A ws) : (ws.map (fun q => q.1)).Nodup := by
  refine List.pairwise_iff_getElem.mpr (fun i j hi hj hij he => ?_)
  rw [List.length_map] at hi hj
  simp only [List.getElem_map] at he
  exact absurd (h.1 i j _ _ (List.getElem?_eq_getElem hi) (List.getElem?_eq_getElem hj) he) (Nat.ne_of_lt hij)
theorem va_D.of {A : Nat → Prop} {ws : va_W} (hn : (ws.map (fun q => q.1)).Nodup) (ha : ∀ q ∈ ws, A q.1) : va_D A ws := by
  refine ⟨fun i j p q hi hj he => ?_, fun k q hk => ha q (List.mem_of_getElem? hk)⟩
  obtain ⟨li, ei⟩ := List.getElem?_eq_some_iff.mp hi
  obtain ⟨lj, ej⟩ := List.getElem?_eq_some_iff.mp hj
  have hp := List.pairwise_iff_getElem.mp hn
  rcases Nat.lt_trichotomy i j with h | h | h
  · have z := hp i j (by rw [List.length_map]; exact li) (by rw [List.length_map]; exact lj) h
    simp only [List.getElem_map] at z
    exact absurd (by rw [ei, ej]; exact he) z
  · exact h
  · have z := hp j i (by rw [List.length_map]; exact lj) (by rw [List.length_map]; exact li) h
    simp only [List.getElem_map] at z
    exact absurd (by rw [ei, ej]; exact he.symm) z
theorem va_D.inn {A : Nat → Prop} {ws : va_W} (h : va_D A ws) {q : Nat × va_E} (hq : q ∈ ws) : A q.1 := by
  obtain ⟨i, hi⟩ := List.getElem?_of_mem hq
  exact h.2 i q hi
theorem va_D.perm {A : Nat → Prop} {ws ws' : va_W} (h : va_D A ws) (hp : ws'.Perm ws) : va_D A ws' :=
  va_D.of ((hp.map (fun q => q.1)).nodup_iff.mpr h.nd) (fun q hq => h.inn (hp.mem_iff.mp hq))
theorem va_P.perm {D : va_G} {cl : List vw_C} {ws ws' : va_W} {H : Heap} (h : va_P D cl ws H) (hp : ws'.Perm ws) : va_P D cl ws' H := h.memb (fun _ hq => hp.mem_iff.mp hq)
theorem va_D.lef {A : Nat → Prop} {w1 w2 : va_W} (h : va_D A (w1 ++ w2)) : va_D A w1 :=
  va_D.of (List.Nodup.sublist (List.Sublist.map _ (List.sublist_append_left w1 w2)) h.nd) (fun _ hq => h.inn (List.mem_append_left _ hq))
theorem va_D.rig {A : Nat → Prop} {w1 w2 : va_W} (h : va_D A (w1 ++ w2)) : va_D A w2 :=
  va_D.of (List.Nodup.sublist (List.Sublist.map _ (List.sublist_append_right w1 w2)) h.nd) (fun _ hq => h.inn (List.mem_append_right _ hq))
theorem va_P.lef {D : va_G} {cl : List vw_C} {w1 w2 : va_W} {H : Heap} (h : va_P D cl (w1 ++ w2) H) : va_P D cl w1 H := h.memb (fun _ hq => List.mem_append_left _ hq)
theorem va_P.rig {D : va_G} {cl : List vw_C} {w1 w2 : va_W} {H : Heap} (h : va_P D cl (w1 ++ w2) H) : va_P D cl w2 H := h.memb (fun _ hq => List.mem_append_right _ hq)
theorem va_A.mono {wc ws : va_W} {sz : Nat} (hm : ∀ q ∈ wc, q ∈ ws) : ∀ q, va_A wc sz q → va_A ws sz q := fun q h => by
  rcases h with ⟨k, e, hk⟩ | h
  · obtain ⟨i, hi⟩ := List.getElem?_of_mem (hm _ (List.mem_of_getElem? hk))
    exact Or.inl ⟨i, e, hi⟩
  · exact Or.inr h
theorem va_K.memb {D : va_G} {cl : List vw_C} {t t' : List (ClassId × FieldType)} {U : State} (h : va_K D cl t U) (hm : ∀ x ∈ t', x ∈ t) : va_K D cl t' U := ⟨h.1, fun k q hk => by
  obtain ⟨i, hi⟩ := List.getElem?_of_mem (hm q (List.mem_of_getElem? hk))
  exact h.2 i q hi⟩
theorem va_lift {A0 : Nat → Prop} {D : va_G} {cl : List vw_C} {ws wc w1 rs ws' : va_W} {H H1 : Heap} {sz : Nat} (hP : va_P D cl ws H) (hsz : H.size = sz) (hD : va_D A0 ws) (p0 : ws.Perm (wc ++ rs)) (p1 : ws'.Perm (w1 ++ rs))
    (hk : ∀ q : Nat, q < H.size → ¬ va_A wc sz q → H1[q]? = H[q]?) (hP1 : va_P D cl w1 H1) (hD1 : va_D (va_A wc sz) w1) : va_P D cl ws' H1 ∧ va_D (va_A ws sz) ws' := by
  have hW := hP.perm p0.symm
  have hDW := hD.perm p0.symm
  have hrs : ∀ q ∈ rs, va_at D cl q H ∧ ¬ va_A wc sz q.1 := by
    intro q hq
    have h1 := hW.inn (List.mem_append_right wc hq)
    refine ⟨h1, fun h => ?_⟩
    rcases h with ⟨k, e, h⟩ | h
    · obtain ⟨j, hj⟩ := List.getElem?_of_mem hq
      have hl : k < wc.length := (List.getElem?_eq_some_iff.mp h).1
      have := hDW.1 k (wc.length + j) (q.1, e) q (by rw [List.getElem?_append_left hl]; exact h) (by rw [List.getElem?_append_right (Nat.le_add_right _ _), Nat.add_sub_cancel_left]; exact hj) rfl
      omega
    · have := h1.lt
      omega
  have hin : ∀ q, va_A wc sz q → va_A ws sz q := va_A.mono (fun q hq => p0.mem_iff.mpr (List.mem_append_left _ hq))
  have kP : va_P D cl (w1 ++ rs) H1 := hP1.app (fun k q hq => by
    have h1 := hrs q (List.mem_of_getElem? hq)
    exact h1.1.kept (hk _ h1.1.lt h1.2))
  have kD : va_D (va_A ws sz) (w1 ++ rs) := by
    refine va_D.app (hD1.weaken (fun _ _ _ h => hin _ h)) ?_ (fun i j p q hi hj he => ?_)
    · refine va_D.of hDW.rig.nd (fun q hq => ?_)
      obtain ⟨i, hi⟩ := List.getElem?_of_mem (p0.mem_iff.mpr (List.mem_append_right wc hq))
      exact Or.inl ⟨i, q.2, hi⟩
    · exact (hrs q (List.mem_of_getElem? hj)).2 (by rw [← he]; exact hD1.2 i p hi)
  exact ⟨kP.perm p1, kD.perm p1⟩
theorem Met.conseq {l : Launch} {y : MethodName} {ws : List Cond} {rm : Room} {Pc Pc' : Array Value → State → Prop} {Qc Qc' : Array Value → State → Outcome → State → Prop} {mc ms : Nat} {free free' : Addr → Prop} (hM : Met l y ws rm Pc Qc mc ms free) (hP : ∀ a U, Pc' a U → Pc a U) (hQ : ∀ a st o t, Pc' a st → Qc a st o t → Qc' a st o t) (hf : ∀ q, free q → free' q) : Met l y ws rm Pc' Qc' mc ms free' := by
  intro p e ha hc hk s m args below hfr happ hP0 _
  obtain ⟨n, o, h1, h2, h3, hQ0, L, hF, hL⟩ := hM p e ha hc hk s m args below hfr happ (hP _ _ hP0) trivial
  exact ⟨n, o, h1, h2, h3, hQ _ _ _ _ hP0 hQ0, L, hF, fun q hq => hf _ (hL q hq)⟩
theorem th_Met.conseq {l : Launch} {y : MethodName} {ws : List Cond} {rm : Room} {Pc Pc' : Array Value → State → Prop} {Qc Qc' : Array Value → State → Addr → State → Prop} {mc ms : Nat} {free free' : Addr → Prop} (hM : th_Met l y ws rm Pc Qc mc ms free) (hP : ∀ a U, Pc' a U → Pc a U) (hQ : ∀ a st o t, Pc' a st → Qc a st o t → Qc' a st o t) (hf : ∀ q, free q → free' q) : th_Met l y ws rm Pc' Qc' mc ms free' := by
  intro p e ha hc hk s m args below hfr happ hP0 _
  obtain ⟨n, o, h1, h2, h3, x, ho, hQ0, hW, L, hF, hL⟩ := hM p e ha hc hk s m args below hfr happ (hP _ _ hP0) trivial
  exact ⟨n, o, h1, h2, h3, x, ho, hQ _ _ _ _ hP0 hQ0, hW, L, hF, fun q hq => hf _ (hL q hq)⟩
theorem va_F.mono {A B : Nat → Prop} {st t : State} (h : va_F A st t) (hm : ∀ q, A q → B q) : va_F B st t := ⟨h.1, fun q hq hn => h.2 q hq (fun z => hn (hm q z))⟩
/-- the common beginning of a contract over a world -/
abbrev kPre (D : va_G) (sz : Nat) (ws : va_W) (tys : List (ClassId × FieldType)) (U : State) : Prop := U.heap.size = sz ∧ va_P D vwCl ws U.heap ∧ va_K D vwCl tys U ∧ va_D (fun _ => True) ws
abbrev kPreT (D : va_G) (sz : Nat) (ws : va_W) (tys : List (ClassId × FieldType)) (U : State) : Prop := U.heap.size = sz ∧ va_P D vwCl ws U.heap ∧ va_K D vwCl tys U ∧ va_D (fun _ => True) ws ∧ th_ZA (va_A ws sz) U
theorem Met.liftI {l : Launch} {y : MethodName} {wl : List Cond} {rm : Room} {mc ms : Nat} {av : List Value} {D : va_G} {sz : Nat} {wc ws rs : va_W} {Tc Ts : List (ClassId × FieldType)} {S : Type} {post : Int32 → S → Prop} {C : S → State → Prop} {B : S → va_W} (B' : S → va_W)
    (hM : Met l y wl rm (va_Pc av (kPre D sz wc Tc)) (va_Qi post C (va_A wc sz)) mc ms (va_A wc sz)) (hC : ∀ u t, C u t → va_P D vwCl (B u) t.heap ∧ va_D (va_A wc sz) (B u)) (p0 : ws.Perm (wc ++ rs)) (p1 : ∀ u, (B' u).Perm (B u ++ rs)) (hT : ∀ x ∈ Tc, x ∈ Ts) :
    Met l y wl rm (va_Pc av (kPre D sz ws Ts)) (va_Qi post (fun u t => va_P D vwCl (B' u) t.heap ∧ va_D (va_A ws sz) (B' u)) (va_A ws sz)) mc ms (va_A ws sz) := by
  have hm : ∀ q ∈ wc, q ∈ ws := fun q hq => p0.mem_iff.mpr (List.mem_append_left _ hq)
  refine hM.conseq (fun a U h => ?_) (fun a st o t h hq => ?_) (va_A.mono hm)
  · obtain ⟨h0, h1, h2, h3, h4⟩ := h
    exact ⟨h0, h1, h2.memb hm, h3.memb hT, (h4.perm p0.symm).lef⟩
  · obtain ⟨h0, h1, h2, h3, h4⟩ := h
    obtain ⟨⟨r, u, ho, hr, hB⟩, hF⟩ := hq
    obtain ⟨b1, b2⟩ := hC u t hB
    exact ⟨⟨r, u, ho, hr, va_lift h2 h1 h4 p0 (p1 u) hF.2 b1 b2⟩, hF.mono (va_A.mono hm)⟩
theorem Met.liftV {l : Launch} {y : MethodName} {wl : List Cond} {rm : Room} {mc ms : Nat} {av : List Value} {D : va_G} {sz : Nat} {wc ws rs : va_W} {Tc Ts : List (ClassId × FieldType)} {S : Type} {post : S → Prop} {C : S → State → Prop} {B : S → va_W} (B' : S → va_W)
    (hM : Met l y wl rm (va_Pc av (kPre D sz wc Tc)) (va_Qv post C (va_A wc sz)) mc ms (va_A wc sz)) (hC : ∀ u t, C u t → va_P D vwCl (B u) t.heap ∧ va_D (va_A wc sz) (B u)) (p0 : ws.Perm (wc ++ rs)) (p1 : ∀ u, (B' u).Perm (B u ++ rs)) (hT : ∀ x ∈ Tc, x ∈ Ts) :
    Met l y wl rm (va_Pc av (kPre D sz ws Ts)) (va_Qv post (fun u t => va_P D vwCl (B' u) t.heap ∧ va_D (va_A ws sz) (B' u)) (va_A ws sz)) mc ms (va_A ws sz) := by
  have hm : ∀ q ∈ wc, q ∈ ws := fun q hq => p0.mem_iff.mpr (List.mem_append_left _ hq)
  refine hM.conseq (fun a U h => ?_) (fun a st o t h hq => ?_) (va_A.mono hm)
  · obtain ⟨h0, h1, h2, h3, h4⟩ := h
    exact ⟨h0, h1, h2.memb hm, h3.memb hT, (h4.perm p0.symm).lef⟩
  · obtain ⟨h0, h1, h2, h3, h4⟩ := h
    obtain ⟨⟨u, ho, hr, hB⟩, hF⟩ := hq
    obtain ⟨b1, b2⟩ := hC u t hB
    exact ⟨⟨u, ho, hr, va_lift h2 h1 h4 p0 (p1 u) hF.2 b1 b2⟩, hF.mono (va_A.mono hm)⟩
theorem th_ZA.mono {A A' : Nat → Prop} {s : State} (h : th_ZA A s) (hA : ∀ q, A' q → A q) : th_ZA A' s := ⟨h.1.narrow hA, h.2.1.narrow hA, h.2.2⟩
theorem th_Met.lift {l : Launch} {y : MethodName} {wl : List Cond} {rm : Room} {mc ms : Nat} {av : List Value} {D : va_G} {sz : Nat} {wc ws rs w1 ws' : va_W} {Tc Ts : List (ClassId × FieldType)} {E : String} {C : State → Prop}
    (hM : th_Met l y wl rm (va_Pc av (kPreT D sz wc Tc)) (th_Qw E C (va_A wc sz)) mc ms (va_A wc sz)) (hC : ∀ t, C t → va_P D vwCl w1 t.heap ∧ va_D (va_A wc sz) w1) (p0 : ws.Perm (wc ++ rs)) (p1 : ws'.Perm (w1 ++ rs)) (hT : ∀ x ∈ Tc, x ∈ Ts) :
    th_Met l y wl rm (va_Pc av (kPreT D sz ws Ts)) (th_Qw E (fun t => va_P D vwCl ws' t.heap ∧ va_D (va_A ws sz) ws') (va_A ws sz)) mc ms (va_A ws sz) := by
  have hm : ∀ q ∈ wc, q ∈ ws := fun q hq => p0.mem_iff.mpr (List.mem_append_left _ hq)
  refine hM.conseq (fun a U h => ?_) (fun a st o t h hq => ?_) (va_A.mono hm)
  · obtain ⟨h0, h1, h2, h3, h4, h5⟩ := h
    exact ⟨h0, h1, h2.memb hm, h3.memb hT, (h4.perm p0.symm).lef, h5.mono (va_A.mono hm)⟩
  · obtain ⟨h0, h1, h2, h3, h4, -⟩ := h
    obtain ⟨hI, hB, hF⟩ := hq
    obtain ⟨b1, b2⟩ := hC t hB
    exact ⟨hI, va_lift h2 h1 h4 p0 p1 hF.2 b1 b2, hF.mono (va_A.mono hm)⟩
theorem va_setLast {α : Type} {ws : List α} {x y : α} : (ws ++ [x]).set ws.length y = ws ++ [y] := by
  rw [List.set_append_right _ _ (Nat.le_refl _), Nat.sub_self]
  rfl
theorem va_getLast {α : Type} {ws : List α} {x : α} : (ws ++ [x])[ws.length]? = some x := by
  rw [List.getElem?_append_right (Nat.le_refl _), Nat.sub_self]
  rfl
/-- arrays of one kind have one class -/
theorem va_K.one {D : va_G} {cl : List vw_C} {t : List (ClassId × FieldType)} {U : State} (h : va_K D cl t U) {c c' : ClassId} {ty : FieldType} (hr : refKind ty = false) (h1 : (c, ty) ∈ t) (h2 : (c', ty) ∈ t) : c = c' := by
  obtain ⟨i, hi⟩ := List.getElem?_of_mem h1
  obtain ⟨j, hj⟩ := List.getElem?_of_mem h2
  have a := (h.2 i _ hi).2
  have b := (h.2 j _ hj).2
  cases ty <;> first | (exact absurd hr (by decide)) | (exact Option.some.inj (a.symm.trans b)) | (simp [refKind] at hr)

-- 70.lift
-- own rows: contracts carried from a part of the world to the whole
theorem va_D.nd {A : Nat → Prop} {ws : va_W} (h : va_D A ws) : (ws.map (fun q => q.1)).Nodup := by
  refine List.pairwise_iff_getElem.mpr (fun i j hi hj hij he => ?_)
  rw [List.length_map] at hi hj
  simp only [List.getElem_map] at he
  exact absurd (h.1 i j _ _ (List.getElem?_eq_getElem hi) (List.getElem?_eq_getElem hj) he) (Nat.ne_of_lt hij)
theorem va_D.of {A : Nat → Prop} {ws : va_W} (hn : (ws.map (fun q => q.1)).Nodup) (ha : ∀ q ∈ ws, A q.1) : va_D A ws := by
  refine ⟨fun i j p q hi hj he => ?_, fun k q hk => ha q (List.mem_of_getElem? hk)⟩
  obtain ⟨li, ei⟩ := List.getElem?_eq_some_iff.mp hi
  obtain ⟨lj, ej⟩ := List.getElem?_eq_some_iff.mp hj
  have hp := List.pairwise_iff_getElem.mp hn
  rcases Nat.lt_trichotomy i j with h | h | h
  · have z := hp i j (by rw [List.length_map]; exact li) (by rw [List.length_map]; exact lj) h
    simp only [List.getElem_map] at z
    exact absurd (by rw [ei, ej]; exact he) z
  · exact h
  · have z := hp j i (by rw [List.length_map]; exact lj) (by rw [List.length_map]; exact li) h
    simp only [List.getElem_map] at z
    exact absurd (by rw [ei, ej]; exact he.symm) z
theorem va_D.inn {A : Nat → Prop} {ws : va_W} (h : va_D A ws) {q : Nat × va_E} (hq : q ∈ ws) : A q.1 := by
  obtain ⟨i, hi⟩ := List.getElem?_of_mem hq
  exact h.2 i q hi
theorem va_D.perm {A : Nat → Prop} {ws ws' : va_W} (h : va_D A ws) (hp : ws'.Perm ws) : va_D A ws' :=
  va_D.of ((hp.map (fun q => q.1)).nodup_iff.mpr h.nd) (fun q hq => h.inn (hp.mem_iff.mp hq))
theorem va_P.perm {D : va_G} {cl : List vw_C} {ws ws' : va_W} {H : Heap} (h : va_P D cl ws H) (hp : ws'.Perm ws) : va_P D cl ws' H := h.memb (fun _ hq => hp.mem_iff.mp hq)
theorem va_D.lef {A : Nat → Prop} {w1 w2 : va_W} (h : va_D A (w1 ++ w2)) : va_D A w1 :=
  va_D.of (List.Nodup.sublist (List.Sublist.map _ (List.sublist_append_left w1 w2)) h.nd) (fun _ hq => h.inn (List.mem_append_left _ hq))
theorem va_D.rig {A : Nat → Prop} {w1 w2 : va_W} (h : va_D A (w1 ++ w2)) : va_D A w2 :=
  va_D.of (List.Nodup.sublist (List.Sublist.map _ (List.sublist_append_right w1 w2)) h.nd) (fun _ hq => h.inn (List.mem_append_right _ hq))
theorem va_P.lef {D : va_G} {cl : List vw_C} {w1 w2 : va_W} {H : Heap} (h : va_P D cl (w1 ++ w2) H) : va_P D cl w1 H := h.memb (fun _ hq => List.mem_append_left _ hq)
theorem va_P.rig {D : va_G} {cl : List vw_C} {w1 w2 : va_W} {H : Heap} (h : va_P D cl (w1 ++ w2) H) : va_P D cl w2 H := h.memb (fun _ hq => List.mem_append_right _ hq)
theorem va_A.mono {wc ws : va_W} {sz : Nat} (hm : ∀ q ∈ wc, q ∈ ws) : ∀ q, va_A wc sz q → va_A ws sz q := fun q h => by
  rcases h with ⟨k, e, hk⟩ | h
  · obtain ⟨i, hi⟩ := List.getElem?_of_mem (hm _ (List.mem_of_getElem? hk))
    exact Or.inl ⟨i, e, hi⟩
  · exact Or.inr h
theorem va_K.memb {D : va_G} {cl : List vw_C} {t t' : List (ClassId × FieldType)} {U : State} (h : va_K D cl t U) (hm : ∀ x ∈ t', x ∈ t) : va_K D cl t' U := ⟨h.1, fun k q hk => by
  obtain ⟨i, hi⟩ := List.getElem?_of_mem (hm q (List.mem_of_getElem? hk))
  exact h.2 i q hi⟩
theorem va_lift {A0 : Nat → Prop} {D : va_G} {cl : List vw_C} {ws wc w1 rs ws' : va_W} {H H1 : Heap} {sz : Nat} (hP : va_P D cl ws H) (hsz : H.size = sz) (hD : va_D A0 ws) (p0 : ws.Perm (wc ++ rs)) (p1 : ws'.Perm (w1 ++ rs))
    (hk : ∀ q : Nat, q < H.size → ¬ va_A wc sz q → H1[q]? = H[q]?) (hP1 : va_P D cl w1 H1) (hD1 : va_D (va_A wc sz) w1) : va_P D cl ws' H1 ∧ va_D (va_A ws sz) ws' := by
  have hW := hP.perm p0.symm
  have hDW := hD.perm p0.symm
  have hrs : ∀ q ∈ rs, va_at D cl q H ∧ ¬ va_A wc sz q.1 := by
    intro q hq
    have h1 := hW.inn (List.mem_append_right wc hq)
    refine ⟨h1, fun h => ?_⟩
    rcases h with ⟨k, e, h⟩ | h
    · obtain ⟨j, hj⟩ := List.getElem?_of_mem hq
      have hl : k < wc.length := (List.getElem?_eq_some_iff.mp h).1
      have := hDW.1 k (wc.length + j) (q.1, e) q (by rw [List.getElem?_append_left hl]; exact h) (by rw [List.getElem?_append_right (Nat.le_add_right _ _), Nat.add_sub_cancel_left]; exact hj) rfl
      omega
    · have := h1.lt
      omega
  have hin : ∀ q, va_A wc sz q → va_A ws sz q := va_A.mono (fun q hq => p0.mem_iff.mpr (List.mem_append_left _ hq))
  have kP : va_P D cl (w1 ++ rs) H1 := hP1.app (fun k q hq => by
    have h1 := hrs q (List.mem_of_getElem? hq)
    exact h1.1.kept (hk _ h1.1.lt h1.2))
  have kD : va_D (va_A ws sz) (w1 ++ rs) := by
    refine va_D.app (hD1.weaken (fun _ _ _ h => hin _ h)) ?_ (fun i j p q hi hj he => ?_)
    · refine va_D.of hDW.rig.nd (fun q hq => ?_)
      obtain ⟨i, hi⟩ := List.getElem?_of_mem (p0.mem_iff.mpr (List.mem_append_right wc hq))
      exact Or.inl ⟨i, q.2, hi⟩
    · exact (hrs q (List.mem_of_getElem? hj)).2 (by rw [← he]; exact hD1.2 i p hi)
  exact ⟨kP.perm p1, kD.perm p1⟩
theorem Met.conseq {l : Launch} {y : MethodName} {ws : List Cond} {rm : Room} {Pc Pc' : Array Value → State → Prop} {Qc Qc' : Array Value → State → Outcome → State → Prop} {mc ms : Nat} {free free' : Addr → Prop} (hM : Met l y ws rm Pc Qc mc ms free) (hP : ∀ a U, Pc' a U → Pc a U) (hQ : ∀ a st o t, Pc' a st → Qc a st o t → Qc' a st o t) (hf : ∀ q, free q → free' q) : Met l y ws rm Pc' Qc' mc ms free' := by
  intro p e ha hc hk s m args below hfr happ hP0 _
  obtain ⟨n, o, h1, h2, h3, hQ0, L, hF, hL⟩ := hM p e ha hc hk s m args below hfr happ (hP _ _ hP0) trivial
  exact ⟨n, o, h1, h2, h3, hQ _ _ _ _ hP0 hQ0, L, hF, fun q hq => hf _ (hL q hq)⟩
theorem th_Met.conseq {l : Launch} {y : MethodName} {ws : List Cond} {rm : Room} {Pc Pc' : Array Value → State → Prop} {Qc Qc' : Array Value → State → Addr → State → Prop} {mc ms : Nat} {free free' : Addr → Prop} (hM : th_Met l y ws rm Pc Qc mc ms free) (hP : ∀ a U, Pc' a U → Pc a U) (hQ : ∀ a st o t, Pc' a st → Qc a st o t → Qc' a st o t) (hf : ∀ q, free q → free' q) : th_Met l y ws rm Pc' Qc' mc ms free' := by
  intro p e ha hc hk s m args below hfr happ hP0 _
  obtain ⟨n, o, h1, h2, h3, x, ho, hQ0, hW, L, hF, hL⟩ := hM p e ha hc hk s m args below hfr happ (hP _ _ hP0) trivial
  exact ⟨n, o, h1, h2, h3, x, ho, hQ _ _ _ _ hP0 hQ0, hW, L, hF, fun q hq => hf _ (hL q hq)⟩
theorem va_F.mono {A B : Nat → Prop} {st t : State} (h : va_F A st t) (hm : ∀ q, A q → B q) : va_F B st t := ⟨h.1, fun q hq hn => h.2 q hq (fun z => hn (hm q z))⟩
/-- the common beginning of a contract over a world -/
abbrev kPre (D : va_G) (sz : Nat) (ws : va_W) (tys : List (ClassId × FieldType)) (U : State) : Prop := U.heap.size = sz ∧ va_P D vwCl ws U.heap ∧ va_K D vwCl tys U ∧ va_D (fun _ => True) ws
abbrev kPreT (D : va_G) (sz : Nat) (ws : va_W) (tys : List (ClassId × FieldType)) (U : State) : Prop := U.heap.size = sz ∧ va_P D vwCl ws U.heap ∧ va_K D vwCl tys U ∧ va_D (fun _ => True) ws ∧ th_ZA (va_A ws sz) U
theorem Met.liftI {l : Launch} {y : MethodName} {wl : List Cond} {rm : Room} {mc ms : Nat} {av : List Value} {D : va_G} {sz : Nat} {wc ws rs : va_W} {Tc Ts : List (ClassId × FieldType)} {S : Type} {post : Int32 → S → Prop} {C : S → State → Prop} {B : S → va_W} (B' : S → va_W)
    (hM : Met l y wl rm (va_Pc av (kPre D sz wc Tc)) (va_Qi post C (va_A wc sz)) mc ms (va_A wc sz)) (hC : ∀ u t, C u t → va_P D vwCl (B u) t.heap ∧ va_D (va_A wc sz) (B u)) (p0 : ws.Perm (wc ++ rs)) (p1 : ∀ u, (B' u).Perm (B u ++ rs)) (hT : ∀ x ∈ Tc, x ∈ Ts) :
    Met l y wl rm (va_Pc av (kPre D sz ws Ts)) (va_Qi post (fun u t => va_P D vwCl (B' u) t.heap ∧ va_D (va_A ws sz) (B' u)) (va_A ws sz)) mc ms (va_A ws sz) := by
  have hm : ∀ q ∈ wc, q ∈ ws := fun q hq => p0.mem_iff.mpr (List.mem_append_left _ hq)
  refine hM.conseq (fun a U h => ?_) (fun a st o t h hq => ?_) (va_A.mono hm)
  · obtain ⟨h0, h1, h2, h3, h4⟩ := h
    exact ⟨h0, h1, h2.memb hm, h3.memb hT, (h4.perm p0.symm).lef⟩
  · obtain ⟨h0, h1, h2, h3, h4⟩ := h
    obtain ⟨⟨r, u, ho, hr, hB⟩, hF⟩ := hq
    obtain ⟨b1, b2⟩ := hC u t hB
    exact ⟨⟨r, u, ho, hr, va_lift h2 h1 h4 p0 (p1 u) hF.2 b1 b2⟩, hF.mono (va_A.mono hm)⟩
theorem Met.liftV {l : Launch} {y : MethodName} {wl : List Cond} {rm : Room} {mc ms : Nat} {av : List Value} {D : va_G} {sz : Nat} {wc ws rs : va_W} {Tc Ts : List (ClassId × FieldType)} {S : Type} {post : S → Prop} {C : S → State → Prop} {B : S → va_W} (B' : S → va_W)
    (hM : Met l y wl rm (va_Pc av (kPre D sz wc Tc)) (va_Qv post C (va_A wc sz)) mc ms (va_A wc sz)) (hC : ∀ u t, C u t → va_P D vwCl (B u) t.heap ∧ va_D (va_A wc sz) (B u)) (p0 : ws.Perm (wc ++ rs)) (p1 : ∀ u, (B' u).Perm (B u ++ rs)) (hT : ∀ x ∈ Tc, x ∈ Ts) :
    Met l y wl rm (va_Pc av (kPre D sz ws Ts)) (va_Qv post (fun u t => va_P D vwCl (B' u) t.heap ∧ va_D (va_A ws sz) (B' u)) (va_A ws sz)) mc ms (va_A ws sz) := by
  have hm : ∀ q ∈ wc, q ∈ ws := fun q hq => p0.mem_iff.mpr (List.mem_append_left _ hq)
  refine hM.conseq (fun a U h => ?_) (fun a st o t h hq => ?_) (va_A.mono hm)
  · obtain ⟨h0, h1, h2, h3, h4⟩ := h
    exact ⟨h0, h1, h2.memb hm, h3.memb hT, (h4.perm p0.symm).lef⟩
  · obtain ⟨h0, h1, h2, h3, h4⟩ := h
    obtain ⟨⟨u, ho, hr, hB⟩, hF⟩ := hq
    obtain ⟨b1, b2⟩ := hC u t hB
    exact ⟨⟨u, ho, hr, va_lift h2 h1 h4 p0 (p1 u) hF.2 b1 b2⟩, hF.mono (va_A.mono hm)⟩
theorem th_ZA.mono {A A' : Nat → Prop} {s : State} (h : th_ZA A s) (hA : ∀ q, A' q → A q) : th_ZA A' s := ⟨h.1.narrow hA, h.2.1.narrow hA, h.2.2⟩
theorem th_Met.lift {l : Launch} {y : MethodName} {wl : List Cond} {rm : Room} {mc ms : Nat} {av : List Value} {D : va_G} {sz : Nat} {wc ws rs w1 ws' : va_W} {Tc Ts : List (ClassId × FieldType)} {E : String} {C : State → Prop}
    (hM : th_Met l y wl rm (va_Pc av (kPreT D sz wc Tc)) (th_Qw E C (va_A wc sz)) mc ms (va_A wc sz)) (hC : ∀ t, C t → va_P D vwCl w1 t.heap ∧ va_D (va_A wc sz) w1) (p0 : ws.Perm (wc ++ rs)) (p1 : ws'.Perm (w1 ++ rs)) (hT : ∀ x ∈ Tc, x ∈ Ts) :
    th_Met l y wl rm (va_Pc av (kPreT D sz ws Ts)) (th_Qw E (fun t => va_P D vwCl ws' t.heap ∧ va_D (va_A ws sz) ws') (va_A ws sz)) mc ms (va_A ws sz) := by
  have hm : ∀ q ∈ wc, q ∈ ws := fun q hq => p0.mem_iff.mpr (List.mem_append_left _ hq)
  refine hM.conseq (fun a U h => ?_) (fun a st o t h hq => ?_) (va_A.mono hm)
  · obtain ⟨h0, h1, h2, h3, h4, h5⟩ := h
    exact ⟨h0, h1, h2.memb hm, h3.memb hT, (h4.perm p0.symm).lef, h5.mono (va_A.mono hm)⟩
  · obtain ⟨h0, h1, h2, h3, h4, -⟩ := h
    obtain ⟨hI, hB, hF⟩ := hq
    obtain ⟨b1, b2⟩ := hC t hB
    exact ⟨hI, va_lift h2 h1 h4 p0 p1 hF.2 b1 b2, hF.mono (va_A.mono hm)⟩
theorem va_setLast {α : Type} {ws : List α} {x y : α} : (ws ++ [x]).set ws.length y = ws ++ [y] := by
  rw [List.set_append_right _ _ (Nat.le_refl _), Nat.sub_self]
  rfl
theorem va_getLast {α : Type} {ws : List α} {x : α} : (ws ++ [x])[ws.length]? = some x := by
  rw [List.getElem?_append_right (Nat.le_refl _), Nat.sub_self]
  rfl
/-- arrays of one kind have one class -/
theorem va_K.one {D : va_G} {cl : List vw_C} {t : List (ClassId × FieldType)} {U : State} (h : va_K D cl t U) {c c' : ClassId} {ty : FieldType} (hr : refKind ty = false) (h1 : (c, ty) ∈ t) (h2 : (c', ty) ∈ t) : c = c' := by
  obtain ⟨i, hi⟩ := List.getElem?_of_mem h1
  obtain ⟨j, hj⟩ := List.getElem?_of_mem h2
  have a := (h.2 i _ hi).2
  have b := (h.2 j _ hj).2
  cases ty <;> first | (exact absurd hr (by decide)) | (exact Option.some.inj (a.symm.trans b)) | (simp [refKind] at hr)
-- 71.kw
-- own rows: the whole of the class in one world
/-- what stays through a run: classes and addresses -/
abbrev FX : Type := (Nat → ClassId) × (Nat → Nat → Nat) × (Nat) × (Nat → Nat) × (Nat → Nat) × (ClassId) × (ClassId) × (ClassId) × (ClassId) × (ClassId) × (Nat) × (Nat → Nat) × (Nat)
def FX.dC (r_ : FX) : Nat → ClassId := r_.1
def FX.dI (r_ : FX) : Nat → Nat → Nat := r_.2.1
def FX.h (r_ : FX) : Nat := r_.2.2.1
def FX.q (r_ : FX) : Nat → Nat := r_.2.2.2.1
def FX.qj (r_ : FX) : Nat → Nat := r_.2.2.2.2.1
def FX.gc (r_ : FX) : ClassId := r_.2.2.2.2.2.1
def FX.gi (r_ : FX) : ClassId := r_.2.2.2.2.2.2.1
def FX.gl (r_ : FX) : ClassId := r_.2.2.2.2.2.2.2.1
def FX.gs (r_ : FX) : ClassId := r_.2.2.2.2.2.2.2.2.1
def FX.gz (r_ : FX) : ClassId := r_.2.2.2.2.2.2.2.2.2.1
def FX.hM (r_ : FX) : Nat := r_.2.2.2.2.2.2.2.2.2.2.1
def FX.qM (r_ : FX) : Nat → Nat := r_.2.2.2.2.2.2.2.2.2.2.2.1
def FX.ob (r_ : FX) : Nat := r_.2.2.2.2.2.2.2.2.2.2.2.2
abbrev FX.mk (dC_ : Nat → ClassId) (dI_ : Nat → Nat → Nat) (h_ : Nat) (q_ : Nat → Nat) (qj_ : Nat → Nat) (gc_ : ClassId) (gi_ : ClassId) (gl_ : ClassId) (gs_ : ClassId) (gz_ : ClassId) (hM_ : Nat) (qM_ : Nat → Nat) (ob_ : Nat) : FX := (dC_, dI_, h_, q_, qj_, gc_, gi_, gl_, gs_, gz_, hM_, qM_, ob_)
/-- what the class holds besides the editor -/
abbrev CK : Type := (Nat) × (Nat → Nat) × (Nat) × (Nat → Nat) × (Value) × (Nat → Nat) × (Nat → Nat) × (MI) × (MA) × (MI) × (MA) × (ML) × (MI) × (MA) × (MI) × (MA) × (ML)
def CK.hp (r_ : CK) : Nat := r_.1
def CK.qp (r_ : CK) : Nat → Nat := r_.2.1
def CK.hm (r_ : CK) : Nat := r_.2.2.1
def CK.qm (r_ : CK) : Nat → Nat := r_.2.2.2.1
def CK.sf (r_ : CK) : Value := r_.2.2.2.2.1
def CK.sa (r_ : CK) : Nat → Nat := r_.2.2.2.2.2.1
def CK.ta (r_ : CK) : Nat → Nat := r_.2.2.2.2.2.2.1
def CK.I (r_ : CK) : MI := r_.2.2.2.2.2.2.2.1
def CK.A (r_ : CK) : MA := r_.2.2.2.2.2.2.2.2.1
def CK.M (r_ : CK) : MI := r_.2.2.2.2.2.2.2.2.2.1
def CK.MB (r_ : CK) : MA := r_.2.2.2.2.2.2.2.2.2.2.1
def CK.L (r_ : CK) : ML := r_.2.2.2.2.2.2.2.2.2.2.2.1
def CK.RI (r_ : CK) : MI := r_.2.2.2.2.2.2.2.2.2.2.2.2.1
def CK.RA (r_ : CK) : MA := r_.2.2.2.2.2.2.2.2.2.2.2.2.2.1
def CK.N (r_ : CK) : MI := r_.2.2.2.2.2.2.2.2.2.2.2.2.2.2.1
def CK.NB (r_ : CK) : MA := r_.2.2.2.2.2.2.2.2.2.2.2.2.2.2.2.1
def CK.NL (r_ : CK) : ML := r_.2.2.2.2.2.2.2.2.2.2.2.2.2.2.2.2
abbrev CK.mk (hp_ : Nat) (qp_ : Nat → Nat) (hm_ : Nat) (qm_ : Nat → Nat) (sf_ : Value) (sa_ : Nat → Nat) (ta_ : Nat → Nat) (I_ : MI) (A_ : MA) (M_ : MI) (MB_ : MA) (L_ : ML) (RI_ : MI) (RA_ : MA) (N_ : MI) (NB_ : MA) (NL_ : ML) : CK := (hp_, qp_, hm_, qm_, sf_, sa_, ta_, I_, A_, M_, MB_, L_, RI_, RA_, N_, NB_, NL_)
def CK.dw (k : CK) (I' : MI) (A' : MA) (M' : MI) (MB' : MA) (L' : ML) : CK := CK.mk k.hp k.qp k.hm k.qm k.sf k.sa k.ta I' A' M' MB' L' k.RI k.RA k.N k.NB k.NL
def CK.tw (k : CK) (I' : MI) : CK := CK.mk k.hp k.qp k.hm k.qm k.sf k.sa k.ta I' k.A k.M k.MB k.L k.RI k.RA k.N k.NB k.NL
def CK.nw (k : CK) (sa' : Nat → Nat) (ta' : Nat → Nat) (I' : MI) : CK := CK.mk k.hp k.qp k.hm k.qm k.sf sa' ta' I' k.A k.M k.MB k.L k.RI k.RA k.N k.NB k.NL
def CK.rd (k : CK) (sf' : Value) (I' : MI) (A' : MA) (M' : MI) (MB' : MA) (L' : ML) (RI' : MI) (RA' : MA) (N' : MI) (NB' : MA) (NL' : ML) : CK := CK.mk k.hp k.qp k.hm k.qm sf' k.sa k.ta I' A' M' MB' L' RI' RA' N' NB' NL'
/-- the pattern and what the reader makes change places -/
def CK.sw (k : CK) : CK := CK.mk k.hm k.qm k.hp k.qp k.sf k.sa k.ta k.I k.A k.N k.NB k.NL k.RI k.RA k.M k.MB k.L
abbrev FX.D (x : FX) : va_G := (x.dC, x.dI)
def FX.gD (x : FX) : Nat → ClassId
  | 0 => x.gc
  | 2 => x.gs
  | _ => x.gi
def FX.gA (x : FX) : Nat → ClassId
  | 0 => x.gi
  | 1 => x.gi
  | 2 => x.gi
  | _ => x.gl
def FX.gR (x : FX) : Nat → ClassId := fun _ => x.gi
def FX.gM (x : FX) : Nat → ClassId
  | 2 => x.gc
  | 5 => x.gc
  | 16 => x.gc
  | 37 => x.gc
  | 32 => x.gz
  | 33 => x.gz
  | _ => x.gi
abbrev kD0 (x : FX) (k : CK) (e : ES) : Nat × va_E := (x.h, .inr (0, [.ref (x.q 0), .int (k.I 1), .ref (x.q 2), .int (k.I 3), .int (k.I 4), .ref (k.ta e.p), .int (k.I 6), .int (k.I 7), .ref (x.q 8), .ref k.hp, .int (k.I 10), .int (k.I 11), .ref (x.q 12), .ref (x.q 13)]))
abbrev kY9 (x : FX) (k : CK) : va_W := [(x.q 0, .inl (x.gD 0, 24, .inl (k.A 0))), (x.q 12, .inl (x.gD 12, 160, .inl (k.A 12))), (x.q 13, .inl (x.gD 13, 160, .inl (k.A 13))), (k.hp, .inr (3, [.ref (k.qp 0), .ref (k.qp 1), .ref (k.qp 2), .ref (k.qp 3), .ref (k.qp 4), .int (k.M 5), .int (k.M 6), .int (k.M 7), .int (k.M 8), .int (k.M 9)])), (k.qp 0, .inl (x.gA 0, 50, .inl (k.MB 0))), (k.qp 1, .inl (x.gA 1, 50, .inl (k.MB 1))), (k.qp 2, .inl (x.gA 2, 50, .inl (k.MB 2))), (k.qp 3, .inl (x.gA 3, 50, .inr (.inl (k.L 3)))), (k.qp 4, .inl (x.gA 4, 50, .inr (.inl (k.L 4))))]
abbrev kYr (x : FX) (k : CK) : va_W := [(x.q 8, .inr (2, [.ref (x.qj 0), .ref (x.qj 1), .ref (x.qj 2), .ref (x.qj 3), .ref k.hm, k.sf, .int (k.RI 6), .int (k.RI 7), .int (k.RI 8), .int (k.RI 9), .int (k.RI 10), .int (k.RI 11), .int (k.RI 12)])), (x.qj 0, .inl (x.gR 0, 9, .inl (k.RA 0))), (x.qj 1, .inl (x.gR 1, 9, .inl (k.RA 1))), (x.qj 2, .inl (x.gR 2, 9, .inl (k.RA 2))), (x.qj 3, .inl (x.gR 3, 9, .inl (k.RA 3)))]
abbrev kYm (x : FX) (k : CK) : va_W := [(k.hm, .inr (3, [.ref (k.qm 0), .ref (k.qm 1), .ref (k.qm 2), .ref (k.qm 3), .ref (k.qm 4), .int (k.N 5), .int (k.N 6), .int (k.N 7), .int (k.N 8), .int (k.N 9)])), (k.qm 0, .inl (x.gA 0, 50, .inl (k.NB 0))), (k.qm 1, .inl (x.gA 1, 50, .inl (k.NB 1))), (k.qm 2, .inl (x.gA 2, 50, .inl (k.NB 2))), (k.qm 3, .inl (x.gA 3, 50, .inr (.inl (k.NL 3)))), (k.qm 4, .inl (x.gA 4, 50, .inr (.inl (k.NL 4))))]
abbrev kZ (x : FX) (k : CK) (e : ES) : Nat × va_E := (x.q 2, .inl (x.gD 2, 40, .inr (.inr (.inr (.inr (tw_f e.n k.sa))))))
def kO (e : ES) : Nat → Int32 := fun i => mkI (e.pa i)
def kL (e : ES) : Nat → Int32 := fun i => Int32.ofNat (e.pl i)
def kC (e : ES) : Nat → Int32 := fun i => mkI (e.lc i)
abbrev kS (k : CK) (e : ES) : va_W := (List.range e.n).map (tw_S k.sa k.ta (kO e) (kL e) (kC e))
abbrev kE (x : FX) (k : CK) (e : ES) : va_W := (List.range e.n).map (tw_E k.ta x.gc e.tn e.tx)
abbrev kF (x : FX) (k : CK) (e : ES) : va_W := ((List.range e.n).erase e.p).map (tw_E k.ta x.gc e.tn e.tx)
abbrev KW (x : FX) (k : CK) (e : ES) : va_W := kD0 x k e :: (kY9 x k ++ (kYr x k ++ (kYm x k ++ (kZ x k e :: (kS k e ++ kE x k e)))))
abbrev kT (x : FX) : List (ClassId × FieldType) := [(x.gc, .char), (x.gi, .int), (x.gl, .long), (x.gs, .object "DraftTree$State"), (x.gz, .boolean)]
theorem perm_pull {α : Type} {Y S E E' : List α} {z a : α} (h : E.Perm (a :: E')) : (Y ++ (z :: (S ++ E))).Perm (a :: (Y ++ (z :: (S ++ E')))) := by
  have h1 : (S ++ E).Perm (a :: (S ++ E')) := (h.append_left S).trans List.perm_middle
  have h2 : (z :: (S ++ E)).Perm (a :: (z :: (S ++ E'))) := (h1.cons z).trans (List.Perm.swap a z _)
  exact (h2.append_left Y).trans List.perm_middle
theorem kE_pull (x : FX) (k : CK) {e : ES} (hp : e.p < e.n) : (kE x k e).Perm (tw_E k.ta x.gc e.tn e.tx e.p :: kF x k e) := (List.perm_cons_erase (List.mem_range.mpr hp)).map _
abbrev kdw (x : FX) (k : CK) (e : ES) : va_W := dw_W x.h x.q x.gD k.hp k.qp x.gA (k.ta e.p) x.gc (e.tn e.p) (e.tx e.p) k.I k.A k.M k.MB k.L
abbrev kdwR (x : FX) (k : CK) (e : ES) : va_W := kYr x k ++ (kYm x k ++ (kZ x k e :: (kS k e ++ kF x k e)))
theorem perm_dw (x : FX) (k : CK) {e : ES} (hp : e.p < e.n) : (KW x k e).Perm (kdw x k e ++ kdwR x k e) := by
  have h := perm_pull (Y := kYr x k ++ kYm x k) (S := kS k e) (z := kZ x k e) (kE_pull x k hp)
  rw [List.append_assoc, List.append_assoc] at h
  exact (h.append_left (kY9 x k)).cons (kD0 x k e)
abbrev kdc (x : FX) (k : CK) (e : ES) : va_W := dc_W x.h x.q x.gD k.hp k.qp x.gA (k.ta e.p) x.gc (e.tn e.p) (e.tx e.p) (x.q 8) x.qj x.gR k.hm k.qm x.gA k.hp k.hm k.sf k.I k.A k.M k.MB k.L k.RI k.RA k.N k.NB k.NL
abbrev kdcR (x : FX) (k : CK) (e : ES) : va_W := kZ x k e :: (kS k e ++ kF x k e)
theorem perm_dc (x : FX) (k : CK) {e : ES} (hp : e.p < e.n) : (KW x k e).Perm (kdc x k e ++ kdcR x k e) := by
  have h := perm_pull (Y := kYr x k ++ kYm x k) (S := kS k e) (z := kZ x k e) (kE_pull x k hp)
  rw [List.append_assoc, List.append_assoc] at h
  exact (h.append_left (kY9 x k)).cons (kD0 x k e)
/-- the same cells with the pattern's and the made block in each other's place -/
abbrev kdc2 (x : FX) (k : CK) (e : ES) : va_W := dc_W x.h x.q x.gD k.hm k.qm x.gA (k.ta e.p) x.gc (e.tn e.p) (e.tx e.p) (x.q 8) x.qj x.gR k.hp k.qp x.gA k.hp k.hm k.sf k.I k.A k.N k.NB k.NL k.RI k.RA k.M k.MB k.L
theorem perm_dc2 (x : FX) (k : CK) {e : ES} (hp : e.p < e.n) : (KW x k e).Perm (kdc2 x k e ++ kdcR x k e) := by
  refine (perm_dc x k hp).trans (List.Perm.append_right _ ?_)
  have a : kdc x k e = kD0 x k e :: ([(x.q 0, .inl (x.gD 0, 24, .inl (k.A 0))), (x.q 12, .inl (x.gD 12, 160, .inl (k.A 12))), (x.q 13, .inl (x.gD 13, 160, .inl (k.A 13)))] ++ ((kY9 x k).drop 3 ++ ((tw_E k.ta x.gc e.tn e.tx e.p :: kYr x k) ++ kYm x k))) := rfl
  have b : kdc2 x k e = kD0 x k e :: ([(x.q 0, .inl (x.gD 0, 24, .inl (k.A 0))), (x.q 12, .inl (x.gD 12, 160, .inl (k.A 12))), (x.q 13, .inl (x.gD 13, 160, .inl (k.A 13)))] ++ (kYm x k ++ ((tw_E k.ta x.gc e.tn e.tx e.p :: kYr x k) ++ (kY9 x k).drop 3))) := rfl
  rw [a, b]
  refine List.Perm.cons _ (List.Perm.append_left _ ?_)
  have c := List.perm_append_comm (l₁ := (kY9 x k).drop 3) (l₂ := (tw_E k.ta x.gc e.tn e.tx e.p :: kYr x k) ++ kYm x k)
  refine c.trans ?_
  have d := (List.perm_append_comm (l₁ := tw_E k.ta x.gc e.tn e.tx e.p :: kYr x k) (l₂ := kYm x k)).append_right ((kY9 x k).drop 3)
  refine d.trans ?_
  rw [List.append_assoc]
abbrev ktw (x : FX) (k : CK) (e : ES) : va_W := tw_W x.h x.q x.gD (x.q 8) k.hp x.gc k.sa k.ta e.n (kO e) e.tn e.tx k.I e.p (kL e) (kC e)
abbrev ktwR (x : FX) (k : CK) : va_W := kY9 x k ++ (kYr x k ++ kYm x k)
theorem perm_tw (x : FX) (k : CK) (e : ES) : (KW x k e).Perm (ktw x k e ++ ktwR x k) := by
  have h := List.perm_append_comm (l₁ := ktwR x k) (l₂ := kZ x k e :: (kS k e ++ kE x k e))
  rw [List.append_assoc, List.append_assoc] at h
  exact h.cons (kD0 x k e)
/-- the trees of two editors are one -/
abbrev SameT (e' e : ES) : Prop := (e'.n = e.n) ∧ (e'.p = e.p) ∧ (e'.tn = e.tn) ∧ (e'.tx = e.tx) ∧ (e'.pl = e.pl) ∧ (e'.pa = e.pa) ∧ (e'.lc = e.lc)
theorem SameT.hn {e' e : ES} (h_ : SameT e' e) : e'.n = e.n := h_.1
theorem SameT.hp {e' e : ES} (h_ : SameT e' e) : e'.p = e.p := h_.2.1
theorem SameT.htn {e' e : ES} (h_ : SameT e' e) : e'.tn = e.tn := h_.2.2.1
theorem SameT.htx {e' e : ES} (h_ : SameT e' e) : e'.tx = e.tx := h_.2.2.2.1
theorem SameT.hpl {e' e : ES} (h_ : SameT e' e) : e'.pl = e.pl := h_.2.2.2.2.1
theorem SameT.hpa {e' e : ES} (h_ : SameT e' e) : e'.pa = e.pa := h_.2.2.2.2.2.1
theorem SameT.hlc {e' e : ES} (h_ : SameT e' e) : e'.lc = e.lc := h_.2.2.2.2.2.2
theorem KW_same (x : FX) (k : CK) {e' e : ES} (h : SameT e' e) : KW x k e' = KW x k e := by
  show kD0 x k e' :: (kY9 x k ++ (kYr x k ++ (kYm x k ++ (kZ x k e' :: (kS k e' ++ kE x k e'))))) = _
  unfold kD0 kZ kS kE kO kL kC
  rw [h.hn, h.hp, h.htn, h.htx, h.hpl, h.hpa, h.hlc]
  rfl
theorem tin_dw (x : FX) (k : CK) (e : ES) : ∀ t ∈ dw_T x.h x.q x.gD k.hp k.qp x.gA (k.ta e.p) x.gc (e.tn e.p) (e.tx e.p), t ∈ kT x := by
  show ∀ t ∈ [(x.gc, .char), (x.gi, .int), (x.gi, .int), (x.gi, .int), (x.gi, .int), (x.gi, .int), (x.gl, .long), (x.gl, .long), (x.gc, .char)], t ∈ kT x
  intro t ht
  simp only [List.mem_cons, List.not_mem_nil, or_false] at ht ⊢
  rcases ht with h | h | h | h | h | h | h | h | h <;> simp [h]
theorem tin_dc (x : FX) (k : CK) (e : ES) : ∀ t ∈ dc_T x.h x.q x.gD k.hp k.qp x.gA (k.ta e.p) x.gc (e.tn e.p) (e.tx e.p) (x.q 8) x.qj x.gR k.hm k.qm x.gA k.hp k.hm k.sf, t ∈ kT x := by
  show ∀ t ∈ [(x.gc, .char), (x.gi, .int), (x.gi, .int), (x.gi, .int), (x.gi, .int), (x.gi, .int), (x.gl, .long), (x.gl, .long), (x.gc, .char), (x.gi, .int), (x.gi, .int), (x.gi, .int), (x.gi, .int), (x.gi, .int), (x.gi, .int), (x.gi, .int), (x.gl, .long), (x.gl, .long)], t ∈ kT x
  intro t ht
  simp only [List.mem_cons, List.not_mem_nil, or_false] at ht ⊢
  rcases ht with h | h | h | h | h | h | h | h | h | h | h | h | h | h | h | h | h | h <;> simp [h]
theorem tin_tw (x : FX) (k : CK) (e : ES) : ∀ t ∈ tw_T x.h x.q x.gD (x.q 8) k.hp x.gc k.sa k.ta e.n (kO e) e.tn e.tx, t ∈ kT x := by
  show ∀ t ∈ [(x.gs, .object "DraftTree$State"), (x.gc, .char)], t ∈ kT x
  intro t ht
  simp only [List.mem_cons, List.not_mem_nil, or_false] at ht ⊢
  rcases ht with h | h <;> simp [h]
-- 72.cop
-- own rows: the class's methods against the editor
abbrev CRel (e : ES) (k : CK) : Prop := (k.I 1 = Int32.ofNat e.sn) ∧ (∀ j, j < e.sn → k.A 0 j = Int32.ofNat (e.sc j)) ∧ (k.I 3 = Int32.ofNat e.n) ∧ (k.I 4 = Int32.ofNat e.p) ∧ (k.I 6 = Int32.ofNat e.c) ∧ (k.I 7 = mkI e.mr) ∧ (k.I 10 = g_flag e.has) ∧ (k.I 11 = mkI e.fl) ∧ (e.has = true → ∀ tn tx, Txt tn tx → CMean tn tx k.M k.MB k.L (e.pat tn tx))
theorem CRel.s1 {e : ES} {k : CK} (h_ : CRel e k) : k.I 1 = Int32.ofNat e.sn := h_.1
theorem CRel.s2 {e : ES} {k : CK} (h_ : CRel e k) : ∀ j, j < e.sn → k.A 0 j = Int32.ofNat (e.sc j) := h_.2.1
theorem CRel.hn {e : ES} {k : CK} (h_ : CRel e k) : k.I 3 = Int32.ofNat e.n := h_.2.2.1
theorem CRel.hp {e : ES} {k : CK} (h_ : CRel e k) : k.I 4 = Int32.ofNat e.p := h_.2.2.2.1
theorem CRel.hc {e : ES} {k : CK} (h_ : CRel e k) : k.I 6 = Int32.ofNat e.c := h_.2.2.2.2.1
theorem CRel.hm {e : ES} {k : CK} (h_ : CRel e k) : k.I 7 = mkI e.mr := h_.2.2.2.2.2.1
theorem CRel.hh {e : ES} {k : CK} (h_ : CRel e k) : k.I 10 = g_flag e.has := h_.2.2.2.2.2.2.1
theorem CRel.hf {e : ES} {k : CK} (h_ : CRel e k) : k.I 11 = mkI e.fl := h_.2.2.2.2.2.2.2.1
theorem CRel.pm {e : ES} {k : CK} (h_ : CRel e k) : e.has = true → ∀ tn tx, Txt tn tx → CMean tn tx k.M k.MB k.L (e.pat tn tx) := h_.2.2.2.2.2.2.2.2
/-- the slip's length has changed -/
theorem CRel.i1 {e e' : ES} {k : CK} (h : CRel e k) {v : Int32} {A' : MA} (hs : v = Int32.ofNat e'.sn) (h2 : ∀ j, j < e'.sn → A' 0 j = Int32.ofNat (e'.sc j)) (q3 : e'.n = e.n) (q4 : e'.p = e.p) (q5 : e'.c = e.c) (q6 : e'.mr = e.mr) (q7 : e'.has = e.has) (q8 : e'.fl = e.fl) (q9 : e'.pat = e.pat) : CRel e' (k.dw (upd k.I 1 v) A' k.M k.MB k.L) := by
  refine ⟨?_, h2, ?_, ?_, ?_, ?_, ?_, ?_, ?_⟩
  · show upd k.I 1 v 1 = _; rw [upd_self]; exact hs
  · show upd k.I 1 v 3 = _; rw [upd_ne _ _ (by decide), q3]; exact h.hn
  · show upd k.I 1 v 4 = _; rw [upd_ne _ _ (by decide), q4]; exact h.hp
  · show upd k.I 1 v 6 = _; rw [upd_ne _ _ (by decide), q5]; exact h.hc
  · show upd k.I 1 v 7 = _; rw [upd_ne _ _ (by decide), q6]; exact h.hm
  · show upd k.I 1 v 10 = _; rw [upd_ne _ _ (by decide), q7]; exact h.hh
  · show upd k.I 1 v 11 = _; rw [upd_ne _ _ (by decide), q8]; exact h.hf
  · intro hh tn tx hT
    rw [q7] at hh
    rw [q9]
    exact h.pm hh tn tx hT
theorem CRel.cm {e : ES} {k : CK} (h : CRel e k) {c' : Nat} {m' : Option Nat} {I' : MI} {A' : MA} {M' : MI} (i6 : I' 6 = Int32.ofNat c') (i7 : I' 7 = mkI m') (hi : ∀ j, j ≠ 6 → j ≠ 7 → I' j = k.I j) (hA : A' 0 = k.A 0) (hM : ∀ tn tx R, CMean tn tx k.M k.MB k.L R → CMean tn tx M' k.MB k.L R) : CRel (ES.mk e.sn e.sc e.n e.p (c') (m') e.tn e.tx e.pl e.pa e.lc e.has e.pat e.fl) (k.dw I' A' M' k.MB k.L) := by
  refine ⟨?_, ?_, ?_, ?_, i6, i7, ?_, ?_, ?_⟩
  · show I' 1 = _; rw [hi 1 (by decide) (by decide)]; exact h.s1
  · intro j hj
    show A' 0 j = _
    rw [hA]; exact h.s2 j hj
  · show I' 3 = _; rw [hi 3 (by decide) (by decide)]; exact h.hn
  · show I' 4 = _; rw [hi 4 (by decide) (by decide)]; exact h.hp
  · show I' 10 = _; rw [hi 10 (by decide) (by decide)]; exact h.hh
  · show I' 11 = _; rw [hi 11 (by decide) (by decide)]; exact h.hf
  · exact fun hh tn tx hT => hM _ _ _ (h.pm hh tn tx hT)
theorem CRel.self {e : ES} {k : CK} (h : CRel e k) : CRel e (k.dw k.I k.A k.M k.MB k.L) := h
theorem C_wipe {e : ES} {k : CK} (h : CRel e k) (tn : Nat) (tx : Nat → Int32) : f_D_wipe tn tx k.I k.A k.M k.MB k.L = some (Int32.ofNat e.sn, upd k.I 1 0, k.A, k.M, k.MB, k.L) ∧ CRel (e_sn e 0) (k.dw (upd k.I 1 0) k.A k.M k.MB k.L) := by
  refine ⟨?_, h.i1 rfl (fun j hj => absurd hj (Nat.not_lt_zero _)) rfl rfl rfl rfl rfl rfl rfl⟩
  unfold f_D_wipe
  simp only [wk_let]
  rw [h.s1]
theorem C_type_y {tn : Nat} {tx : Nat → Int32} {I : MI} {A : MA} {M : MI} {MB : MA} {L : ML} {c : Int32} (h : okCh c = true) : f_D_type tn tx I A M MB L c = f_D_type_23 tn tx I A M MB L (upd (fun _ => 0) 1 c) (fun _ => 0) 1 := by
  unfold okCh at h
  rw [Bool.or_eq_true, Bool.and_eq_true] at h
  unfold f_D_type f_D_type_18
  by_cases a : c = 10
  · rw [if_pos a]
  · rw [if_neg a]
    rcases h with h | ⟨h1, h2⟩
    · exact absurd (of_decide_eq_true h) a
    · rw [if_neg (show ¬ c < 32 by simpa using h1), if_neg (show ¬ 126 < c by simpa using h2)]
theorem C_type_n {tn : Nat} {tx : Nat → Int32} {I : MI} {A : MA} {M : MI} {MB : MA} {L : ML} {c : Int32} (h : ¬ okCh c = true) : f_D_type tn tx I A M MB L c = f_D_type_23 tn tx I A M MB L (upd (fun _ => 0) 1 c) (fun _ => 0) 0 := by
  unfold okCh at h
  rw [Bool.or_eq_true, Bool.and_eq_true] at h
  unfold f_D_type f_D_type_22
  have a : ¬ c = 10 := fun z => h (Or.inl (decide_eq_true z))
  rw [if_neg a]
  by_cases b : c < 32
  · rw [if_pos b]
  · rw [if_neg b]
    by_cases d : 126 < c
    · rw [if_pos d]
    · exact absurd (Or.inr ⟨by simpa using b, by simpa using d⟩) h
theorem C_type {e : ES} {k : CK} (h : CRel e k) (w : EWf e) (tn : Nat) (tx : Nat → Int32) (c : Int32) : ∃ I' A', f_D_type tn tx k.I k.A k.M k.MB k.L c = some (g_flag (decide (okCh c = true ∧ e.sn ≠ 24)), I', A', k.M, k.MB, k.L) ∧ CRel (e_typ e c) (k.dw I' A' k.M k.MB k.L) := by
  have hsb := w.sb
  have h10 : ¬ (1 : Int32) = 0 := by decide
  unfold e_typ
  by_cases q : okCh c = true
  · rw [C_type_y q]
    unfold f_D_type_23 f_D_type_37
    rw [if_neg h10, h.s1]
    by_cases q2 : e.sn = 24
    · rw [if_pos ((pn_eqc (x := 24) 24 rfl (by clear h w; omega) (by omega)).mpr q2), if_neg (fun z => z.2 q2), decide_eq_false (fun z => z.2 q2)]
      exact ⟨k.I, k.A, rfl, h⟩
    · obtain ⟨ec, hc⟩ := okCh_lt q
      have en : vp_nar .char (upd (fun _ => (0 : Int32)) 1 c 1) = Int32.ofNat c.toNatClampNeg := by
        have := nar_ch hc
        rw [upd_self]
        rw [ec] at this ⊢; exact this
      rw [if_neg (fun z => q2 ((pn_eqc (x := 24) 24 rfl (by clear h w; omega) (by omega)).mp z)), if_pos (pn_i24 (show e.sn < 24 by clear h w; omega)), if_pos ⟨q, q2⟩, decide_eq_true ⟨q, q2⟩, pn_nat (show e.sn < 2147483648 by clear h w; omega), en, pn_succ]
      simp only [wk_let]
      refine ⟨_, _, rfl, h.i1 rfl (fun j hj => ?_) rfl rfl rfl rfl rfl rfl rfl⟩
      rw [va_up_self]
      refine ofsU rfl (fun q => h.s2 j ?_)
      have : j < e.sn + 1 := hj
      clear h; omega
  · rw [C_type_n q]
    unfold f_D_type_23 f_D_type_37
    rw [if_pos rfl, if_neg (fun z => q z.1), decide_eq_false (fun z => q z.1)]
    exact ⟨k.I, k.A, rfl, h⟩
/-- a place that may be gone to, or not -/
def okPl (k1 : Int32) (tn : Nat) : Bool := !decide (k1 < 0) && decide (k1 ≤ Int32.ofNat tn)
theorem C_place {tn : Nat} {tx : Nat → Int32} {I : MI} {A : MA} {M : MI} {MB : MA} {L : ML} (k1 : Int32) : f_D_requirePlace tn tx I A M MB L k1 = some (if okPl k1 tn = true then 0 else 2, 0, I, A, M, MB, L) := by
  unfold f_D_requirePlace f_D_requirePlace_13 okPl
  by_cases a : k1 < 0
  · rw [if_pos a, decide_eq_true a]; rfl
  · rw [if_neg a, decide_eq_false a]
    by_cases b : k1 ≤ Int32.ofNat tn
    · rw [if_pos b, decide_eq_true b]; rfl
    · rw [if_neg b, decide_eq_false b]; rfl
theorem okPl_nat {k1 : Int32} {tn : Nat} (ht : tn ≤ 160) (h : okPl k1 tn = true) : ∃ p, p ≤ tn ∧ k1 = Int32.ofNat p := by
  unfold okPl at h
  rw [Bool.and_eq_true] at h
  have a : ¬ k1 < 0 := by simpa using h.1
  have b : k1 ≤ Int32.ofNat tn := of_decide_eq_true h.2
  have ek := pn_ofclamp a
  refine ⟨k1.toNatClampNeg, ?_, ek.symm⟩
  rw [← ek] at b
  exact (pn_le (pn_clamp_lt k1) (by omega)).mp b
theorem okPl_bad {k1 : Int32} {tn : Nat} (h : ¬ okPl k1 tn = true) : k1 < 0 ∨ ¬ k1 ≤ Int32.ofNat tn := by
  by_cases a : k1 < 0
  · exact Or.inl a
  · refine Or.inr (fun b => h ?_)
    unfold okPl
    rw [decide_eq_false a, decide_eq_true b]; rfl
theorem C_go33 {tn : Nat} {tx : Nat → Int32} {I : MI} {A : MA} {M : MI} {MB : MA} {L : ML} {X : Nat → Int32} {Y : Nat → Int64} {p : Nat} {m0 : Option Nat} (hp : p ≤ 160) (hm0 : ∀ m, m0 = some m → m ≤ 160) (x1 : X 1 = Int32.ofNat p) (i7 : I 7 = mkI m0) :
    ∃ I', f_D_go_33 tn tx I A M MB L X Y = some (0, 0, I', A, M, MB, L) ∧ I' 6 = Int32.ofNat p ∧ I' 7 = mkI (e_mk2 m0 p) ∧ ∀ j, j ≠ 6 → j ≠ 7 → I' j = I j := by
  unfold f_D_go_33 f_D_go_54
  simp only [wk_let]
  obtain ⟨I1, hI1⟩ : ∃ I1, I1 = upd I 6 (X 1) := ⟨_, rfl⟩
  rw [← hI1]
  have a6 : I1 6 = Int32.ofNat p := by rw [hI1, upd_self]; exact x1
  have a7 : I1 7 = mkI m0 := by rw [hI1, upd_ne _ _ (by decide)]; exact i7
  have ao : ∀ j, j ≠ 6 → j ≠ 7 → I1 j = I j := fun j h1 _ => by rw [hI1, upd_ne _ _ h1]
  rw [a7, a6]
  cases m0 with
  | none =>
    rw [if_neg (show ¬ mkI none = Int32.ofNat p from fun z => pn_ne1 (show p < 2147483648 by omega) z.symm)]
    exact ⟨I1, rfl, a6, a7, ao⟩
  | some m =>
    have hmb := hm0 m rfl
    have em : mkI (some m) = Int32.ofNat m := rfl
    rw [em]
    unfold e_mk2
    simp only
    by_cases q : m = p
    · rw [if_pos ((pn_eq (by omega) (by omega)).mpr q), if_pos q]
      exact ⟨upd I1 7 (-1), rfl, by rw [upd_ne _ _ (by decide)]; exact a6, upd_self _ _ _, fun j h1 h2 => by rw [upd_ne _ _ h2]; exact ao j h1 h2⟩
    · rw [if_neg (fun z => q ((pn_eq (by omega) (by omega)).mp z)), if_neg q]
      exact ⟨I1, rfl, a6, a7, ao⟩
theorem C_go {e : ES} {k : CK} (h : CRel e k) (w : EWf e) (tx : Nat → Int32) (k1 k2 : Int32) : (¬ okPl k1 (e.tn e.p) = true → f_D_go (e.tn e.p) tx k.I k.A k.M k.MB k.L k1 k2 = some (2, 0, k.I, k.A, k.M, k.MB, k.L)) ∧
    (∀ p, p ≤ e.tn e.p → k1 = Int32.ofNat p → ∃ I', f_D_go (e.tn e.p) tx k.I k.A k.M k.MB k.L k1 k2 = some (0, 0, I', k.A, k.M, k.MB, k.L) ∧ CRel (e_go e p (decide (k2 ≠ 0))) (k.dw I' k.A k.M k.MB k.L)) := by
  have ht := (w.tt _ w.pb).nb
  have hcb := w.cb
  have h20 : ¬ (2 : Nat) = 0 := by decide
  constructor
  · intro hb
    unfold f_D_go
    simp only [C_place, if_neg hb, Option.bind_some, if_neg h20, if_true]
  · intro p hp ep
    have ok : okPl k1 (e.tn e.p) = true := by
      unfold okPl
      rw [ep, decide_eq_false (pn_nneg (show p < 2147483648 by clear h w; omega)), decide_eq_true ((pn_le (show p < 2147483648 by clear h w; omega) (by clear h w; omega)).mpr hp)]; rfl
    have fin : ∀ (m0 : Option Nat) (I : MI), (∀ m, m0 = some m → m ≤ e.tn e.p) → I 7 = mkI m0 → (∀ j, j ≠ 7 → I j = k.I j) → ((ES.mk e.sn e.sc e.n e.p (p) (e_mk2 m0 p) e.tn e.tx e.pl e.pa e.lc e.has e.pat e.fl) : ES) = e_go e p (decide (k2 ≠ 0)) → ∃ I', f_D_go_33 (e.tn e.p) tx I k.A k.M k.MB k.L (upd (upd (fun _ => 0) 1 k1) 2 k2) (fun _ => 0) = some (0, 0, I', k.A, k.M, k.MB, k.L) ∧ CRel (e_go e p (decide (k2 ≠ 0))) (k.dw I' k.A k.M k.MB k.L) := by
      intro m0 I hm0 i7 io he
      obtain ⟨I', e0, a6, a7, ao⟩ := C_go33 (tn := e.tn e.p) (tx := tx) (I := I) (A := k.A) (M := k.M) (MB := k.MB) (L := k.L) (X := upd (upd (fun _ => 0) 1 k1) 2 k2) (Y := fun _ => 0) (p := p) (m0 := m0) (by clear h w; omega) (fun m hm => Nat.le_trans (hm0 m hm) ht) (by rw [upd_ne _ _ (by decide), upd_self]; exact ep) i7
      refine ⟨I', e0, ?_⟩
      rw [← he]
      exact h.cm a6 a7 (fun j h1 h2 => by rw [ao j h1 h2, io j h2]) rfl (fun _ _ _ z => z)
    unfold f_D_go
    simp only [C_place, if_pos ok, Option.bind_some, if_true, wk_let]
    by_cases qk : k2 = 0
    · rw [if_pos qk]
      refine fin none _ (fun m z => by cases z) (upd_self _ _ _) (fun j hj => upd_ne _ _ hj) ?_
      unfold e_go
      rw [decide_eq_false (fun z => z qk)]; rfl
    · rw [if_neg qk, h.hm]
      have dk : decide (k2 ≠ 0) = true := decide_eq_true qk
      cases hm : e.mr with
      | none =>
        rw [if_pos (show mkI none = -1 from rfl)]
        refine fin (some e.c) _ (fun m z => by cases z; exact hcb) (by rw [upd_self]; exact h.hc) (fun j hj => upd_ne _ _ hj) ?_
        unfold e_go
        rw [dk, hm]; rfl
      | some m =>
        have hmb := w.mb m hm
        rw [if_neg (show ¬ mkI (some m) = -1 from pn_ne1 (show m < 2147483648 by clear h w fin; omega))]
        refine fin (some m) _ (fun m' z => by cases z; exact hmb) (by rw [h.hm, hm]) (fun j _ => rfl) ?_
        unfold e_go
        rw [dk, hm]; rfl
theorem C_selS {e : ES} {k : CK} (h : CRel e k) (w : EWf e) (tn : Nat) (tx : Nat → Int32) : f_D_selectionStart tn tx k.I k.A k.M k.MB k.L = some (Int32.ofNat (e_lo e), k.I, k.A, k.M, k.MB, k.L) := by
  have hc := w.cb
  have ht := (w.tt _ w.pb).nb
  unfold f_D_selectionStart f_D_selectionStart_26 e_lo
  rw [h.hm, h.hc]
  cases hm : e.mr with
  | none => rw [if_pos (show mkI none = -1 from rfl)]
  | some m =>
    have hmb := w.mb m hm
    have em : mkI (some m) = Int32.ofNat m := rfl
    rw [em, if_neg (pn_ne1 (by clear h w; omega))]
    simp only
    by_cases q : m < e.c
    · rw [if_neg (fun z => by have := (pn_lt (a := e.c) (b := m) (by clear h w; omega) (by clear h w; omega)).mp z; clear h w; omega), if_pos q]
    · by_cases q2 : e.c < m
      · rw [if_pos ((pn_lt (by clear h w; omega) (by clear h w; omega)).mpr q2), if_neg q]
      · rw [if_neg (fun z => q2 ((pn_lt (by clear h w; omega) (by clear h w; omega)).mp z)), if_neg q, show m = e.c by clear h w; omega]
theorem C_selE {e : ES} {k : CK} (h : CRel e k) (w : EWf e) (tn : Nat) (tx : Nat → Int32) : f_D_selectionEnd tn tx k.I k.A k.M k.MB k.L = some (Int32.ofNat (e_hi e), k.I, k.A, k.M, k.MB, k.L) := by
  have hc := w.cb
  have ht := (w.tt _ w.pb).nb
  unfold f_D_selectionEnd f_D_selectionEnd_26 e_hi
  rw [h.hm, h.hc]
  cases hm : e.mr with
  | none => rw [if_pos (show mkI none = -1 from rfl)]
  | some m =>
    have hmb := w.mb m hm
    have em : mkI (some m) = Int32.ofNat m := rfl
    rw [em, if_neg (pn_ne1 (by clear h w; omega))]
    simp only
    by_cases q : e.c < m
    · rw [if_neg (fun z => by have := (pn_lt (a := m) (b := e.c) (by clear h w; omega) (by clear h w; omega)).mp z; clear h w; omega), if_pos q]
    · by_cases q2 : m < e.c
      · rw [if_pos ((pn_lt (by clear h w; omega) (by clear h w; omega)).mpr q2), if_neg q]
      · rw [if_neg (fun z => q2 ((pn_lt (by clear h w; omega) (by clear h w; omega)).mp z)), if_neg q, show m = e.c by clear h w; omega]
theorem C_fault {e : ES} {k : CK} (h : CRel e k) (tn : Nat) (tx : Nat → Int32) : f_D_fault tn tx k.I k.A k.M k.MB k.L = some (mkI e.fl, k.I, k.A, k.M, k.MB, k.L) := by
  unfold f_D_fault
  rw [h.hf]
theorem C_figure {e : ES} {k : CK} (h : CRel e k) (tn : Nat) (tx : Nat → Int32) (k1 : Int32) : f_D_figure tn tx k.I k.A k.M k.MB k.L k1 = if k1 < 0 ∨ ¬ k1 ≤ 4 then some (3, 0, k.I, k.A, k.M, k.MB, k.L) else some (0, e_fig e k1, k.I, k.A, k.M, k.MB, k.L) := by
  unfold f_D_figure e_fig
  rw [h.hp, h.hn, h.hc, h.hm, h.s1]
  by_cases a0 : k1 = 0
  · rw [if_pos a0, if_pos a0, if_neg (by rw [a0]; decide)]
  rw [if_neg a0, if_neg a0]
  by_cases a1 : k1 = 1
  · rw [if_pos a1, if_pos a1, if_neg (by rw [a1]; decide)]
  rw [if_neg a1, if_neg a1]
  by_cases a2 : k1 = 2
  · rw [if_pos a2, if_pos a2, if_neg (by rw [a2]; decide)]
  rw [if_neg a2, if_neg a2]
  by_cases a3 : k1 = 3
  · rw [if_pos a3, if_pos a3, if_neg (by rw [a3]; decide)]
  rw [if_neg a3, if_neg a3]
  by_cases a4 : k1 = 4
  · rw [if_pos a4, if_neg (by rw [a4]; decide)]
  rw [if_neg a4, if_pos ?_]
  by_cases b : k1 < 0
  · exact Or.inl b
  · refine Or.inr (fun c => ?_)
    have ek := pn_ofclamp b
    rw [← ek] at c a0 a1 a2 a3 a4
    have hb := pn_clamp_lt k1
    have c' := (pn_lec (x := 4) 4 rfl hb (by omega)).mp c
    have d0 : ¬ k1.toNatClampNeg = 0 := fun z => a0 ((pn_eqc (x := 0) 0 rfl hb (by omega)).mpr z)
    have d1 : ¬ k1.toNatClampNeg = 1 := fun z => a1 ((pn_eqc (x := 1) 1 rfl hb (by omega)).mpr z)
    have d2 : ¬ k1.toNatClampNeg = 2 := fun z => a2 ((pn_eqc (x := 2) 2 rfl hb (by omega)).mpr z)
    have d3 : ¬ k1.toNatClampNeg = 3 := fun z => a3 ((pn_eqc (x := 3) 3 rfl hb (by omega)).mpr z)
    have d4 : ¬ k1.toNatClampNeg = 4 := fun z => a4 ((pn_eqc (x := 4) 4 rfl hb (by omega)).mpr z)
    omega
theorem C_at {e : ES} (w : EWf e) (I : MI) (A : MA) (M : MI) (MB : MA) (L : ML) (k1 : Int32) : ((k1 < 0 ∨ ¬ k1 < Int32.ofNat (e.tn e.p)) → f_D_at (e.tn e.p) (e.tx e.p) I A M MB L k1 = some (2, 0, I, A, M, MB, L)) ∧ (∀ p, p < e.tn e.p → k1 = Int32.ofNat p → f_D_at (e.tn e.p) (e.tx e.p) I A M MB L k1 = some (0, e.tx e.p p, I, A, M, MB, L)) := by
  have tt := w.tt _ w.pb
  have ht := tt.nb
  unfold f_D_at f_D_at_13
  constructor
  · rintro (a | a)
    · rw [if_pos a]
    · by_cases b : k1 < 0
      · rw [if_pos b]
      · rw [if_neg b, if_neg a]
  · intro p hp ep
    obtain ⟨c, hc, ec⟩ := tt.ch p hp
    rw [ep, if_neg (pn_nneg (by clear w; omega)), if_pos ((pn_lt (by clear w tt; omega) (by clear w tt; omega)).mpr hp), if_pos ((pn_inb (by clear w tt; omega)).mpr hp), pn_nat (show p < 2147483648 by clear w tt; omega), ec, if_pos (nar_ch hc)]
theorem C_find {e : ES} {k : CK} (h : CRel e k) (w : EWf e) (k1 : Int32) : (e.has = false → f_D_find (e.tn e.p) (e.tx e.p) k.I k.A k.M k.MB k.L k1 = some (1, 0, k.I, k.A, k.M, k.MB, k.L)) ∧
    (e.has = true → ¬ okPl k1 (e.tn e.p) = true → f_D_find (e.tn e.p) (e.tx e.p) k.I k.A k.M k.MB k.L k1 = some (2, 0, k.I, k.A, k.M, k.MB, k.L)) ∧
    (e.has = true → ∀ p, p ≤ e.tn e.p → k1 = Int32.ofNat p → (NotFound (e_R e) (e.tn e.p) p ∧ f_D_find (e.tn e.p) (e.tx e.p) k.I k.A k.M k.MB k.L k1 = some (4, 0, k.I, k.A, k.M, k.MB, k.L)) ∨
      (∃ a b I' M', Found (e_R e) (e.tn e.p) p a b ∧ f_D_find (e.tn e.p) (e.tx e.p) k.I k.A k.M k.MB k.L k1 = some (0, Int32.ofNat a, I', k.A, M', k.MB, k.L) ∧ CRel (e_fnd e a b) (k.dw I' k.A M' k.MB k.L))) := by
  have tt := w.tt _ w.pb
  have ht := tt.nb
  have h20 : ¬ (2 : Nat) = 0 := by decide
  have h10 : ¬ (1 : Int32) = 0 := by decide
  refine ⟨fun hh => ?_, fun hh hb => ?_, fun hh p hp ep => ?_⟩
  · unfold f_D_find
    rw [h.hh, hh, if_pos (show g_flag false = 0 from rfl)]
  · unfold f_D_find
    rw [h.hh, hh, if_neg (show ¬ g_flag true = 0 by decide)]
    simp only [C_place, if_neg hb, Option.bind_some, if_neg h20, if_true]
  · have ok : okPl k1 (e.tn e.p) = true := by
      unfold okPl
      rw [ep, decide_eq_false (pn_nneg (show p < 2147483648 by clear h w tt; omega)), decide_eq_true ((pn_le (show p < 2147483648 by clear h w tt; omega) (by clear h w tt; omega)).mpr hp)]; rfl
    have hM := h.pm hh _ _ tt
    rcases A_seek tt hM hp with ⟨es, hN⟩ | ⟨a, b, es, hF⟩
    · refine Or.inl ⟨hN, ?_⟩
      unfold f_D_find
      rw [h.hh, hh, if_neg (show ¬ g_flag true = 0 by decide)]
      simp only [C_place, if_pos ok, Option.bind_some, if_true]
      rw [ep, es]
      simp only [Option.bind_some, if_true]
    · refine Or.inr ⟨a, b, upd (upd k.I 7 (Int32.ofNat a)) 6 (Int32.ofNat b), upd (upd k.M 8 (Int32.ofNat a)) 9 (Int32.ofNat b), hF, ?_, ?_⟩
      · unfold f_D_find
        rw [h.hh, hh, if_neg (show ¬ g_flag true = 0 by decide)]
        simp only [C_place, if_pos ok, Option.bind_some, if_true]
        rw [ep, es]
        have m8 : upd (upd k.M 8 (Int32.ofNat a)) 9 (Int32.ofNat b) 8 = Int32.ofNat a := by rw [upd_ne _ _ (by decide), upd_self]
        have m9 : upd (upd k.M 8 (Int32.ofNat a)) 9 (Int32.ofNat b) 9 = Int32.ofNat b := upd_self _ _ _
        have i7 : upd (upd k.I 7 (Int32.ofNat a)) 6 (Int32.ofNat b) 7 = Int32.ofNat a := by rw [upd_ne _ _ (by decide), upd_self]
        simp only [Option.bind_some, if_neg h10, wk_let, m8, m9, i7]
      · exact h.cm (upd_self _ _ _) (by rw [upd_ne _ _ (by decide), upd_self]; rfl) (fun j h1 h2 => by rw [upd_ne _ _ h1, upd_ne _ _ h2]) rfl (fun _ _ _ z => z.found _ _)
/-- moving to a state -/
theorem kL_come (e : ES) (s : Nat) : upd (kL e) e.p (Int32.ofNat e.c) = kL (e_come e s) := by
  funext i
  show _ = Int32.ofNat (sU e.pl e.p e.c i)
  by_cases q : i = e.p
  · rw [q, upd_self, sU_self]
  · rw [upd_ne _ _ q, sU_ne _ _ q]; rfl
theorem kC_come0 {e : ES} {s : Nat} (h : e.pa s = none) : kC e = kC (e_come e s) := by
  unfold kC
  rw [e_come_lc0 h]
theorem kC_come1 {e : ES} {s q : Nat} (h : e.pa s = some q) : upd (kC e) q (Int32.ofNat s) = kC (e_come e s) := by
  unfold kC
  rw [e_come_lc1 h]
  funext i
  by_cases z : i = q
  · rw [z, upd_self, sU_self]; rfl
  · rw [upd_ne _ _ z, sU_ne _ _ z]
theorem CRel.come {e : ES} {k : CK} (h : CRel e k) {s : Nat} {I' : MI} (i4 : I' 4 = Int32.ofNat s) (i6 : I' 6 = Int32.ofNat (sU e.pl e.p e.c s)) (i7 : I' 7 = -1) (hi : ∀ j, j ≠ 4 → j ≠ 6 → j ≠ 7 → I' j = k.I j) : CRel (e_come e s) (k.tw I') := by
  refine ⟨?_, h.s2, ?_, i4, i6, i7, ?_, ?_, h.pm⟩
  · show I' 1 = _; rw [hi 1 (by decide) (by decide) (by decide)]; exact h.s1
  · show I' 3 = _; rw [hi 3 (by decide) (by decide) (by decide)]; exact h.hn
  · show I' 10 = _; rw [hi 10 (by decide) (by decide) (by decide)]; exact h.hh
  · show I' 11 = _; rw [hi 11 (by decide) (by decide) (by decide)]; exact h.hf
theorem C_moveTo0 {e : ES} {k : CK} (h : CRel e k) (hpb : e.p < e.n) (hn2 : e.n ≤ 40) {s : Nat} (hs : s < e.n) (w : ∀ q, e.pa s = some q → q < e.n) : ∃ I', f_D_moveTo e.n (kO e) k.I e.p (kL e) (kC e) (Int32.ofNat s) = some (0, I', s, kL (e_come e s), kC (e_come e s)) ∧ CRel (e_come e s) (k.tw I') ∧ I' 4 = Int32.ofNat s ∧ ∀ j, j ≠ 4 → j ≠ 6 → j ≠ 7 → I' j = k.I j := by
  have hs0 : s < 2147483648 := by clear h w; omega
  have hp0 : e.p < 2147483648 := by clear h w; omega
  obtain ⟨I1, hI1⟩ : ∃ I1, I1 = upd k.I 4 (Int32.ofNat s) := ⟨_, rfl⟩
  obtain ⟨I2, hI2⟩ : ∃ I2, I2 = upd I1 6 (Int32.ofNat (sU e.pl e.p e.c s)) := ⟨_, rfl⟩
  obtain ⟨I3, hI3⟩ : ∃ I3, I3 = upd I2 7 (-1) := ⟨_, rfl⟩
  have a4 : I3 4 = Int32.ofNat s := by rw [hI3, upd_ne _ _ (by decide), hI2, upd_ne _ _ (by decide), hI1, upd_self]
  have a6 : I3 6 = Int32.ofNat (sU e.pl e.p e.c s) := by rw [hI3, upd_ne _ _ (by decide), hI2, upd_self]
  have a7 : I3 7 = -1 := by rw [hI3, upd_self]
  have ao : ∀ j, j ≠ 4 → j ≠ 6 → j ≠ 7 → I3 j = k.I j := fun j h1 h2 h3 => by rw [hI3, upd_ne _ _ h3, hI2, upd_ne _ _ h2, hI1, upd_ne _ _ h1]
  refine ⟨I3, ?_, h.come a4 a6 a7 ao, a4, ao⟩
  unfold f_D_moveTo f_D_moveTo_70
  have n40 : ∀ {i : Nat}, i < e.n → wk_inb (Int32.ofNat i) 40 = true := fun {i} hi => (pn_inb (by clear h w; omega)).mpr (by clear h w; omega)
  have nn : ∀ {i : Nat}, i < e.n → wk_inb (Int32.ofNat i) e.n = true := fun {i} hi => (pn_inb (by clear h w; omega)).mpr hi
  rw [h.hp, if_pos (n40 hpb), if_pos (nn hpb), h.hc, pn_nat hp0, kL_come e s]
  simp only [wk_let]
  rw [if_pos (n40 hs), if_pos (nn hs), pn_nat hs0]
  have eL : kL (e_come e s) s = Int32.ofNat (sU e.pl e.p e.c s) := rfl
  rw [eL, ← hI1, ← hI2, ← hI3]
  have eO : kO e s = mkI (e.pa s) := rfl
  rw [eO]
  cases hq : e.pa s with
  | none => rw [if_pos (show mkI none = -1 from rfl), ← kC_come0 hq]
  | some q =>
    have hqn : q < e.n := w q hq
    have em : mkI (some q) = Int32.ofNat q := rfl
    rw [em, if_neg (pn_ne1 (by clear h w; omega)), if_pos (n40 hqn), if_pos (nn hqn), pn_nat (show q < 2147483648 by clear h w; omega), kC_come1 hq]
theorem EWf.pn {e : ES} (w : EWf e) {s q : Nat} (hs : s < e.n) (hq : e.pa s = some q) : q < e.n := by
  rcases Nat.eq_zero_or_pos s with z | z
  · rw [z, w.p0] at hq; cases hq
  · obtain ⟨q', h1, h2⟩ := w.ps s z hs
    rw [hq] at h1
    cases h1
    clear w; omega
theorem C_moveTo {e : ES} {k : CK} (h : CRel e k) (w : EWf e) {s : Nat} (hs : s < e.n) : ∃ I', f_D_moveTo e.n (kO e) k.I e.p (kL e) (kC e) (Int32.ofNat s) = some (0, I', s, kL (e_come e s), kC (e_come e s)) ∧ CRel (e_come e s) (k.tw I') ∧ I' 4 = Int32.ofNat s ∧ ∀ j, j ≠ 4 → j ≠ 6 → j ≠ 7 → I' j = k.I j := C_moveTo0 h w.pb w.n2 hs (fun _ hq => w.pn hs hq)
theorem C_undo {e : ES} {k : CK} (h : CRel e k) (w : EWf e) : (e.pa e.p = none → f_D_undo e.n (kO e) k.I e.p (kL e) (kC e) = some (4, 0, k.I, e.p, kL e, kC e)) ∧ (∀ q, e.pa e.p = some q → ∃ I', f_D_undo e.n (kO e) k.I e.p (kL e) (kC e) = some (0, Int32.ofNat q, I', q, kL (e_come e q), kC (e_come e q)) ∧ CRel (e_come e q) (k.tw I')) := by
  have hpb := w.pb
  have hn2 := w.n2
  have hp0 : e.p < 2147483648 := by clear h w; omega
  have i40 : wk_inb (Int32.ofNat e.p) 40 = true := (pn_inb hp0).mpr (by clear h w; omega)
  have inn : wk_inb (Int32.ofNat e.p) e.n = true := (pn_inb hp0).mpr hpb
  have eO : kO e e.p = mkI (e.pa e.p) := rfl
  unfold f_D_undo
  rw [h.hp, if_pos i40, if_pos inn, pn_nat hp0, eO]
  refine ⟨fun hq => ?_, fun q hq => ?_⟩
  · rw [hq, if_pos (show mkI none = -1 from rfl)]
  · have hqn : q < e.n := by
      rcases Nat.eq_zero_or_pos e.p with z | z
      · rw [z, w.p0] at hq; cases hq
      · obtain ⟨q', h1, h2⟩ := w.ps e.p z hpb
        rw [hq] at h1
        cases h1
        clear h w; omega
    have em : mkI (some q) = Int32.ofNat q := rfl
    obtain ⟨I', e0, hr, i4, -⟩ := C_moveTo h w hqn
    rw [hq, em, if_neg (pn_ne1 (by clear h w hr; omega)), e0]
    simp only [Option.bind_some, i4]
    exact ⟨I', rfl, hr⟩
theorem C_redo {e : ES} {k : CK} (h : CRel e k) (w : EWf e) : (e.lc e.p = none → f_D_redo e.n (kO e) k.I e.p (kL e) (kC e) = some (4, 0, k.I, e.p, kL e, kC e)) ∧ (∀ q, e.lc e.p = some q → ∃ I', f_D_redo e.n (kO e) k.I e.p (kL e) (kC e) = some (0, Int32.ofNat q, I', q, kL (e_come e q), kC (e_come e q)) ∧ CRel (e_come e q) (k.tw I')) := by
  have hpb := w.pb
  have hn2 := w.n2
  have hp0 : e.p < 2147483648 := by clear h w; omega
  have i40 : wk_inb (Int32.ofNat e.p) 40 = true := (pn_inb hp0).mpr (by clear h w; omega)
  have inn : wk_inb (Int32.ofNat e.p) e.n = true := (pn_inb hp0).mpr hpb
  have eO : kC e e.p = mkI (e.lc e.p) := rfl
  unfold f_D_redo
  rw [h.hp, if_pos i40, if_pos inn, pn_nat hp0, eO]
  refine ⟨fun hq => ?_, fun q hq => ?_⟩
  · rw [hq, if_pos (show mkI none = -1 from rfl)]
  · have hqn : q < e.n := (w.l1 e.p q hpb hq).1
    have em : mkI (some q) = Int32.ofNat q := rfl
    obtain ⟨I', e0, hr, i4, -⟩ := C_moveTo h w hqn
    rw [hq, em, if_neg (pn_ne1 (by clear h w hr; omega)), e0]
    simp only [Option.bind_some, i4]
    exact ⟨I', rfl, hr⟩
theorem C_state {e : ES} {k : CK} (h : CRel e k) (SO : Nat → Int32) (cx : Nat) (SP SL : MI) (k1 : Int32) : f_D_requireState e.n SO k.I cx SP SL k1 = some (if k1 < 0 ∨ ¬ k1 < Int32.ofNat e.n then 3 else 0, 0, k.I, cx, SP, SL) := by
  unfold f_D_requireState f_D_requireState_12
  rw [h.hn]
  by_cases a : k1 < 0
  · rw [if_pos a, if_pos (Or.inl a)]
  · rw [if_neg a]
    by_cases b : k1 < Int32.ofNat e.n
    · rw [if_pos b, if_neg (fun z => z.elim a (fun y => y b))]
    · rw [if_neg b, if_pos (Or.inr b)]
theorem st_ok {e : ES} (w : EWf e) {s : Nat} (hs : s < e.n) : ¬ (Int32.ofNat s < 0 ∨ ¬ Int32.ofNat s < Int32.ofNat e.n) := by
  have hn2 := w.n2
  rintro (a | a)
  · exact pn_nneg (by clear w; omega) a
  · exact a ((pn_lt (by clear w; omega) (by clear w; omega)).mpr hs)
theorem C_jump {e : ES} {k : CK} (h : CRel e k) (w : EWf e) (k1 : Int32) : ((k1 < 0 ∨ ¬ k1 < Int32.ofNat e.n) → f_D_jump e.n (kO e) k.I e.p (kL e) (kC e) k1 = some (3, 0, k.I, e.p, kL e, kC e)) ∧ (∀ s, s < e.n → k1 = Int32.ofNat s → ∃ I', f_D_jump e.n (kO e) k.I e.p (kL e) (kC e) k1 = some (0, 0, I', s, kL (e_come e s), kC (e_come e s)) ∧ CRel (e_come e s) (k.tw I')) := by
  have h30 : ¬ (3 : Nat) = 0 := by decide
  unfold f_D_jump
  refine ⟨fun hb => ?_, fun s hs es => ?_⟩
  · simp only [C_state h, if_pos hb, Option.bind_some, if_neg h30, if_true]
  · have ok := st_ok w hs
    rw [← es] at ok
    obtain ⟨I', e0, hr, i4, -⟩ := C_moveTo h w hs
    simp only [C_state h, if_neg ok, Option.bind_some, if_true]
    rw [es, e0]
    exact ⟨I', rfl, hr⟩
theorem C_parent {e : ES} {k : CK} (h : CRel e k) (w : EWf e) (k1 : Int32) : ((k1 < 0 ∨ ¬ k1 < Int32.ofNat e.n) → f_D_parent e.n (kO e) k.I e.p (kL e) (kC e) k1 = some (3, 0, k.I, e.p, kL e, kC e)) ∧ (∀ s, s < e.n → k1 = Int32.ofNat s → f_D_parent e.n (kO e) k.I e.p (kL e) (kC e) k1 = some (0, mkI (e.pa s), k.I, e.p, kL e, kC e)) := by
  have h30 : ¬ (3 : Nat) = 0 := by decide
  have hn2 := w.n2
  unfold f_D_parent
  refine ⟨fun hb => ?_, fun s hs es => ?_⟩
  · simp only [C_state h, if_pos hb, Option.bind_some, if_neg h30, if_true]
  · have ok := st_ok w hs
    rw [← es] at ok
    simp only [C_state h, if_neg ok, Option.bind_some, if_true]
    rw [es, if_pos ((pn_inb (by clear h w; omega)).mpr (by clear h w; omega)), if_pos ((pn_inb (by clear h w; omega)).mpr hs), pn_nat (show s < 2147483648 by clear h w; omega)]
    rfl
-- 73.cop2
-- own rows: compile and replace of the class, pure
theorem C_compile {e : ES} {k : CK} (h : CRel e k) (w : EWf e) {s : Nat → Nat} (hs : ∀ j, j < e.sn → s j = e.sc j) :
    (∀ p, c_rd s e.sn = Sum.inl p → ∃ I' RI' RA' N' NB' NL', f_D_compile k.I k.A k.M k.MB k.L k.RI k.RA k.N k.NB k.NL = some (3, 0, I', k.A, k.M, k.MB, k.L, RI', RA', N', NB', NL') ∧ ∀ sf, CRel (e_cf e p) (k.rd sf I' k.A k.M k.MB k.L RI' RA' N' NB' NL')) ∧
    (∀ st, c_rd s e.sn = Sum.inr st → ∃ I' RI' RA' N' NB' NL', f_D_compile k.I k.A k.M k.MB k.L k.RI k.RA k.N k.NB k.NL = some (0, 0, I', k.A, k.M, k.MB, k.L, RI', RA', N', NB', NL') ∧ ∀ sf, CRel (e_cd e s) (k.rd sf I' k.A k.M k.MB k.L RI' RA' N' NB' NL').sw) := by
  have hsb := w.sb
  have hS : Slip (k.A 0) s e.sn := ⟨hsb, fun j hj => ⟨by rw [h.s2 j hj, hs j hj], by rw [hs j hj]; exact w.sv j hj⟩⟩
  have all : ∀ tn tx, Txt tn tx → Res (f_P_read (k.A 0) k.RI k.RA k.N k.NB k.NL (Int32.ofNat e.sn)) (ReadOut tn tx e.sn (rd tn tx s e.sn (e.sn + 1) 0 (st_open []))) := fun tn tx hT => A_read hT hS _ _ _ _ _
  obtain ⟨z, ez, hz⟩ := all 0 (fun _ => 0) Txt0
  have all' : ∀ tn tx, Txt tn tx → ReadOut tn tx e.sn (rd tn tx s e.sn (e.sn + 1) 0 (st_open [])) z := fun tn tx hT => by
    obtain ⟨z', ez', hz'⟩ := all tn tx hT
    rw [ez] at ez'
    cases ez'
    exact hz'
  obtain ⟨r1, RI1, RA1, N1, NB1, NL1⟩ := z
  have ho0 : c_rd s e.sn = rd 0 (fun _ => 0) s e.sn (e.sn + 1) 0 (st_open []) := rfl
  rw [← ho0] at hz
  unfold f_D_compile
  rw [h.s1, ez]
  simp only [Option.bind_some, wk_let, upd_self]
  constructor
  · intro p hp
    rw [hp] at hz
    obtain ⟨e1, hpn⟩ := hz
    have e1' : r1 = Int32.ofNat p := e1
    rw [e1', if_neg (pn_ne1 (by clear h w hS; omega))]
    refine ⟨_, _, _, _, _, _, rfl, fun sf => ⟨?_, h.s2, ?_, ?_, ?_, ?_, ?_, (show upd k.I 11 (Int32.ofNat p) 11 = _ from upd_self _ _ _), h.pm⟩⟩
    · show upd k.I 11 (Int32.ofNat p) 1 = _; rw [upd_ne _ _ (by decide)]; exact h.s1
    · show upd k.I 11 (Int32.ofNat p) 3 = _; rw [upd_ne _ _ (by decide)]; exact h.hn
    · show upd k.I 11 (Int32.ofNat p) 4 = _; rw [upd_ne _ _ (by decide)]; exact h.hp
    · show upd k.I 11 (Int32.ofNat p) 6 = _; rw [upd_ne _ _ (by decide)]; exact h.hc
    · show upd k.I 11 (Int32.ofNat p) 7 = _; rw [upd_ne _ _ (by decide)]; exact h.hm
    · show upd k.I 11 (Int32.ofNat p) 10 = _; rw [upd_ne _ _ (by decide)]; exact h.hh
  · intro st hst
    rw [hst] at hz
    obtain ⟨e1, x, ex, hx⟩ := hz
    have e1' : r1 = -1 := e1
    rw [if_pos e1']
    unfold f_P_handOver
    simp only [Option.bind_some]
    refine ⟨_, _, _, _, _, _, rfl, fun sf => ⟨?_, fun j hj => absurd hj (Nat.not_lt_zero _), ?_, ?_, ?_, ?_, ?_, ?_, fun _ tn tx hT => ?_⟩⟩
    · show upd (upd (upd k.I 11 r1) 10 1) 1 0 1 = _; rw [upd_self]; rfl
    · show upd (upd (upd k.I 11 r1) 10 1) 1 0 3 = _; rw [upd_ne _ _ (by decide), upd_ne _ _ (by decide), upd_ne _ _ (by decide)]; exact h.hn
    · show upd (upd (upd k.I 11 r1) 10 1) 1 0 4 = _; rw [upd_ne _ _ (by decide), upd_ne _ _ (by decide), upd_ne _ _ (by decide)]; exact h.hp
    · show upd (upd (upd k.I 11 r1) 10 1) 1 0 6 = _; rw [upd_ne _ _ (by decide), upd_ne _ _ (by decide), upd_ne _ _ (by decide)]; exact h.hc
    · show upd (upd (upd k.I 11 r1) 10 1) 1 0 7 = _; rw [upd_ne _ _ (by decide), upd_ne _ _ (by decide), upd_ne _ _ (by decide)]; exact h.hm
    · show upd (upd (upd k.I 11 r1) 10 1) 1 0 10 = _; rw [upd_ne _ _ (by decide), upd_self]; rfl
    · show upd (upd (upd k.I 11 r1) 10 1) 1 0 11 = _; rw [upd_ne _ _ (by decide), upd_ne _ _ (by decide), upd_self]; exact e1'
    · have hT' := all' tn tx hT
      show CMean tn tx N1 NB1 NL1 (c_pat s e.sn tn tx)
      unfold c_pat
      rcases hr : rd tn tx s e.sn (e.sn + 1) 0 (st_open []) with p | st2
      · rw [hr] at hT'
        obtain ⟨g1, g2⟩ := hT'
        have g1' : r1 = Int32.ofNat p := g1
        rw [e1'] at g1'
        exact absurd g1'.symm (pn_ne1 (by clear h w hS; omega))
      · rw [hr] at hT'
        obtain ⟨-, x2, ex2, hx2⟩ := hT'
        rw [ex2]
        exact hx2
def msA (A : MA) : Nat → List (Nat × Nat) → Prop
  | _, [] => True
  | c, (a, b) :: l => A 12 c = Int32.ofNat a ∧ A 13 c = Int32.ofNat b ∧ msA A (c + 1) l
theorem Ms.len {R : Rl} {tn : Nat} : ∀ (l : List (Nat × Nat)) (p : Nat), p ≤ tn → Ms R tn p l → p + l.length ≤ tn
  | [], p, hp, _ => hp
  | (a, b) :: l, p, hp, h => by
    have h1 := h.1.1
    have h2 := h.1.2.2.2.1.1
    have := Ms.len l b h.1.2.2.1 h.2
    simp only [List.length_cons]; omega
theorem C_coll_go {tn : Nat} {tx : Nat → Int32} (tt : Txt tn tx) {R : Rl} {I : MI} {MB : MA} {L : ML} {Y : Nat → Int64} : ∀ (l : List (Nat × Nat)) (p c fuel : Nat) (A : MA) (M : MI) (X : Nat → Int32), CMean tn tx M MB L R → Ms R tn p l → p ≤ tn → c ≤ p → l.length < fuel → X 1 = Int32.ofNat p → X 2 = Int32.ofNat c →
    ∃ A' M', f_D_collectMatches_go tn tx fuel 4 I A M MB L X Y = some (Int32.ofNat (c + l.length), I, A', M', MB, L) ∧ msA A' c l ∧ (∀ j, j < c → A' 12 j = A 12 j ∧ A' 13 j = A 13 j) ∧ (∀ j, j ≠ 12 → j ≠ 13 → A' j = A j) ∧ (∀ tn tx R, CMean tn tx M MB L R → CMean tn tx M' MB L R) := by
  have ht := tt.nb
  have h10 : ¬ (1 : Int32) = 0 := by decide
  intro l
  induction l with
  | nil =>
    intro p c fuel A M X hM hms hp hcp hf x1 x2
    obtain ⟨f, rfl⟩ : ∃ f, fuel = f + 1 := ⟨fuel - 1, by omega⟩
    show ∃ A' M', f_D_collectMatches_4 tn tx (f_D_collectMatches_go tn tx f) I A M MB L X Y = some (Int32.ofNat c, I, A', M', MB, L) ∧ _
    unfold f_D_collectMatches_4
    rw [x2, x1]
    by_cases q : c = 160
    · rw [if_pos ((pn_cle (x := 160) 160 rfl (by clear tt; omega) (by omega)).mpr (by clear tt; omega)), q]
      exact ⟨A, M, rfl, trivial, fun _ _ => ⟨rfl, rfl⟩, fun _ _ _ => rfl, fun _ _ _ z => z⟩
    · rw [if_neg (fun z => by have := (pn_cle (x := 160) 160 rfl (show c < 2147483648 by clear tt; omega) (by omega)).mp z; clear tt; omega)]
      rcases A_seek tt hM hp with ⟨es, _⟩ | ⟨a, b, es, hF⟩
      · rw [es]
        simp only [Option.bind_some, if_true]
        exact ⟨A, M, rfl, trivial, fun _ _ => ⟨rfl, rfl⟩, fun _ _ _ => rfl, fun _ _ _ z => z⟩
      · exact (hF.not hms).elim
  | cons ab l ih =>
    obtain ⟨a, b⟩ := ab
    intro p c fuel A M X hM hms hp hcp hf x1 x2
    obtain ⟨hF, hl⟩ := hms
    have ha := hF.1
    have ha2 := hF.2.1
    have hb := hF.2.2.1
    have hab := hF.2.2.2.1.1
    obtain ⟨f, rfl⟩ : ∃ f, fuel = f + 1 := ⟨fuel - 1, by omega⟩
    have hc : c < 160 := by clear tt; omega
    have hc0 : c < 2147483648 := by omega
    show ∃ A' M', f_D_collectMatches_4 tn tx (f_D_collectMatches_go tn tx f) I A M MB L X Y = _ ∧ _
    unfold f_D_collectMatches_4
    rw [x2, x1, if_neg (fun z => by have := (pn_cle (x := 160) 160 rfl hc0 (by omega)).mp z; omega)]
    rcases A_seek tt hM hp with ⟨es, hN⟩ | ⟨a', b', es, hF'⟩
    · exact (hF.not hN).elim
    · obtain ⟨e1, e2⟩ := hF'.uniq hF
      subst e1; subst e2
      rw [es]
      have m8 : upd (upd M 8 (Int32.ofNat a')) 9 (Int32.ofNat b') 8 = Int32.ofNat a' := by rw [upd_ne _ _ (by decide), upd_self]
      have m9 : upd (upd M 8 (Int32.ofNat a')) 9 (Int32.ofNat b') 9 = Int32.ofNat b' := upd_self _ _ _
      simp only [Option.bind_some, if_neg h10, m8, m9, wk_let]
      rw [if_pos ((pn_inb hc0).mpr hc), if_pos ((pn_inb hc0).mpr hc), pn_nat hc0]
      obtain ⟨A1, hA1⟩ : ∃ A1, A1 = va_up A 12 (upd (A 12) c (Int32.ofNat a')) := ⟨_, rfl⟩
      obtain ⟨A2, hA2⟩ : ∃ A2, A2 = va_up A1 13 (upd (A1 13) c (Int32.ofNat b')) := ⟨_, rfl⟩
      rw [← hA1, ← hA2]
      have g12 : A2 12 c = Int32.ofNat a' := by rw [hA2, va_up_ne _ _ (by decide), hA1, va_up_self, upd_self]
      have g13 : A2 13 c = Int32.ofNat b' := by rw [hA2, va_up_self, upd_self]
      have f12 : ∀ j, j < c → A2 12 j = A 12 j := fun j hj => by rw [hA2, va_up_ne _ _ (by decide), hA1, va_up_self, upd_ne _ _ (by omega)]
      have f13 : ∀ j, j < c → A2 13 j = A 13 j := fun j hj => by rw [hA2, va_up_self, upd_ne _ _ (by omega), hA1, va_up_ne _ _ (by decide)]
      have fo : ∀ j, j ≠ 12 → j ≠ 13 → A2 j = A j := fun j h1 h2 => by rw [hA2, va_up_ne _ _ h2, hA1, va_up_ne _ _ h1]
      obtain ⟨A', M', e0, k1, k2, k3, k4⟩ := ih b' (c + 1) f A2 (upd (upd M 8 (Int32.ofNat a')) 9 (Int32.ofNat b')) (upd (upd X 1 (Int32.ofNat b')) 2 (Int32.ofNat c + 1)) (hM.found _ _) hl hb (by clear tt; omega) (by simp only [List.length_cons] at hf; omega) (by rw [upd_ne _ _ (by decide), upd_self]) (by rw [upd_self, pn_succ])
      refine ⟨A', M', ?_, ⟨?_, ?_, k1⟩, fun j hj => ?_, fun j h1 h2 => ?_, fun tn tx R z => k4 tn tx R (z.found _ _)⟩
      · rw [e0, List.length_cons, show c + 1 + l.length = c + (l.length + 1) by omega]
      · rw [(k2 c (Nat.lt_succ_self c)).1, g12]
      · rw [(k2 c (Nat.lt_succ_self c)).2, g13]
      · rw [(k2 j (by omega)).1, (k2 j (by omega)).2, f12 j hj, f13 j hj]; exact ⟨rfl, rfl⟩
      · rw [k3 j h1 h2, fo j h1 h2]
theorem C_coll {tn : Nat} {tx : Nat → Int32} (tt : Txt tn tx) {R : Rl} {I : MI} {A : MA} {M : MI} {MB : MA} {L : ML} (hM : CMean tn tx M MB L R) {l : List (Nat × Nat)} (hl : Ms R tn 0 l) :
    ∃ A' M', f_D_collectMatches tn tx I A M MB L = some (Int32.ofNat l.length, I, A', M', MB, L) ∧ msA A' 0 l ∧ (∀ j, j ≠ 12 → j ≠ 13 → A' j = A j) ∧ (∀ tn tx R, CMean tn tx M MB L R → CMean tn tx M' MB L R) := by
  have ht := tt.nb
  have hlen := Ms.len l 0 (Nat.zero_le _) hl
  have fu := wk_FUEL_big
  unfold f_D_collectMatches f_D_collectMatches_e
  obtain ⟨A', M', e0, k1, -, k3, k4⟩ := C_coll_go tt (I := I) (Y := fun _ => 0) l 0 0 wk_FUEL A M (upd (upd (fun _ => 0) 1 0) 2 0) hM hl (Nat.zero_le _) (Nat.le_refl _) (by clear tt hM hl; omega) (by rw [upd_ne _ _ (by decide), upd_self]; rfl) (by rw [upd_self]; rfl)
  exact ⟨A', M', by rw [e0, Nat.zero_add], k1, k3, k4⟩
def rsum : List (Nat × Nat) → Nat
  | [] => 0
  | (a, b) :: l => (b - a) + rsum l
theorem rp_sum {R : Rl} {tn sn : Nat} : ∀ (l : List (Nat × Nat)) (p : Nat), p ≤ tn → Ms R tn p l → rp_len sn tn p l + rsum l = (tn - p) + l.length * sn
  | [], p, hp, _ => by simp [rp_len, rsum]
  | (a, b) :: l, p, hp, h => by
    have h1 := h.1.1
    have h3 := h.1.2.2.1
    have h2 := h.1.2.2.2.1.1
    have ih := rp_sum (sn := sn) l b h3 h.2
    simp only [rp_len, rsum, List.length_cons]
    rw [Nat.succ_mul]
    omega
theorem C_size_go {tn : Nat} {tx : Nat → Int32} {R : Rl} {N : Nat} (hN : N ≤ 160) {I : MI} {A : MA} {M : MI} {MB : MA} {L : ML} {Y : Nat → Int64} : ∀ (l : List (Nat × Nat)) (p c v fuel : Nat) (X : Nat → Int32), msA A c l → Ms R tn p l → c + l.length = N → rsum l ≤ v → l.length < fuel → X 1 = Int32.ofNat N → X 2 = Int32.ofNat v → X 3 = Int32.ofNat c →
    f_D_sizeWithSlipIn_go tn tx fuel 15 I A M MB L X Y = some (Int32.ofNat (v - rsum l), I, A, M, MB, L) := by
  intro l
  induction l with
  | nil =>
    intro p c v fuel X hA hl hc hv hf x1 x2 x3
    obtain ⟨f, rfl⟩ : ∃ f, fuel = f + 1 := ⟨fuel - 1, by omega⟩
    show f_D_sizeWithSlipIn_15 tn tx (f_D_sizeWithSlipIn_go tn tx f) I A M MB L X Y = _
    have hc' : c = N := hc
    unfold f_D_sizeWithSlipIn_15
    rw [x1, x3, if_pos ((pn_le (by omega) (by omega)).mpr (by omega)), x2]
    rfl
  | cons ab l ih =>
    obtain ⟨a, b⟩ := ab
    intro p c v fuel X hA hl hc hv hf x1 x2 x3
    obtain ⟨g12, g13, hA'⟩ := hA
    have hab := hl.1.2.2.2.1.1
    simp only [List.length_cons] at hc hf
    simp only [rsum] at hv ⊢
    obtain ⟨f, rfl⟩ : ∃ f, fuel = f + 1 := ⟨fuel - 1, by omega⟩
    have hc0 : c < 2147483648 := by omega
    show f_D_sizeWithSlipIn_15 tn tx (f_D_sizeWithSlipIn_go tn tx f) I A M MB L X Y = _
    unfold f_D_sizeWithSlipIn_15
    rw [x1, x3, if_neg (fun z => by have := (pn_le (a := N) (b := c) (by omega) (by omega)).mp z; omega), if_pos ((pn_inb hc0).mpr (by omega)), if_pos ((pn_inb hc0).mpr (by omega)), pn_nat hc0, g12, g13, x2, pn_sub (show a ≤ b by omega), pn_sub (show b - a ≤ v by omega), pn_succ]
    rw [ih b (c + 1) (v - (b - a)) f _ hA' hl.2 (by omega) (by omega) (by omega) (by rw [upd_ne _ _ (by decide), upd_ne _ _ (by decide)]; exact x1) (by rw [upd_ne _ _ (by decide), upd_self]) (upd_self _ _ _), Nat.sub_sub]
theorem C_size {tn : Nat} {tx : Nat → Int32} {R : Rl} {I : MI} {A : MA} {M : MI} {MB : MA} {L : ML} {l : List (Nat × Nat)} {sn : Nat} (ht : tn ≤ 160) (hA : msA A 0 l) (hl : Ms R tn 0 l) (i1 : I 1 = Int32.ofNat sn) : f_D_sizeWithSlipIn tn tx I A M MB L (Int32.ofNat l.length) = some (Int32.ofNat (rp_len sn tn 0 l), I, A, M, MB, L) := by
  have hlen := Ms.len l 0 (Nat.zero_le _) hl
  have hs := rp_sum (sn := sn) l 0 (Nat.zero_le _) hl
  have fu := wk_FUEL_big
  unfold f_D_sizeWithSlipIn f_D_sizeWithSlipIn_e
  rw [i1, pn_mul, pn_add]
  rw [C_size_go (R := R) (N := l.length) (by clear hA hl; omega) l 0 0 (tn + l.length * sn) wk_FUEL _ hA hl (by omega) (by clear hA hl; omega) (by clear hA hl; omega) (by rw [upd_ne _ _ (by decide), upd_ne _ _ (by decide), upd_self]) (by rw [upd_ne _ _ (by decide), upd_self]) (by rw [upd_self]; rfl), show tn + l.length * sn - rsum l = rp_len sn tn 0 l by clear hA hl; omega]
/-- line of the class -/
theorem C_brk_go {tn p : Nat} {tx : Nat → Int32} {I : MI} {A : MA} {M : MI} {MB : MA} {L : ML} {Y : Nat → Int64} (ht : tn ≤ 160) (hp : p ≤ tn) : ∀ (d i fuel : Nat) (X : Nat → Int32), p - i = d → i ≤ p → d < fuel → X 1 = Int32.ofNat p → X 2 = Int32.ofNat (brk tx i) → X 3 = Int32.ofNat i → f_D_breaksBefore_go tn tx fuel 4 I A M MB L X Y = some (Int32.ofNat (brk tx p), I, A, M, MB, L) := by
  intro d
  induction d with
  | zero =>
    intro i fuel X hd hi hf x1 x2 x3
    obtain ⟨f, rfl⟩ : ∃ f, fuel = f + 1 := ⟨fuel - 1, by omega⟩
    have ei : i = p := by omega
    show f_D_breaksBefore_4 tn tx (f_D_breaksBefore_go tn tx f) I A M MB L X Y = _
    unfold f_D_breaksBefore_4
    rw [x1, x3, if_pos ((pn_le (by omega) (by omega)).mpr (by omega)), x2, ei]
  | succ d ih =>
    intro i fuel X hd hi hf x1 x2 x3
    obtain ⟨f, rfl⟩ : ∃ f, fuel = f + 1 := ⟨fuel - 1, by omega⟩
    show f_D_breaksBefore_4 tn tx (f_D_breaksBefore_go tn tx f) I A M MB L X Y = _
    unfold f_D_breaksBefore_4 f_D_breaksBefore_23
    rw [x1, x3, if_neg (fun z => by have := (pn_le (a := p) (b := i) (by omega) (by omega)).mp z; omega), if_pos ((pn_inb (by omega)).mpr (by omega)), pn_nat (show i < 2147483648 by omega)]
    by_cases q : tx i = 10
    · rw [if_pos q]
      refine ih (i + 1) f _ (by omega) (by omega) (by omega) ?_ ?_ ?_
      · rw [upd_ne _ _ (by decide), upd_ne _ _ (by decide)]; exact x1
      · rw [upd_ne _ _ (by decide), upd_self, x2, pn_succ]
        simp only [brk]; rw [if_pos q]
      · rw [upd_self, upd_ne _ _ (by decide), x3, pn_succ]
    · rw [if_neg q]
      refine ih (i + 1) f _ (by omega) (by omega) (by omega) ?_ ?_ ?_
      · rw [upd_ne _ _ (by decide)]; exact x1
      · rw [upd_ne _ _ (by decide), x2]
        simp only [brk]; rw [if_neg q]; rfl
      · rw [upd_self, pn_succ]
theorem C_brk {tn p : Nat} {tx : Nat → Int32} {I : MI} {A : MA} {M : MI} {MB : MA} {L : ML} (ht : tn ≤ 160) (hp : p ≤ tn) : f_D_breaksBefore tn tx I A M MB L (Int32.ofNat p) = some (Int32.ofNat (brk tx p), I, A, M, MB, L) := by
  have fu := wk_FUEL_big
  unfold f_D_breaksBefore f_D_breaksBefore_e
  refine C_brk_go ht hp p 0 wk_FUEL _ (by omega) (Nat.zero_le _) (by omega) ?_ ?_ (by rw [upd_self]; rfl)
  · rw [upd_ne _ _ (by decide), upd_ne _ _ (by decide), upd_self]
  · rw [upd_ne _ _ (by decide), upd_self]; rfl
theorem C_lb_go {tn : Nat} {tx : Nat → Int32} {I : MI} {A : MA} {M : MI} {MB : MA} {L : ML} {Y : Nat → Int64} (ht : tn ≤ 160) {k2 : Int32} : ∀ (d i fuel : Nat) (X : Nat → Int32), tn - i = d → i ≤ tn → d < fuel → X 1 = k2 → X 2 = Int32.ofNat (brk tx i) → X 3 = Int32.ofNat i → (∀ n, k2 = Int32.ofNat n → n ≤ brk tx tn → brk tx i < n) →
    f_D_lineBegin_go tn tx fuel 10 I A M MB L X Y = if okLn k2 (brk tx tn) = true then some (0, Int32.ofNat (lst tx k2.toNatClampNeg d i), I, A, M, MB, L) else some (2, 0, I, A, M, MB, L) := by
  have hbt := brk_le tx tn
  intro d
  induction d with
  | zero =>
    intro i fuel X hd hi hf x1 x2 x3 hn
    obtain ⟨f, rfl⟩ : ∃ f, fuel = f + 1 := ⟨fuel - 1, by omega⟩
    have ei : i = tn := by omega
    show f_D_lineBegin_10 tn tx (f_D_lineBegin_go tn tx f) I A M MB L X Y = _
    unfold f_D_lineBegin_10
    rw [x3, if_pos ((pn_le (by omega) (by omega)).mpr (by omega))]
    by_cases q : okLn k2 (brk tx tn) = true
    · obtain ⟨n, h1, h2⟩ := okLn_nat (by omega) q
      have := hn n h2 h1
      rw [ei] at this
      omega
    · rw [if_neg q]
  | succ d ih =>
    intro i fuel X hd hi hf x1 x2 x3 hn
    obtain ⟨f, rfl⟩ : ∃ f, fuel = f + 1 := ⟨fuel - 1, by omega⟩
    have hbi := brk_le tx i
    have hmo : brk tx (i + 1) ≤ brk tx tn := by
      have := brk_mono tx (i + 1) (tn - (i + 1))
      rw [show i + 1 + (tn - (i + 1)) = tn by omega] at this
      exact this
    show f_D_lineBegin_10 tn tx (f_D_lineBegin_go tn tx f) I A M MB L X Y = _
    unfold f_D_lineBegin_10 f_D_lineBegin_42
    rw [x3, if_neg (fun z => by have := (pn_le (a := tn) (b := i) (by omega) (by omega)).mp z; omega), if_pos ((pn_inb (by omega)).mpr (by omega)), pn_nat (show i < 2147483648 by omega), x2, x1, pn_succ, pn_succ]
    have lu : ∀ n, k2 = Int32.ofNat n → n ≤ brk tx tn → lst tx k2.toNatClampNeg (d + 1) i = lst tx n d (i + 1) := fun n h1 h2 => by
      have := hn n h1 h2
      rw [h1, pn_nat (show n < 2147483648 by omega)]
      simp only [lst]
      rw [if_neg (by omega)]
    by_cases q : tx i = 10
    · have hb1 : brk tx (i + 1) = brk tx i + 1 := by simp only [brk]; rw [if_pos q]
      rw [if_pos q]
      by_cases q2 : Int32.ofNat (brk tx i + 1) = k2
      · rw [if_pos q2]
        have okl : okLn k2 (brk tx tn) = true := by
          unfold okLn
          rw [← q2, decide_eq_false (pn_nneg (show brk tx i + 1 < 2147483648 by omega)), decide_eq_true ((pn_lt (show brk tx i + 1 < 2147483648 by omega) (by omega)).mpr (by omega))]; rfl
        rw [if_pos okl, lu (brk tx i + 1) q2.symm (by omega)]
        have el : lst tx (brk tx i + 1) d (i + 1) = i + 1 := by
          cases d with
          | zero => rfl
          | succ d => simp only [lst]; rw [if_pos (by omega)]
        rw [el]
      · rw [if_neg q2]
        rw [ih (i + 1) f _ (by omega) (by omega) (by omega) (by rw [upd_ne _ _ (by decide), upd_ne _ _ (by decide)]; exact x1) (by rw [upd_ne _ _ (by decide), upd_self, hb1]) (by rw [upd_self, upd_ne _ _ (by decide), x3, pn_succ]) (fun n h1 h2 => ?_)]
        · by_cases okl : okLn k2 (brk tx tn) = true
          · obtain ⟨n, h1, h2⟩ := okLn_nat (by omega) okl
            rw [if_pos okl, if_pos okl, lu n h2 h1, h2, pn_nat (show n < 2147483648 by omega)]
          · rw [if_neg okl, if_neg okl]
        · have := hn n h1 h2
          rw [hb1]
          rcases Nat.lt_or_ge (brk tx i + 1) n with z | z
          · exact z
          · exact absurd (by rw [h1, show n = brk tx i + 1 by omega]) q2
    · have hb1 : brk tx (i + 1) = brk tx i := by simp only [brk]; rw [if_neg q]; rfl
      rw [if_neg q]
      rw [ih (i + 1) f _ (by omega) (by omega) (by omega) (by rw [upd_ne _ _ (by decide)]; exact x1) (by rw [upd_ne _ _ (by decide), hb1]; exact x2) (by rw [upd_self]) (fun n h1 h2 => by rw [hb1]; exact hn n h1 h2)]
      by_cases okl : okLn k2 (brk tx tn) = true
      · obtain ⟨n, h1, h2⟩ := okLn_nat (by omega) okl
        rw [if_pos okl, if_pos okl, lu n h2 h1, h2, pn_nat (show n < 2147483648 by omega)]
      · rw [if_neg okl, if_neg okl]
theorem C_lb {tn : Nat} {tx : Nat → Int32} {I : MI} {A : MA} {M : MI} {MB : MA} {L : ML} (ht : tn ≤ 160) (k2 : Int32) : f_D_lineBegin tn tx I A M MB L k2 = if okLn k2 (brk tx tn) = true then some (0, Int32.ofNat (l_beg tn tx k2), I, A, M, MB, L) else some (2, 0, I, A, M, MB, L) := by
  have fu := wk_FUEL_big
  unfold f_D_lineBegin f_D_lineBegin_e l_beg
  by_cases q : k2 = 0
  · have okl : okLn k2 (brk tx tn) = true := by
      have := brk_le tx tn
      have e0 : (0 : Int32) = Int32.ofNat 0 := rfl
      unfold okLn
      rw [q, e0, decide_eq_false (show ¬ Int32.ofNat 0 < Int32.ofNat 0 by decide), decide_eq_true ((pn_lt (show 0 < 2147483648 by omega) (by omega)).mpr (by omega))]; rfl
    rw [if_pos q, if_pos okl, q]
    have el : lst tx (0 : Int32).toNatClampNeg tn 0 = 0 := by
      rw [show (0 : Int32).toNatClampNeg = 0 by decide]
      cases tn with
      | zero => rfl
      | succ d => simp only [lst]; exact if_pos (Nat.zero_le _)
    rw [el]; rfl
  · rw [if_neg q]
    refine C_lb_go ht tn 0 wk_FUEL _ (by omega) (Nat.zero_le _) (by omega) ?_ ?_ (by rw [upd_self]; rfl) (fun n h1 h2 => ?_)
    · rw [upd_ne _ _ (by decide), upd_ne _ _ (by decide), upd_self]
    · rw [upd_ne _ _ (by decide), upd_self]; rfl
    · show 0 < n
      rcases Nat.eq_zero_or_pos n with z | z
      · exact absurd (by rw [h1, z]; rfl) q
      · exact z
theorem C_ls_go {tn s : Nat} {tx : Nat → Int32} {I : MI} {A : MA} {M : MI} {MB : MA} {L : ML} {Y : Nat → Int64} (ht : tn ≤ 160) : ∀ (d j fuel : Nat) (X : Nat → Int32), tn - j = d → j ≤ tn → s ≤ j → d < fuel → X 2 = Int32.ofNat (j - s) → X 3 = Int32.ofNat j → f_D_lineSize_go tn tx fuel 4 I A M MB L X Y = some (Int32.ofNat (eol tx d j - s), I, A, M, MB, L) := by
  intro d
  induction d with
  | zero =>
    intro j fuel X hd hj hsj hf x2 x3
    obtain ⟨f, rfl⟩ : ∃ f, fuel = f + 1 := ⟨fuel - 1, by omega⟩
    show f_D_lineSize_4 tn tx (f_D_lineSize_go tn tx f) I A M MB L X Y = _
    unfold f_D_lineSize_4 f_D_lineSize_33
    rw [x3, if_pos ((pn_le (by omega) (by omega)).mpr (by omega)), x2]; rfl
  | succ d ih =>
    intro j fuel X hd hj hsj hf x2 x3
    obtain ⟨f, rfl⟩ : ∃ f, fuel = f + 1 := ⟨fuel - 1, by omega⟩
    show f_D_lineSize_4 tn tx (f_D_lineSize_go tn tx f) I A M MB L X Y = _
    unfold f_D_lineSize_4 f_D_lineSize_33
    rw [x3, if_neg (fun z => by have := (pn_le (a := tn) (b := j) (by omega) (by omega)).mp z; omega), if_pos ((pn_inb (by omega)).mpr (by omega)), pn_nat (show j < 2147483648 by omega), x2]
    simp only [eol]
    by_cases q : tx j = 10
    · rw [if_pos q, if_pos q]
    · rw [if_neg q, if_neg q]
      refine ih (j + 1) f _ (by omega) (by omega) (by omega) (by omega) ?_ ?_
      · rw [upd_ne _ _ (by decide), upd_self, pn_succ, show j - s + 1 = j + 1 - s by omega]
      · rw [upd_self, pn_succ]
theorem C_ls {tn s : Nat} {tx : Nat → Int32} {I : MI} {A : MA} {M : MI} {MB : MA} {L : ML} (ht : tn ≤ 160) (hs : s ≤ tn) : f_D_lineSize tn tx I A M MB L (Int32.ofNat s) = some (Int32.ofNat (eol tx (tn - s) s - s), I, A, M, MB, L) := by
  have fu := wk_FUEL_big
  unfold f_D_lineSize f_D_lineSize_e
  refine C_ls_go ht (tn - s) s wk_FUEL _ rfl hs (Nat.le_refl _) (by omega) ?_ (upd_self _ _ _)
  rw [upd_ne _ _ (by decide), upd_self, Nat.sub_self]; rfl
theorem C_line {tn : Nat} {tx : Nat → Int32} {I : MI} {A : MA} {M : MI} {MB : MA} {L : ML} (ht : tn ≤ 160) (k1 k2 : Int32) : f_D_line tn tx I A M MB L k1 k2 = some (l_tag tn tx k1 k2, if l_tag tn tx k1 k2 = 0 then l_val tn tx k1 k2 else 0, I, A, M, MB, L) := by
  have hb := brk_le tx tn
  have h20 : ¬ (2 : Nat) = 0 := by decide
  have h30 : ¬ (3 : Nat) = 0 := by decide
  unfold f_D_line l_tag l_val
  by_cases q0 : k1 = 0
  · simp only [if_pos q0, C_brk ht (Nat.le_refl tn), Option.bind_some, pn_succ, if_true]
  simp only [if_neg q0]
  by_cases q1 : k1 = 1
  · simp only [if_pos q1, C_place, Option.bind_some]
    have eo : okP2 k2 tn = okPl k2 tn := rfl
    rw [eo]
    by_cases q : okPl k2 tn = true
    · obtain ⟨n, h1, h2⟩ := okPl_nat ht q
      simp only [if_pos q, if_true]
      rw [h2, C_brk ht h1, pn_nat (show n < 2147483648 by omega)]
      simp only [Option.bind_some]
    · simp only [if_neg q, if_neg h20, if_true]
  simp only [if_neg q1]
  by_cases q2 : k1 = 2
  · simp only [if_pos q2, C_lb ht]
    by_cases q : okLn k2 (brk tx tn) = true
    · simp only [if_pos q, Option.bind_some, if_true]
    · simp only [if_neg q, Option.bind_some, if_neg h20, if_true]
  simp only [if_neg q2]
  by_cases q3 : k1 = 3
  · simp only [if_pos q3, C_lb ht]
    by_cases q : okLn k2 (brk tx tn) = true
    · have hl := lst_le tx k2.toNatClampNeg tn 0
      simp only [if_pos q, Option.bind_some, if_true]
      rw [C_ls ht (show l_beg tn tx k2 ≤ tn by unfold l_beg; omega)]
      simp only [Option.bind_some]
    · simp only [if_neg q, Option.bind_some, if_neg h20, if_true]
  simp only [if_neg q3, if_neg h30]
-- 74.kcm
-- own rows: the class's methods over its whole world
/-- it returns an int -/
def KRetI (l : Launch) (x : FX) (y : MethodName) (wl : List Cond) (rm : Room) (av : List Value) (k : CK) (e : ES) (mc ms : Nat) (r : Int32) (e' : ES) : Prop := ∀ sz : Nat, Met l y wl rm (va_Pc av (kPre x.D sz (KW x k e) (kT x))) (va_Qi (fun (r9 : Int32) (k' : CK) => r9 = r ∧ CRel e' k') (fun k' t => va_P x.D vwCl (KW x k' e') t.heap ∧ va_D (va_A (KW x k e) sz) (KW x k' e')) (va_A (KW x k e) sz)) mc ms (va_A (KW x k e) sz)
def KRetV (l : Launch) (x : FX) (y : MethodName) (wl : List Cond) (rm : Room) (av : List Value) (k : CK) (e : ES) (mc ms : Nat) (e' : ES) : Prop := ∀ sz : Nat, Met l y wl rm (va_Pc av (kPre x.D sz (KW x k e) (kT x))) (va_Qv (fun (k' : CK) => CRel e' k') (fun k' t => va_P x.D vwCl (KW x k' e') t.heap ∧ va_D (va_A (KW x k e) sz) (KW x k' e')) (va_A (KW x k e) sz)) mc ms (va_A (KW x k e) sz)
def KThr (l : Launch) (x : FX) (y : MethodName) (wl : List Cond) (rm : Room) (av : List Value) (k : CK) (e : ES) (mc ms : Nat) (E : String) (e' : ES) : Prop := ∃ k' : CK, CRel e' k' ∧ ∀ sz : Nat, th_Met l y wl rm (va_Pc av (kPreT x.D sz (KW x k e) (kT x))) (th_Qw E (fun t => va_P x.D vwCl (KW x k' e') t.heap ∧ va_D (va_A (KW x k e) sz) (KW x k' e')) (va_A (KW x k e) sz)) mc ms (va_A (KW x k e) sz)
theorem KRetI.of {l : Launch} {x : FX} {y : MethodName} {wl : List Cond} {rm : Room} {av : List Value} {k : CK} {e : ES} {mc ms : Nat} {r : Int32} {e' : ES} {k' : CK} (hr : CRel e' k') (hM : ∀ sz, Met l y wl rm (va_Pc av (kPre x.D sz (KW x k e) (kT x))) (va_Qi (fun (r9 : Int32) (_ : Unit) => r9 = r) (fun _ t => va_P x.D vwCl (KW x k' e') t.heap ∧ va_D (va_A (KW x k e) sz) (KW x k' e')) (va_A (KW x k e) sz)) mc ms (va_A (KW x k e) sz)) : KRetI l x y wl rm av k e mc ms r e' := fun sz =>
  (hM sz).conseq (fun _ _ h => h) (fun _ _ _ _ _ h => by obtain ⟨⟨r9, _, h1, h2, h3⟩, h4⟩ := h; exact ⟨⟨r9, k', h1, ⟨h2, hr⟩, h3⟩, h4⟩) (fun _ h => h)
theorem KRetV.of {l : Launch} {x : FX} {y : MethodName} {wl : List Cond} {rm : Room} {av : List Value} {k : CK} {e : ES} {mc ms : Nat} {e' : ES} {k' : CK} (hr : CRel e' k') (hM : ∀ sz, Met l y wl rm (va_Pc av (kPre x.D sz (KW x k e) (kT x))) (va_Qv (fun (u : Unit) => u = u) (fun _ t => va_P x.D vwCl (KW x k' e') t.heap ∧ va_D (va_A (KW x k e) sz) (KW x k' e')) (va_A (KW x k e) sz)) mc ms (va_A (KW x k e) sz)) : KRetV l x y wl rm av k e mc ms e' := fun sz =>
  (hM sz).conseq (fun _ _ h => h) (fun _ _ _ _ _ h => by obtain ⟨⟨_, h1, h2, h3⟩, h4⟩ := h; exact ⟨⟨k', h1, hr, h3⟩, h4⟩) (fun _ h => h)
/-- the world after a call that works in the draft, the pattern and the text -/
theorem dw_after (x : FX) (k : CK) {e e' : ES} (hp : e.p < e.n) (h : SameT e' e) (I' : MI) (A' : MA) (M' : MI) (MB' : MA) (L' : ML) : (KW x (k.dw I' A' M' MB' L') e').Perm (dw_W x.h x.q x.gD k.hp k.qp x.gA (k.ta e.p) x.gc (e.tn e.p) (e.tx e.p) I' A' M' MB' L' ++ kdwR x k e) := by
  rw [KW_same x _ h]
  exact perm_dw x (k.dw I' A' M' MB' L') hp
theorem SameT.rf (e : ES) : SameT e e := ⟨rfl, rfl, rfl, rfl, rfl, rfl, rfl⟩
theorem SameT.typ (e : ES) (c : Int32) : SameT (e_typ e c) e := by
  unfold e_typ
  by_cases q : okCh c = true ∧ e.sn ≠ 24
  · rw [if_pos q]; exact ⟨rfl, rfl, rfl, rfl, rfl, rfl, rfl⟩
  · rw [if_neg q]; exact SameT.rf e
theorem K_type (l : Launch) (x : FX) {k : CK} {e : ES} (h : CRel e k) (w : EWf e) (c : Int32) : KRetI l x y_D_type w_D_type ({ frames := 0, cells := 0, slots := 0, locals := 0 }) [.ref x.h, .int c] k e 0 0 (g_flag (decide (okCh c = true ∧ e.sn ≠ 24))) (e_typ e c) := by
  obtain ⟨I', A', e0, hr⟩ := C_type h w (e.tn e.p) (e.tx e.p) c
  exact KRetI.of hr (fun sz => Met.liftI (fun _ => KW x (k.dw I' A' k.M k.MB k.L) (e_typ e c)) (cm_D_type l x.dC x.dI x.h x.q x.gD k.hp k.qp x.gA (k.ta e.p) x.gc (e.tn e.p) (e.tx e.p) sz k.I k.A k.M k.MB k.L c _ _ _ _ _ _ e0) (fun _ _ z => ⟨z.1, z.2.2⟩) (perm_dw x k w.pb) (fun _ => dw_after x k w.pb (SameT.typ e c) _ _ _ _ _) (tin_dw x k e))
theorem K_wipe (l : Launch) (x : FX) {k : CK} {e : ES} (h : CRel e k) (w : EWf e) : KRetI l x y_D_wipe w_D_wipe ({ frames := 0, cells := 0, slots := 0, locals := 0 }) [.ref x.h] k e 0 0 (Int32.ofNat e.sn) (e_sn e 0) := by
  obtain ⟨e0, hr⟩ := C_wipe h (e.tn e.p) (e.tx e.p)
  exact KRetI.of hr (fun sz => Met.liftI (fun _ => KW x (k.dw (upd k.I 1 0) k.A k.M k.MB k.L) (e_sn e 0)) (cm_D_wipe l x.dC x.dI x.h x.q x.gD k.hp k.qp x.gA (k.ta e.p) x.gc (e.tn e.p) (e.tx e.p) sz k.I k.A k.M k.MB k.L _ _ _ _ _ _ e0) (fun _ _ z => ⟨z.1, z.2.2⟩) (perm_dw x k w.pb) (fun _ => dw_after x k w.pb ⟨rfl, rfl, rfl, rfl, rfl, rfl, rfl⟩ _ _ _ _ _) (tin_dw x k e))
theorem K_fault (l : Launch) (x : FX) {k : CK} {e : ES} (h : CRel e k) (w : EWf e) : KRetI l x y_D_fault w_D_fault ({ frames := 0, cells := 0, slots := 0, locals := 0 }) [.ref x.h] k e 0 0 (mkI e.fl) e :=
  KRetI.of h.self (fun sz => Met.liftI (fun _ => KW x (k.dw k.I k.A k.M k.MB k.L) e) (cm_D_fault l x.dC x.dI x.h x.q x.gD k.hp k.qp x.gA (k.ta e.p) x.gc (e.tn e.p) (e.tx e.p) sz k.I k.A k.M k.MB k.L _ _ _ _ _ _ (C_fault h _ _)) (fun _ _ z => ⟨z.1, z.2.2⟩) (perm_dw x k w.pb) (fun _ => dw_after x k w.pb (SameT.rf e) _ _ _ _ _) (tin_dw x k e))
theorem K_length (l : Launch) (x : FX) {k : CK} {e : ES} (h : CRel e k) (w : EWf e) : KRetI l x y_D_length w_D_length ({ frames := 0, cells := 0, slots := 0, locals := 0 }) [.ref x.h] k e 0 0 (Int32.ofNat (e.tn e.p)) e :=
  KRetI.of h.self (fun sz => Met.liftI (fun _ => KW x (k.dw k.I k.A k.M k.MB k.L) e) (cm_D_length l x.dC x.dI x.h x.q x.gD k.hp k.qp x.gA (k.ta e.p) x.gc (e.tn e.p) (e.tx e.p) sz k.I k.A k.M k.MB k.L _ _ _ _ _ _ rfl) (fun _ _ z => ⟨z.1, z.2.2⟩) (perm_dw x k w.pb) (fun _ => dw_after x k w.pb (SameT.rf e) _ _ _ _ _) (tin_dw x k e))
theorem K_selS (l : Launch) (x : FX) {k : CK} {e : ES} (h : CRel e k) (w : EWf e) (sz : Nat) : Met l y_D_selectionStart w_D_selectionStart ({ frames := 1, cells := 0, slots := 0, locals := 13 }) (va_Pc [.ref x.h] (kPre x.D sz (KW x k e) (kT x))) (va_Qi (fun (r9 : Int32) (_ : Unit) => r9 = Int32.ofNat (e_lo e)) (fun _ t => va_P x.D vwCl (KW x k e) t.heap ∧ va_D (va_A (KW x k e) sz) (KW x k e)) (va_A (KW x k e) sz)) 0 0 (va_A (KW x k e) sz) :=
  Met.liftI (fun _ => KW x (k.dw k.I k.A k.M k.MB k.L) e) (cm_D_selectionStart l x.dC x.dI x.h x.q x.gD k.hp k.qp x.gA (k.ta e.p) x.gc (e.tn e.p) (e.tx e.p) sz k.I k.A k.M k.MB k.L _ _ _ _ _ _ (C_selS h w _ _)) (fun _ _ z => ⟨z.1, z.2.2⟩) (perm_dw x k w.pb) (fun _ => dw_after x k w.pb (SameT.rf e) _ _ _ _ _) (tin_dw x k e)
theorem K_selE (l : Launch) (x : FX) {k : CK} {e : ES} (h : CRel e k) (w : EWf e) (sz : Nat) : Met l y_D_selectionEnd w_D_selectionEnd ({ frames := 1, cells := 0, slots := 0, locals := 13 }) (va_Pc [.ref x.h] (kPre x.D sz (KW x k e) (kT x))) (va_Qi (fun (r9 : Int32) (_ : Unit) => r9 = Int32.ofNat (e_hi e)) (fun _ t => va_P x.D vwCl (KW x k e) t.heap ∧ va_D (va_A (KW x k e) sz) (KW x k e)) (va_A (KW x k e) sz)) 0 0 (va_A (KW x k e) sz) :=
  Met.liftI (fun _ => KW x (k.dw k.I k.A k.M k.MB k.L) e) (cm_D_selectionEnd l x.dC x.dI x.h x.q x.gD k.hp k.qp x.gA (k.ta e.p) x.gc (e.tn e.p) (e.tx e.p) sz k.I k.A k.M k.MB k.L _ _ _ _ _ _ (C_selE h w _ _)) (fun _ _ z => ⟨z.1, z.2.2⟩) (perm_dw x k w.pb) (fun _ => dw_after x k w.pb (SameT.rf e) _ _ _ _ _) (tin_dw x k e)
theorem K_coll (l : Launch) (x : FX) {k : CK} {e : ES} (h : CRel e k) (w : EWf e) (hh : e.has = true) {ms : List (Nat × Nat)} (hl : Ms (e_R e) (e.tn e.p) 0 ms) : ∃ A' M', CRel e (k.dw k.I A' M' k.MB k.L) ∧ msA A' 0 ms ∧ ∀ sz : Nat, Met l y_D_collectMatches w_D_collectMatches ({ frames := 5, cells := 0, slots := 0, locals := 127 }) (va_Pc [.ref x.h] (kPre x.D sz (KW x k e) (kT x))) (va_Qi (fun (r9 : Int32) (_ : Unit) => r9 = Int32.ofNat ms.length) (fun _ t => va_P x.D vwCl (KW x (k.dw k.I A' M' k.MB k.L) e) t.heap ∧ va_D (va_A (KW x k e) sz) (KW x (k.dw k.I A' M' k.MB k.L) e)) (va_A (KW x k e) sz)) 0 0 (va_A (KW x k e) sz) := by
  obtain ⟨A', M', e0, h1, h2, h3⟩ := C_coll (I := k.I) (A := k.A) (w.tt _ w.pb) (h.pm hh _ _ (w.tt _ w.pb)) hl
  refine ⟨A', M', ?_, h1, fun sz => Met.liftI (fun _ => KW x (k.dw k.I A' M' k.MB k.L) e) (cm_D_collectMatches l x.dC x.dI x.h x.q x.gD k.hp k.qp x.gA (k.ta e.p) x.gc (e.tn e.p) (e.tx e.p) sz k.I k.A k.M k.MB k.L _ _ _ _ _ _ e0) (fun _ _ z => ⟨z.1, z.2.2⟩) (perm_dw x k w.pb) (fun _ => dw_after x k w.pb (SameT.rf e) _ _ _ _ _) (tin_dw x k e)⟩
  refine ⟨h.s1, fun j hj => ?_, h.hn, h.hp, h.hc, h.hm, h.hh, h.hf, fun z tn tx hT => h3 _ _ _ (h.pm z tn tx hT)⟩
  show A' 0 j = _
  rw [h2 0 (by decide) (by decide)]; exact h.s2 j hj
theorem K_size (l : Launch) (x : FX) {k : CK} {e : ES} (h : CRel e k) (w : EWf e) {ms : List (Nat × Nat)} (hl : Ms (e_R e) (e.tn e.p) 0 ms) (hA : msA k.A 0 ms) (sz : Nat) : Met l y_D_sizeWithSlipIn w_D_sizeWithSlipIn ({ frames := 0, cells := 0, slots := 0, locals := 0 }) (va_Pc [.ref x.h, .int (Int32.ofNat ms.length)] (kPre x.D sz (KW x k e) (kT x))) (va_Qi (fun (r9 : Int32) (_ : Unit) => r9 = Int32.ofNat (rp_len e.sn (e.tn e.p) 0 ms)) (fun _ t => va_P x.D vwCl (KW x k e) t.heap ∧ va_D (va_A (KW x k e) sz) (KW x k e)) (va_A (KW x k e) sz)) 0 0 (va_A (KW x k e) sz) :=
  Met.liftI (fun _ => KW x (k.dw k.I k.A k.M k.MB k.L) e) (cm_D_sizeWithSlipIn l x.dC x.dI x.h x.q x.gD k.hp k.qp x.gA (k.ta e.p) x.gc (e.tn e.p) (e.tx e.p) sz k.I k.A k.M k.MB k.L _ _ _ _ _ _ _ (C_size (w.tt _ w.pb).nb hA hl h.s1)) (fun _ _ z => ⟨z.1, z.2.2⟩) (perm_dw x k w.pb) (fun _ => dw_after x k w.pb (SameT.rf e) _ _ _ _ _) (tin_dw x k e)
theorem K_figure (l : Launch) (x : FX) {k : CK} {e : ES} (h : CRel e k) (w : EWf e) {k1 : Int32} (hk : ¬ (k1 < 0 ∨ ¬ k1 ≤ 4)) : KRetI l x y_D_figure w_D_figure ({ frames := 0, cells := 0, slots := 0, locals := 0 }) [.ref x.h, .int k1] k e 0 0 (e_fig e k1) e :=
  KRetI.of h.self (fun sz => Met.liftI (fun _ => KW x (k.dw k.I k.A k.M k.MB k.L) e) (cm_D_figure l x.dC x.dI x.h x.q x.gD k.hp k.qp x.gA (k.ta e.p) x.gc (e.tn e.p) (e.tx e.p) sz k.I k.A k.M k.MB k.L k1 _ _ _ _ _ _ ((C_figure h _ _ k1).trans (if_neg hk))) (fun _ _ z => ⟨z.1, z.2.2⟩) (perm_dw x k w.pb) (fun _ => dw_after x k w.pb (SameT.rf e) _ _ _ _ _) (tin_dw x k e))
theorem Kt_figure (l : Launch) (hfl : l.flags = flags0) (x : FX) {k : CK} {e : ES} (h : CRel e k) (w : EWf e) {k1 : Int32} (hk : k1 < 0 ∨ ¬ k1 ≤ 4) : KThr l x y_D_figure w_D_figure ({ frames := 6, cells := 1, slots := 6, locals := 81 }) [.ref x.h, .int k1] k e 1 6 "java/lang/IllegalArgumentException" e :=
  ⟨k.dw k.I k.A k.M k.MB k.L, h.self, fun sz => th_Met.lift (ct_D_figure_3 l hfl x.dC x.dI x.h x.q x.gD k.hp k.qp x.gA (k.ta e.p) x.gc (e.tn e.p) (e.tx e.p) sz k.I k.A k.M k.MB k.L k1 _ _ _ _ _ _ ((C_figure h _ _ k1).trans (if_pos hk))) (fun _ z => ⟨z.1, z.2.2⟩) (perm_dw x k w.pb) (dw_after x k w.pb (SameT.rf e) _ _ _ _ _) (tin_dw x k e)⟩
theorem K_at (l : Launch) (x : FX) {k : CK} {e : ES} (h : CRel e k) (w : EWf e) {k1 : Int32} {p : Nat} (hp : p < e.tn e.p) (ep : k1 = Int32.ofNat p) : KRetI l x y_D_at w_D_at ({ frames := 0, cells := 0, slots := 0, locals := 0 }) [.ref x.h, .int k1] k e 0 0 (e.tx e.p p) e :=
  KRetI.of h.self (fun sz => Met.liftI (fun _ => KW x (k.dw k.I k.A k.M k.MB k.L) e) (cm_D_at l x.dC x.dI x.h x.q x.gD k.hp k.qp x.gA (k.ta e.p) x.gc (e.tn e.p) (e.tx e.p) sz k.I k.A k.M k.MB k.L k1 _ _ _ _ _ _ ((C_at w _ _ _ _ _ k1).2 p hp ep)) (fun _ _ z => ⟨z.1, z.2.2⟩) (perm_dw x k w.pb) (fun _ => dw_after x k w.pb (SameT.rf e) _ _ _ _ _) (tin_dw x k e))
theorem Kt_at (l : Launch) (hfl : l.flags = flags0) (x : FX) {k : CK} {e : ES} (h : CRel e k) (w : EWf e) {k1 : Int32} (hk : k1 < 0 ∨ ¬ k1 < Int32.ofNat (e.tn e.p)) : KThr l x y_D_at w_D_at ({ frames := 6, cells := 1, slots := 6, locals := 81 }) [.ref x.h, .int k1] k e 1 6 "java/lang/IndexOutOfBoundsException" e :=
  ⟨k.dw k.I k.A k.M k.MB k.L, h.self, fun sz => th_Met.lift (ct_D_at_2 l hfl x.dC x.dI x.h x.q x.gD k.hp k.qp x.gA (k.ta e.p) x.gc (e.tn e.p) (e.tx e.p) sz k.I k.A k.M k.MB k.L k1 _ _ _ _ _ _ ((C_at w _ _ _ _ _ k1).1 hk)) (fun _ z => ⟨z.1, z.2.2⟩) (perm_dw x k w.pb) (dw_after x k w.pb (SameT.rf e) _ _ _ _ _) (tin_dw x k e)⟩
theorem K_line (l : Launch) (x : FX) {k : CK} {e : ES} (h : CRel e k) (w : EWf e) {k1 k2 : Int32} (ht : l_tag (e.tn e.p) (e.tx e.p) k1 k2 = 0) : KRetI l x y_D_line w_D_line ({ frames := 1, cells := 0, slots := 0, locals := 23 }) [.ref x.h, .int k1, .int k2] k e 0 0 (l_val (e.tn e.p) (e.tx e.p) k1 k2) e := by
  have e0 := C_line (tx := e.tx e.p) (I := k.I) (A := k.A) (M := k.M) (MB := k.MB) (L := k.L) (w.tt _ w.pb).nb k1 k2
  rw [ht, if_pos rfl] at e0
  exact KRetI.of h.self (fun sz => Met.liftI (fun _ => KW x (k.dw k.I k.A k.M k.MB k.L) e) (cm_D_line l x.dC x.dI x.h x.q x.gD k.hp k.qp x.gA (k.ta e.p) x.gc (e.tn e.p) (e.tx e.p) sz k.I k.A k.M k.MB k.L k1 k2 _ _ _ _ _ _ e0) (fun _ _ z => ⟨z.1, z.2.2⟩) (perm_dw x k w.pb) (fun _ => dw_after x k w.pb (SameT.rf e) _ _ _ _ _) (tin_dw x k e))
theorem Kt_line2 (l : Launch) (hfl : l.flags = flags0) (x : FX) {k : CK} {e : ES} (h : CRel e k) (w : EWf e) {k1 k2 : Int32} (ht : l_tag (e.tn e.p) (e.tx e.p) k1 k2 = 2) : KThr l x y_D_line w_D_line ({ frames := 7, cells := 1, slots := 6, locals := 104 }) [.ref x.h, .int k1, .int k2] k e 1 6 "java/lang/IndexOutOfBoundsException" e := by
  have e0 := C_line (tx := e.tx e.p) (I := k.I) (A := k.A) (M := k.M) (MB := k.MB) (L := k.L) (w.tt _ w.pb).nb k1 k2
  rw [ht] at e0
  exact ⟨k.dw k.I k.A k.M k.MB k.L, h.self, fun sz => th_Met.lift (ct_D_line_2 l hfl x.dC x.dI x.h x.q x.gD k.hp k.qp x.gA (k.ta e.p) x.gc (e.tn e.p) (e.tx e.p) sz k.I k.A k.M k.MB k.L k1 k2 _ _ _ _ _ _ e0) (fun _ z => ⟨z.1, z.2.2⟩) (perm_dw x k w.pb) (dw_after x k w.pb (SameT.rf e) _ _ _ _ _) (tin_dw x k e)⟩
theorem Kt_line3 (l : Launch) (hfl : l.flags = flags0) (x : FX) {k : CK} {e : ES} (h : CRel e k) (w : EWf e) {k1 k2 : Int32} (ht : l_tag (e.tn e.p) (e.tx e.p) k1 k2 = 3) : KThr l x y_D_line w_D_line ({ frames := 7, cells := 1, slots := 6, locals := 104 }) [.ref x.h, .int k1, .int k2] k e 1 6 "java/lang/IllegalArgumentException" e := by
  have e0 := C_line (tx := e.tx e.p) (I := k.I) (A := k.A) (M := k.M) (MB := k.MB) (L := k.L) (w.tt _ w.pb).nb k1 k2
  rw [ht] at e0
  exact ⟨k.dw k.I k.A k.M k.MB k.L, h.self, fun sz => th_Met.lift (ct_D_line_3 l hfl x.dC x.dI x.h x.q x.gD k.hp k.qp x.gA (k.ta e.p) x.gc (e.tn e.p) (e.tx e.p) sz k.I k.A k.M k.MB k.L k1 k2 _ _ _ _ _ _ e0) (fun _ z => ⟨z.1, z.2.2⟩) (perm_dw x k w.pb) (dw_after x k w.pb (SameT.rf e) _ _ _ _ _) (tin_dw x k e)⟩
theorem K_go (l : Launch) (x : FX) {k : CK} {e : ES} (h : CRel e k) (w : EWf e) {k1 k2 : Int32} {p : Nat} (hp : p ≤ e.tn e.p) (ep : k1 = Int32.ofNat p) : KRetV l x y_D_go w_D_go ({ frames := 1, cells := 0, slots := 0, locals := 21 }) [.ref x.h, .int k1, .int k2] k e 0 0 (e_go e p (decide (k2 ≠ 0))) := by
  obtain ⟨I', e0, hr⟩ := (C_go h w (e.tx e.p) k1 k2).2 p hp ep
  exact KRetV.of hr (fun sz => Met.liftV (fun _ => KW x (k.dw I' k.A k.M k.MB k.L) (e_go e p (decide (k2 ≠ 0)))) (cm_D_go l x.dC x.dI x.h x.q x.gD k.hp k.qp x.gA (k.ta e.p) x.gc (e.tn e.p) (e.tx e.p) sz k.I k.A k.M k.MB k.L k1 k2 _ _ _ _ _ _ e0) (fun _ _ z => ⟨z.1, z.2.2⟩) (perm_dw x k w.pb) (fun _ => dw_after x k w.pb ⟨rfl, rfl, rfl, rfl, rfl, rfl, rfl⟩ _ _ _ _ _) (tin_dw x k e))
theorem Kt_go (l : Launch) (hfl : l.flags = flags0) (x : FX) {k : CK} {e : ES} (h : CRel e k) (w : EWf e) {k1 k2 : Int32} (hk : ¬ okPl k1 (e.tn e.p) = true) : KThr l x y_D_go w_D_go ({ frames := 7, cells := 1, slots := 6, locals := 102 }) [.ref x.h, .int k1, .int k2] k e 1 6 "java/lang/IndexOutOfBoundsException" e :=
  ⟨k.dw k.I k.A k.M k.MB k.L, h.self, fun sz => th_Met.lift (ct_D_go_2 l hfl x.dC x.dI x.h x.q x.gD k.hp k.qp x.gA (k.ta e.p) x.gc (e.tn e.p) (e.tx e.p) sz k.I k.A k.M k.MB k.L k1 k2 _ _ _ _ _ _ ((C_go h w (e.tx e.p) k1 k2).1 hk)) (fun _ z => ⟨z.1, z.2.2⟩) (perm_dw x k w.pb) (dw_after x k w.pb (SameT.rf e) _ _ _ _ _) (tin_dw x k e)⟩
theorem Kt_find (l : Launch) (hfl : l.flags = flags0) (x : FX) {k : CK} {e : ES} (h : CRel e k) (w : EWf e) (k1 : Int32) : (e.has = false → KThr l x y_D_find w_D_find ({ frames := 7, cells := 1, slots := 6, locals := 127 }) [.ref x.h, .int k1] k e 1 6 "java/lang/IllegalStateException" e) ∧ (e.has = true → ¬ okPl k1 (e.tn e.p) = true → KThr l x y_D_find w_D_find ({ frames := 7, cells := 1, slots := 6, locals := 127 }) [.ref x.h, .int k1] k e 1 6 "java/lang/IndexOutOfBoundsException" e) ∧
    (e.has = true → ∀ p, p ≤ e.tn e.p → k1 = Int32.ofNat p → (NotFound (e_R e) (e.tn e.p) p ∧ KThr l x y_D_find w_D_find ({ frames := 7, cells := 1, slots := 6, locals := 127 }) [.ref x.h, .int k1] k e 1 6 "java/util/NoSuchElementException" e) ∨ (∃ a b, Found (e_R e) (e.tn e.p) p a b ∧ KRetI l x y_D_find w_D_find ({ frames := 5, cells := 0, slots := 0, locals := 127 }) [.ref x.h, .int k1] k e 0 0 (Int32.ofNat a) (e_fnd e a b))) := by
  obtain ⟨c1, c2, c3⟩ := C_find h w k1
  refine ⟨fun hh => ⟨k.dw k.I k.A k.M k.MB k.L, h.self, fun sz => th_Met.lift (ct_D_find_1 l hfl x.dC x.dI x.h x.q x.gD k.hp k.qp x.gA (k.ta e.p) x.gc (e.tn e.p) (e.tx e.p) sz k.I k.A k.M k.MB k.L k1 _ _ _ _ _ _ (c1 hh)) (fun _ z => ⟨z.1, z.2.2⟩) (perm_dw x k w.pb) (dw_after x k w.pb (SameT.rf e) _ _ _ _ _) (tin_dw x k e)⟩,
    fun hh hb => ⟨k.dw k.I k.A k.M k.MB k.L, h.self, fun sz => th_Met.lift (ct_D_find_2 l hfl x.dC x.dI x.h x.q x.gD k.hp k.qp x.gA (k.ta e.p) x.gc (e.tn e.p) (e.tx e.p) sz k.I k.A k.M k.MB k.L k1 _ _ _ _ _ _ (c2 hh hb)) (fun _ z => ⟨z.1, z.2.2⟩) (perm_dw x k w.pb) (dw_after x k w.pb (SameT.rf e) _ _ _ _ _) (tin_dw x k e)⟩, fun hh p hp ep => ?_⟩
  rcases c3 hh p hp ep with ⟨hN, e0⟩ | ⟨a, b, I', M', hF, e0, hr⟩
  · exact Or.inl ⟨hN, k.dw k.I k.A k.M k.MB k.L, h.self, fun sz => th_Met.lift (ct_D_find_4 l hfl x.dC x.dI x.h x.q x.gD k.hp k.qp x.gA (k.ta e.p) x.gc (e.tn e.p) (e.tx e.p) sz k.I k.A k.M k.MB k.L k1 _ _ _ _ _ _ e0) (fun _ z => ⟨z.1, z.2.2⟩) (perm_dw x k w.pb) (dw_after x k w.pb (SameT.rf e) _ _ _ _ _) (tin_dw x k e)⟩
  · exact Or.inr ⟨a, b, hF, KRetI.of hr (fun sz => Met.liftI (fun _ => KW x (k.dw I' k.A M' k.MB k.L) (e_fnd e a b)) (cm_D_find l x.dC x.dI x.h x.q x.gD k.hp k.qp x.gA (k.ta e.p) x.gc (e.tn e.p) (e.tx e.p) sz k.I k.A k.M k.MB k.L k1 _ _ _ _ _ _ e0) (fun _ _ z => ⟨z.1, z.2.2⟩) (perm_dw x k w.pb) (fun _ => dw_after x k w.pb ⟨rfl, rfl, rfl, rfl, rfl, rfl, rfl⟩ _ _ _ _ _) (tin_dw x k e))⟩
/-- the tree -/
theorem tw_after (x : FX) (k : CK) (e : ES) (s : Nat) (I' : MI) : (KW x (k.tw I') (e_come e s)).Perm (tw_W x.h x.q x.gD (x.q 8) k.hp x.gc k.sa k.ta e.n (kO e) e.tn e.tx I' s (kL (e_come e s)) (kC (e_come e s)) ++ ktwR x k) := perm_tw x (k.tw I') (e_come e s)
theorem tw_same (x : FX) (k : CK) (e : ES) : (KW x k e).Perm (tw_W x.h x.q x.gD (x.q 8) k.hp x.gc k.sa k.ta e.n (kO e) e.tn e.tx k.I e.p (kL e) (kC e) ++ ktwR x k) := perm_tw x k e
theorem K_moveTo (l : Launch) (x : FX) {k : CK} {e : ES} (h : CRel e k) (hpb : e.p < e.n) (hn2 : e.n ≤ 40) {s : Nat} (hs : s < e.n) (hps : ∀ q, e.pa s = some q → q < e.n) : KRetV l x y_D_moveTo w_D_moveTo ({ frames := 0, cells := 0, slots := 0, locals := 0 }) [.ref x.h, .int (Int32.ofNat s)] k e 0 0 (e_come e s) := by
  obtain ⟨I', e0, hr, -, -⟩ := C_moveTo0 h hpb hn2 hs hps
  exact KRetV.of hr (fun sz => Met.liftV (fun _ => KW x (k.tw I') (e_come e s)) (cm_D_moveTo l x.dC x.dI x.h x.q x.gD (x.q 8) k.hp x.gc k.sa k.ta e.n (kO e) e.tn e.tx sz k.I e.p (kL e) (kC e) _ _ _ _ _ _ e0) (fun _ _ z => ⟨z.1, z.2.2⟩) (tw_same x k e) (fun _ => tw_after x k e s I') (tin_tw x k e))
theorem K_undo (l : Launch) (x : FX) {k : CK} {e : ES} (h : CRel e k) (w : EWf e) {q : Nat} (hq : e.pa e.p = some q) : KRetI l x y_D_undo w_D_undo ({ frames := 1, cells := 0, slots := 0, locals := 22 }) [.ref x.h] k e 0 0 (Int32.ofNat q) (e_come e q) := by
  obtain ⟨I', e0, hr⟩ := (C_undo h w).2 q hq
  exact KRetI.of hr (fun sz => Met.liftI (fun _ => KW x (k.tw I') (e_come e q)) (cm_D_undo l x.dC x.dI x.h x.q x.gD (x.q 8) k.hp x.gc k.sa k.ta e.n (kO e) e.tn e.tx sz k.I e.p (kL e) (kC e) _ _ _ _ _ e0) (fun _ _ z => ⟨z.1, z.2.2⟩) (tw_same x k e) (fun _ => tw_after x k e q I') (tin_tw x k e))
theorem Kt_undo (l : Launch) (hfl : l.flags = flags0) (x : FX) {k : CK} {e : ES} (h : CRel e k) (w : EWf e) (hq : e.pa e.p = none) : KThr l x y_D_undo w_D_undo ({ frames := 6, cells := 1, slots := 6, locals := 81 }) [.ref x.h] k e 1 6 "java/util/NoSuchElementException" e :=
  ⟨k, h, fun sz => th_Met.lift (ct_D_undo_4 l hfl x.dC x.dI x.h x.q x.gD (x.q 8) k.hp x.gc k.sa k.ta e.n (kO e) e.tn e.tx sz k.I e.p (kL e) (kC e) _ _ _ _ _ ((C_undo h w).1 hq)) (fun _ z => ⟨z.1, z.2.2⟩) (tw_same x k e) (tw_same x k e) (tin_tw x k e)⟩
theorem K_redo (l : Launch) (x : FX) {k : CK} {e : ES} (h : CRel e k) (w : EWf e) {q : Nat} (hq : e.lc e.p = some q) : KRetI l x y_D_redo w_D_redo ({ frames := 1, cells := 0, slots := 0, locals := 22 }) [.ref x.h] k e 0 0 (Int32.ofNat q) (e_come e q) := by
  obtain ⟨I', e0, hr⟩ := (C_redo h w).2 q hq
  exact KRetI.of hr (fun sz => Met.liftI (fun _ => KW x (k.tw I') (e_come e q)) (cm_D_redo l x.dC x.dI x.h x.q x.gD (x.q 8) k.hp x.gc k.sa k.ta e.n (kO e) e.tn e.tx sz k.I e.p (kL e) (kC e) _ _ _ _ _ e0) (fun _ _ z => ⟨z.1, z.2.2⟩) (tw_same x k e) (fun _ => tw_after x k e q I') (tin_tw x k e))
theorem Kt_redo (l : Launch) (hfl : l.flags = flags0) (x : FX) {k : CK} {e : ES} (h : CRel e k) (w : EWf e) (hq : e.lc e.p = none) : KThr l x y_D_redo w_D_redo ({ frames := 6, cells := 1, slots := 6, locals := 81 }) [.ref x.h] k e 1 6 "java/util/NoSuchElementException" e :=
  ⟨k, h, fun sz => th_Met.lift (ct_D_redo_4 l hfl x.dC x.dI x.h x.q x.gD (x.q 8) k.hp x.gc k.sa k.ta e.n (kO e) e.tn e.tx sz k.I e.p (kL e) (kC e) _ _ _ _ _ ((C_redo h w).1 hq)) (fun _ z => ⟨z.1, z.2.2⟩) (tw_same x k e) (tw_same x k e) (tin_tw x k e)⟩
theorem K_jump (l : Launch) (x : FX) {k : CK} {e : ES} (h : CRel e k) (w : EWf e) {k1 : Int32} {s : Nat} (hs : s < e.n) (es : k1 = Int32.ofNat s) : KRetV l x y_D_jump w_D_jump ({ frames := 1, cells := 0, slots := 0, locals := 22 }) [.ref x.h, .int k1] k e 0 0 (e_come e s) := by
  obtain ⟨I', e0, hr⟩ := (C_jump h w k1).2 s hs es
  exact KRetV.of hr (fun sz => Met.liftV (fun _ => KW x (k.tw I') (e_come e s)) (cm_D_jump l x.dC x.dI x.h x.q x.gD (x.q 8) k.hp x.gc k.sa k.ta e.n (kO e) e.tn e.tx sz k.I e.p (kL e) (kC e) k1 _ _ _ _ _ e0) (fun _ _ z => ⟨z.1, z.2.2⟩) (tw_same x k e) (fun _ => tw_after x k e s I') (tin_tw x k e))
theorem Kt_jump (l : Launch) (hfl : l.flags = flags0) (x : FX) {k : CK} {e : ES} (h : CRel e k) (w : EWf e) {k1 : Int32} (hk : k1 < 0 ∨ ¬ k1 < Int32.ofNat e.n) : KThr l x y_D_jump w_D_jump ({ frames := 7, cells := 1, slots := 6, locals := 102 }) [.ref x.h, .int k1] k e 1 6 "java/lang/IllegalArgumentException" e :=
  ⟨k, h, fun sz => th_Met.lift (ct_D_jump_3 l hfl x.dC x.dI x.h x.q x.gD (x.q 8) k.hp x.gc k.sa k.ta e.n (kO e) e.tn e.tx sz k.I e.p (kL e) (kC e) k1 _ _ _ _ _ ((C_jump h w k1).1 hk)) (fun _ z => ⟨z.1, z.2.2⟩) (tw_same x k e) (tw_same x k e) (tin_tw x k e)⟩
theorem K_parent (l : Launch) (x : FX) {k : CK} {e : ES} (h : CRel e k) (w : EWf e) {k1 : Int32} {s : Nat} (hs : s < e.n) (es : k1 = Int32.ofNat s) : KRetI l x y_D_parent w_D_parent ({ frames := 1, cells := 0, slots := 0, locals := 21 }) [.ref x.h, .int k1] k e 0 0 (mkI (e.pa s)) e :=
  KRetI.of h (fun sz => Met.liftI (fun _ => KW x k e) (cm_D_parent l x.dC x.dI x.h x.q x.gD (x.q 8) k.hp x.gc k.sa k.ta e.n (kO e) e.tn e.tx sz k.I e.p (kL e) (kC e) k1 _ _ _ _ _ ((C_parent h w k1).2 s hs es)) (fun _ _ z => ⟨z.1, z.2.2⟩) (tw_same x k e) (fun _ => tw_same x k e) (tin_tw x k e))
theorem Kt_parent (l : Launch) (hfl : l.flags = flags0) (x : FX) {k : CK} {e : ES} (h : CRel e k) (w : EWf e) {k1 : Int32} (hk : k1 < 0 ∨ ¬ k1 < Int32.ofNat e.n) : KThr l x y_D_parent w_D_parent ({ frames := 7, cells := 1, slots := 6, locals := 102 }) [.ref x.h, .int k1] k e 1 6 "java/lang/IllegalArgumentException" e :=
  ⟨k, h, fun sz => th_Met.lift (ct_D_parent_3 l hfl x.dC x.dI x.h x.q x.gD (x.q 8) k.hp x.gc k.sa k.ta e.n (kO e) e.tn e.tx sz k.I e.p (kL e) (kC e) k1 _ _ _ _ _ ((C_parent h w k1).1 hk)) (fun _ z => ⟨z.1, z.2.2⟩) (tw_same x k e) (tw_same x k e) (tin_tw x k e)⟩
/-- compile -/
theorem K_compile (l : Launch) (x : FX) {k : CK} {e : ES} (h : CRel e k) (w : EWf e) {s : Nat → Nat} (hs : ∀ j, j < e.sn → s j = e.sc j) {st : List RLv} (ho : c_rd s e.sn = Sum.inr st) : KRetV l x y_D_compile w_D_compile ({ frames := 6, cells := 0, slots := 0, locals := 131 }) [.ref x.h] k e 0 0 (e_cd e s) := by
  obtain ⟨I', RI', RA', N', NB', NL', e0, hr⟩ := (C_compile h w hs).2 st ho
  refine KRetV.of (hr (.ref (x.q 0))) (fun sz => Met.liftV (fun _ => KW x (k.rd (.ref (x.q 0)) I' k.A k.M k.MB k.L RI' RA' N' NB' NL').sw (e_cd e s)) (cm_D_compile l x.dC x.dI x.h x.q x.gD k.hp k.qp x.gA (k.ta e.p) x.gc (e.tn e.p) (e.tx e.p) (x.q 8) x.qj x.gR k.hm k.qm x.gA k.sf sz k.I k.A k.M k.MB k.L k.RI k.RA k.N k.NB k.NL _ _ _ _ _ _ _ _ _ _ _ e0) (fun _ _ z => ⟨z.1, z.2.2⟩) (perm_dc x k w.pb) (fun _ => ?_) (tin_dc x k e))
  rw [KW_same x _ (show SameT (e_cd e s) e from ⟨rfl, rfl, rfl, rfl, rfl, rfl, rfl⟩)]
  exact perm_dc2 x (k.rd (.ref (x.q 0)) I' k.A k.M k.MB k.L RI' RA' N' NB' NL').sw w.pb
theorem Kt_compile (l : Launch) (hfl : l.flags = flags0) (x : FX) {k : CK} {e : ES} (h : CRel e k) (w : EWf e) {s : Nat → Nat} (hs : ∀ j, j < e.sn → s j = e.sc j) {p : Nat} (ho : c_rd s e.sn = Sum.inl p) : KThr l x y_D_compile w_D_compile ({ frames := 6, cells := 1, slots := 6, locals := 131 }) [.ref x.h] k e 1 6 "java/lang/IllegalArgumentException" (e_cf e p) := by
  obtain ⟨I', RI', RA', N', NB', NL', e0, hr⟩ := (C_compile h w hs).1 p ho
  refine ⟨_, hr (.ref (x.q 0)), fun sz => th_Met.lift (ct_D_compile_3 l hfl x.dC x.dI x.h x.q x.gD k.hp k.qp x.gA (k.ta e.p) x.gc (e.tn e.p) (e.tx e.p) (x.q 8) x.qj x.gR k.hm k.qm x.gA k.sf sz k.I k.A k.M k.MB k.L k.RI k.RA k.N k.NB k.NL _ _ _ _ _ _ _ _ _ _ _ e0) (fun _ z => ⟨z.1, z.2.2⟩) (perm_dc x k w.pb) ?_ (tin_dc x k e)⟩
  rw [KW_same x _ (show SameT (e_cf e p) e from ⟨rfl, rfl, rfl, rfl, rfl, rfl, rfl⟩)]
  exact perm_dc x (k.rd (.ref (x.q 0)) I' k.A k.M k.MB k.L RI' RA' N' NB' NL') w.pb

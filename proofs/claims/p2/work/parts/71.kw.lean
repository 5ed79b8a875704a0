-- own rows: the whole of the class in one world
/-- what stays through a run: classes and addresses -/
abbrev FX : Type := (Nat → ClassId) × (Nat → Nat → Nat) × (Nat) × (Nat → Nat) × (Nat → Nat) × (ClassId) × (ClassId) × (ClassId) × (ClassId) × (ClassId) × (Nat) × (Nat → Nat) × (Nat)
def FX.dC (r_ : FX) : Nat → ClassId := r_.1
def FX.dI (r_ : FX) : Nat → Nat → Nat := r_.2.1
def FX.h (r_ : FX) : Nat := r_.2.2.1
def FX.q (r_ : FX) : Nat → Nat := r_.2.2.2.1
def FX.qj (r_ : FX) : Nat → Nat := r_.2.2.2.2.1
def FX.gc (r_ : FX) : ClassId := r_.2.2.2.2.2.1
def FX.gi (r_ : FX) : ClassId := r_.2.2.2.2.2.2.1
def FX.gl (r_ : FX) : ClassId := r_.2.2.2.2.2.2.2.1
def FX.gs (r_ : FX) : ClassId := r_.2.2.2.2.2.2.2.2.1
def FX.gz (r_ : FX) : ClassId := r_.2.2.2.2.2.2.2.2.2.1
def FX.hM (r_ : FX) : Nat := r_.2.2.2.2.2.2.2.2.2.2.1
def FX.qM (r_ : FX) : Nat → Nat := r_.2.2.2.2.2.2.2.2.2.2.2.1
def FX.ob (r_ : FX) : Nat := r_.2.2.2.2.2.2.2.2.2.2.2.2
abbrev FX.mk (dC_ : Nat → ClassId) (dI_ : Nat → Nat → Nat) (h_ : Nat) (q_ : Nat → Nat) (qj_ : Nat → Nat) (gc_ : ClassId) (gi_ : ClassId) (gl_ : ClassId) (gs_ : ClassId) (gz_ : ClassId) (hM_ : Nat) (qM_ : Nat → Nat) (ob_ : Nat) : FX := (dC_, dI_, h_, q_, qj_, gc_, gi_, gl_, gs_, gz_, hM_, qM_, ob_)
/-- what the class holds besides the editor -/
abbrev CK : Type := (Nat) × (Nat → Nat) × (Nat) × (Nat → Nat) × (Value) × (Nat → Nat) × (Nat → Nat) × (MI) × (MA) × (MI) × (MA) × (ML) × (MI) × (MA) × (MI) × (MA) × (ML)
def CK.hp (r_ : CK) : Nat := r_.1
def CK.qp (r_ : CK) : Nat → Nat := r_.2.1
def CK.hm (r_ : CK) : Nat := r_.2.2.1
def CK.qm (r_ : CK) : Nat → Nat := r_.2.2.2.1
def CK.sf (r_ : CK) : Value := r_.2.2.2.2.1
def CK.sa (r_ : CK) : Nat → Nat := r_.2.2.2.2.2.1
def CK.ta (r_ : CK) : Nat → Nat := r_.2.2.2.2.2.2.1
def CK.I (r_ : CK) : MI := r_.2.2.2.2.2.2.2.1
def CK.A (r_ : CK) : MA := r_.2.2.2.2.2.2.2.2.1
def CK.M (r_ : CK) : MI := r_.2.2.2.2.2.2.2.2.2.1
def CK.MB (r_ : CK) : MA := r_.2.2.2.2.2.2.2.2.2.2.1
def CK.L (r_ : CK) : ML := r_.2.2.2.2.2.2.2.2.2.2.2.1
def CK.RI (r_ : CK) : MI := r_.2.2.2.2.2.2.2.2.2.2.2.2.1
def CK.RA (r_ : CK) : MA := r_.2.2.2.2.2.2.2.2.2.2.2.2.2.1
def CK.N (r_ : CK) : MI := r_.2.2.2.2.2.2.2.2.2.2.2.2.2.2.1
def CK.NB (r_ : CK) : MA := r_.2.2.2.2.2.2.2.2.2.2.2.2.2.2.2.1
def CK.NL (r_ : CK) : ML := r_.2.2.2.2.2.2.2.2.2.2.2.2.2.2.2.2
abbrev CK.mk (hp_ : Nat) (qp_ : Nat → Nat) (hm_ : Nat) (qm_ : Nat → Nat) (sf_ : Value) (sa_ : Nat → Nat) (ta_ : Nat → Nat) (I_ : MI) (A_ : MA) (M_ : MI) (MB_ : MA) (L_ : ML) (RI_ : MI) (RA_ : MA) (N_ : MI) (NB_ : MA) (NL_ : ML) : CK := (hp_, qp_, hm_, qm_, sf_, sa_, ta_, I_, A_, M_, MB_, L_, RI_, RA_, N_, NB_, NL_)
def CK.dw (k : CK) (I' : MI) (A' : MA) (M' : MI) (MB' : MA) (L' : ML) : CK := CK.mk k.hp k.qp k.hm k.qm k.sf k.sa k.ta I' A' M' MB' L' k.RI k.RA k.N k.NB k.NL
def CK.tw (k : CK) (I' : MI) : CK := CK.mk k.hp k.qp k.hm k.qm k.sf k.sa k.ta I' k.A k.M k.MB k.L k.RI k.RA k.N k.NB k.NL
def CK.nw (k : CK) (sa' : Nat → Nat) (ta' : Nat → Nat) (I' : MI) : CK := CK.mk k.hp k.qp k.hm k.qm k.sf sa' ta' I' k.A k.M k.MB k.L k.RI k.RA k.N k.NB k.NL
def CK.rd (k : CK) (sf' : Value) (I' : MI) (A' : MA) (M' : MI) (MB' : MA) (L' : ML) (RI' : MI) (RA' : MA) (N' : MI) (NB' : MA) (NL' : ML) : CK := CK.mk k.hp k.qp k.hm k.qm sf' k.sa k.ta I' A' M' MB' L' RI' RA' N' NB' NL'
/-- the pattern and what the reader makes change places -/
def CK.sw (k : CK) : CK := CK.mk k.hm k.qm k.hp k.qp k.sf k.sa k.ta k.I k.A k.N k.NB k.NL k.RI k.RA k.M k.MB k.L
abbrev FX.D (x : FX) : va_G := (x.dC, x.dI)
def FX.gD (x : FX) : Nat → ClassId
  | 0 => x.gc
  | 2 => x.gs
  | _ => x.gi
def FX.gA (x : FX) : Nat → ClassId
  | 0 => x.gi
  | 1 => x.gi
  | 2 => x.gi
  | _ => x.gl
def FX.gR (x : FX) : Nat → ClassId := fun _ => x.gi
def FX.gM (x : FX) : Nat → ClassId
  | 2 => x.gc
  | 5 => x.gc
  | 16 => x.gc
  | 37 => x.gc
  | 32 => x.gz
  | 33 => x.gz
  | _ => x.gi
abbrev kD0 (x : FX) (k : CK) (e : ES) : Nat × va_E := (x.h, .inr (0, [.ref (x.q 0), .int (k.I 1), .ref (x.q 2), .int (k.I 3), .int (k.I 4), .ref (k.ta e.p), .int (k.I 6), .int (k.I 7), .ref (x.q 8), .ref k.hp, .int (k.I 10), .int (k.I 11), .ref (x.q 12), .ref (x.q 13)]))
abbrev kY9 (x : FX) (k : CK) : va_W := [(x.q 0, .inl (x.gD 0, 24, .inl (k.A 0))), (x.q 12, .inl (x.gD 12, 160, .inl (k.A 12))), (x.q 13, .inl (x.gD 13, 160, .inl (k.A 13))), (k.hp, .inr (3, [.ref (k.qp 0), .ref (k.qp 1), .ref (k.qp 2), .ref (k.qp 3), .ref (k.qp 4), .int (k.M 5), .int (k.M 6), .int (k.M 7), .int (k.M 8), .int (k.M 9)])), (k.qp 0, .inl (x.gA 0, 50, .inl (k.MB 0))), (k.qp 1, .inl (x.gA 1, 50, .inl (k.MB 1))), (k.qp 2, .inl (x.gA 2, 50, .inl (k.MB 2))), (k.qp 3, .inl (x.gA 3, 50, .inr (.inl (k.L 3)))), (k.qp 4, .inl (x.gA 4, 50, .inr (.inl (k.L 4))))]
abbrev kYr (x : FX) (k : CK) : va_W := [(x.q 8, .inr (2, [.ref (x.qj 0), .ref (x.qj 1), .ref (x.qj 2), .ref (x.qj 3), .ref k.hm, k.sf, .int (k.RI 6), .int (k.RI 7), .int (k.RI 8), .int (k.RI 9), .int (k.RI 10), .int (k.RI 11), .int (k.RI 12)])), (x.qj 0, .inl (x.gR 0, 9, .inl (k.RA 0))), (x.qj 1, .inl (x.gR 1, 9, .inl (k.RA 1))), (x.qj 2, .inl (x.gR 2, 9, .inl (k.RA 2))), (x.qj 3, .inl (x.gR 3, 9, .inl (k.RA 3)))]
abbrev kYm (x : FX) (k : CK) : va_W := [(k.hm, .inr (3, [.ref (k.qm 0), .ref (k.qm 1), .ref (k.qm 2), .ref (k.qm 3), .ref (k.qm 4), .int (k.N 5), .int (k.N 6), .int (k.N 7), .int (k.N 8), .int (k.N 9)])), (k.qm 0, .inl (x.gA 0, 50, .inl (k.NB 0))), (k.qm 1, .inl (x.gA 1, 50, .inl (k.NB 1))), (k.qm 2, .inl (x.gA 2, 50, .inl (k.NB 2))), (k.qm 3, .inl (x.gA 3, 50, .inr (.inl (k.NL 3)))), (k.qm 4, .inl (x.gA 4, 50, .inr (.inl (k.NL 4))))]
abbrev kZ (x : FX) (k : CK) (e : ES) : Nat × va_E := (x.q 2, .inl (x.gD 2, 40, .inr (.inr (.inr (.inr (tw_f e.n k.sa))))))
def kO (e : ES) : Nat → Int32 := fun i => mkI (e.pa i)
def kL (e : ES) : Nat → Int32 := fun i => Int32.ofNat (e.pl i)
def kC (e : ES) : Nat → Int32 := fun i => mkI (e.lc i)
abbrev kS (k : CK) (e : ES) : va_W := (List.range e.n).map (tw_S k.sa k.ta (kO e) (kL e) (kC e))
abbrev kE (x : FX) (k : CK) (e : ES) : va_W := (List.range e.n).map (tw_E k.ta x.gc e.tn e.tx)
abbrev kF (x : FX) (k : CK) (e : ES) : va_W := ((List.range e.n).erase e.p).map (tw_E k.ta x.gc e.tn e.tx)
abbrev KW (x : FX) (k : CK) (e : ES) : va_W := kD0 x k e :: (kY9 x k ++ (kYr x k ++ (kYm x k ++ (kZ x k e :: (kS k e ++ kE x k e)))))
abbrev kT (x : FX) : List (ClassId × FieldType) := [(x.gc, .char), (x.gi, .int), (x.gl, .long), (x.gs, .object "DraftTree$State"), (x.gz, .boolean)]
theorem perm_pull {α : Type} {Y S E E' : List α} {z a : α} (h : E.Perm (a :: E')) : (Y ++ (z :: (S ++ E))).Perm (a :: (Y ++ (z :: (S ++ E')))) := by
  have h1 : (S ++ E).Perm (a :: (S ++ E')) := (h.append_left S).trans List.perm_middle
  have h2 : (z :: (S ++ E)).Perm (a :: (z :: (S ++ E'))) := (h1.cons z).trans (List.Perm.swap a z _)
  exact (h2.append_left Y).trans List.perm_middle
theorem kE_pull (x : FX) (k : CK) {e : ES} (hp : e.p < e.n) : (kE x k e).Perm (tw_E k.ta x.gc e.tn e.tx e.p :: kF x k e) := (List.perm_cons_erase (List.mem_range.mpr hp)).map _
abbrev kdw (x : FX) (k : CK) (e : ES) : va_W := dw_W x.h x.q x.gD k.hp k.qp x.gA (k.ta e.p) x.gc (e.tn e.p) (e.tx e.p) k.I k.A k.M k.MB k.L
abbrev kdwR (x : FX) (k : CK) (e : ES) : va_W := kYr x k ++ (kYm x k ++ (kZ x k e :: (kS k e ++ kF x k e)))
theorem perm_dw (x : FX) (k : CK) {e : ES} (hp : e.p < e.n) : (KW x k e).Perm (kdw x k e ++ kdwR x k e) := by
  have h := perm_pull (Y := kYr x k ++ kYm x k) (S := kS k e) (z := kZ x k e) (kE_pull x k hp)
  rw [List.append_assoc, List.append_assoc] at h
  exact (h.append_left (kY9 x k)).cons (kD0 x k e)
abbrev kdc (x : FX) (k : CK) (e : ES) : va_W := dc_W x.h x.q x.gD k.hp k.qp x.gA (k.ta e.p) x.gc (e.tn e.p) (e.tx e.p) (x.q 8) x.qj x.gR k.hm k.qm x.gA k.hp k.hm k.sf k.I k.A k.M k.MB k.L k.RI k.RA k.N k.NB k.NL
abbrev kdcR (x : FX) (k : CK) (e : ES) : va_W := kZ x k e :: (kS k e ++ kF x k e)
theorem perm_dc (x : FX) (k : CK) {e : ES} (hp : e.p < e.n) : (KW x k e).Perm (kdc x k e ++ kdcR x k e) := by
  have h := perm_pull (Y := kYr x k ++ kYm x k) (S := kS k e) (z := kZ x k e) (kE_pull x k hp)
  rw [List.append_assoc, List.append_assoc] at h
  exact (h.append_left (kY9 x k)).cons (kD0 x k e)
/-- the same cells with the pattern's and the made block in each other's place -/
abbrev kdc2 (x : FX) (k : CK) (e : ES) : va_W := dc_W x.h x.q x.gD k.hm k.qm x.gA (k.ta e.p) x.gc (e.tn e.p) (e.tx e.p) (x.q 8) x.qj x.gR k.hp k.qp x.gA k.hp k.hm k.sf k.I k.A k.N k.NB k.NL k.RI k.RA k.M k.MB k.L
theorem perm_dc2 (x : FX) (k : CK) {e : ES} (hp : e.p < e.n) : (KW x k e).Perm (kdc2 x k e ++ kdcR x k e) := by
  refine (perm_dc x k hp).trans (List.Perm.append_right _ ?_)
  have a : kdc x k e = kD0 x k e :: ([(x.q 0, .inl (x.gD 0, 24, .inl (k.A 0))), (x.q 12, .inl (x.gD 12, 160, .inl (k.A 12))), (x.q 13, .inl (x.gD 13, 160, .inl (k.A 13)))] ++ ((kY9 x k).drop 3 ++ ((tw_E k.ta x.gc e.tn e.tx e.p :: kYr x k) ++ kYm x k))) := rfl
  have b : kdc2 x k e = kD0 x k e :: ([(x.q 0, .inl (x.gD 0, 24, .inl (k.A 0))), (x.q 12, .inl (x.gD 12, 160, .inl (k.A 12))), (x.q 13, .inl (x.gD 13, 160, .inl (k.A 13)))] ++ (kYm x k ++ ((tw_E k.ta x.gc e.tn e.tx e.p :: kYr x k) ++ (kY9 x k).drop 3))) := rfl
  rw [a, b]
  refine List.Perm.cons _ (List.Perm.append_left _ ?_)
  have c := List.perm_append_comm (l₁ := (kY9 x k).drop 3) (l₂ := (tw_E k.ta x.gc e.tn e.tx e.p :: kYr x k) ++ kYm x k)
  refine c.trans ?_
  have d := (List.perm_append_comm (l₁ := tw_E k.ta x.gc e.tn e.tx e.p :: kYr x k) (l₂ := kYm x k)).append_right ((kY9 x k).drop 3)
  refine d.trans ?_
  rw [List.append_assoc]
abbrev ktw (x : FX) (k : CK) (e : ES) : va_W := tw_W x.h x.q x.gD (x.q 8) k.hp x.gc k.sa k.ta e.n (kO e) e.tn e.tx k.I e.p (kL e) (kC e)
abbrev ktwR (x : FX) (k : CK) : va_W := kY9 x k ++ (kYr x k ++ kYm x k)
theorem perm_tw (x : FX) (k : CK) (e : ES) : (KW x k e).Perm (ktw x k e ++ ktwR x k) := by
  have h := List.perm_append_comm (l₁ := ktwR x k) (l₂ := kZ x k e :: (kS k e ++ kE x k e))
  rw [List.append_assoc, List.append_assoc] at h
  exact h.cons (kD0 x k e)
/-- the trees of two editors are one -/
abbrev SameT (e' e : ES) : Prop := (e'.n = e.n) ∧ (e'.p = e.p) ∧ (e'.tn = e.tn) ∧ (e'.tx = e.tx) ∧ (e'.pl = e.pl) ∧ (e'.pa = e.pa) ∧ (e'.lc = e.lc)
theorem SameT.hn {e' e : ES} (h_ : SameT e' e) : e'.n = e.n := h_.1
theorem SameT.hp {e' e : ES} (h_ : SameT e' e) : e'.p = e.p := h_.2.1
theorem SameT.htn {e' e : ES} (h_ : SameT e' e) : e'.tn = e.tn := h_.2.2.1
theorem SameT.htx {e' e : ES} (h_ : SameT e' e) : e'.tx = e.tx := h_.2.2.2.1
theorem SameT.hpl {e' e : ES} (h_ : SameT e' e) : e'.pl = e.pl := h_.2.2.2.2.1
theorem SameT.hpa {e' e : ES} (h_ : SameT e' e) : e'.pa = e.pa := h_.2.2.2.2.2.1
theorem SameT.hlc {e' e : ES} (h_ : SameT e' e) : e'.lc = e.lc := h_.2.2.2.2.2.2
theorem KW_same (x : FX) (k : CK) {e' e : ES} (h : SameT e' e) : KW x k e' = KW x k e := by
  show kD0 x k e' :: (kY9 x k ++ (kYr x k ++ (kYm x k ++ (kZ x k e' :: (kS k e' ++ kE x k e'))))) = _
  unfold kD0 kZ kS kE kO kL kC
  rw [h.hn, h.hp, h.htn, h.htx, h.hpl, h.hpa, h.hlc]
  rfl
theorem tin_dw (x : FX) (k : CK) (e : ES) : ∀ t ∈ dw_T x.h x.q x.gD k.hp k.qp x.gA (k.ta e.p) x.gc (e.tn e.p) (e.tx e.p), t ∈ kT x := by
  show ∀ t ∈ [(x.gc, .char), (x.gi, .int), (x.gi, .int), (x.gi, .int), (x.gi, .int), (x.gi, .int), (x.gl, .long), (x.gl, .long), (x.gc, .char)], t ∈ kT x
  intro t ht
  simp only [List.mem_cons, List.not_mem_nil, or_false] at ht ⊢
  rcases ht with h | h | h | h | h | h | h | h | h <;> simp [h]
theorem tin_dc (x : FX) (k : CK) (e : ES) : ∀ t ∈ dc_T x.h x.q x.gD k.hp k.qp x.gA (k.ta e.p) x.gc (e.tn e.p) (e.tx e.p) (x.q 8) x.qj x.gR k.hm k.qm x.gA k.hp k.hm k.sf, t ∈ kT x := by
  show ∀ t ∈ [(x.gc, .char), (x.gi, .int), (x.gi, .int), (x.gi, .int), (x.gi, .int), (x.gi, .int), (x.gl, .long), (x.gl, .long), (x.gc, .char), (x.gi, .int), (x.gi, .int), (x.gi, .int), (x.gi, .int), (x.gi, .int), (x.gi, .int), (x.gi, .int), (x.gl, .long), (x.gl, .long)], t ∈ kT x
  intro t ht
  simp only [List.mem_cons, List.not_mem_nil, or_false] at ht ⊢
  rcases ht with h | h | h | h | h | h | h | h | h | h | h | h | h | h | h | h | h | h <;> simp [h]
theorem tin_tw (x : FX) (k : CK) (e : ES) : ∀ t ∈ tw_T x.h x.q x.gD (x.q 8) k.hp x.gc k.sa k.ta e.n (kO e) e.tn e.tx, t ∈ kT x := by
  show ∀ t ∈ [(x.gs, .object "DraftTree$State"), (x.gc, .char)], t ∈ kT x
  intro t ht
  simp only [List.mem_cons, List.not_mem_nil, or_false] at ht ⊢
  rcases ht with h | h <;> simp [h]

-- own rows: worlds by their members and addresses, for pools
theorem va_P.memb {D : va_G} {cl : List vw_C} {ws ws' : va_W} {H : Heap} (h : va_P D cl ws H) (hm : ∀ q ∈ ws', q ∈ ws) : va_P D cl ws' H := fun k q hk => by
  obtain ⟨i, hi⟩ := List.getElem?_of_mem (hm q (List.mem_of_getElem? hk))
  exact h i q hi
theorem va_P.inn {D : va_G} {cl : List vw_C} {ws : va_W} {H : Heap} (h : va_P D cl ws H) {q : Nat × va_E} (hq : q ∈ ws) : va_at D cl q H := by
  obtain ⟨i, hi⟩ := List.getElem?_of_mem hq
  exact h i q hi
theorem va_D.adr {A : Nat → Prop} {ws ws' : va_W} (h : va_D A ws) (ha : ws'.map (fun q => q.1) = ws.map (fun q => q.1)) : va_D A ws' := by
  have key : ∀ (k : Nat) (q : Nat × va_E), ws'[k]? = some q → ∃ q' : Nat × va_E, ws[k]? = some q' ∧ q'.1 = q.1 := by
    intro k q hk
    have h1 : (ws'.map (fun q => q.1))[k]? = some q.1 := by rw [List.getElem?_map, hk]; rfl
    rw [ha, List.getElem?_map] at h1
    cases h2 : ws[k]? with
    | none => rw [h2] at h1; cases h1
    | some q' => rw [h2] at h1; exact ⟨q', rfl, Option.some.inj h1⟩
  refine ⟨fun i j p q hi hj he => ?_, fun k q hk => ?_⟩
  · obtain ⟨p', h1, h2⟩ := key i p hi
    obtain ⟨q', h3, h4⟩ := key j q hj
    exact h.1 i j p' q' h1 h3 (by rw [h2, h4]; exact he)
  · obtain ⟨q', h1, h2⟩ := key k q hk
    rw [← h2]
    exact h.2 k q' h1
/-- some of a world's cells, each once -/
theorem va_D.pick {A : Nat → Prop} {ws ws' : va_W} (h : va_D A ws) (hm : ∀ q ∈ ws', q ∈ ws) (hn : ∀ i j : Nat, i < ws'.length → j < ws'.length → (ws'.map (fun q => q.1))[i]? = (ws'.map (fun q => q.1))[j]? → i = j) : va_D A ws' := by
  refine ⟨fun i j p q hi hj he => ?_, fun k q hk => ?_⟩
  · have li : i < ws'.length := by
      rcases Nat.lt_or_ge i ws'.length with h9 | h9
      · exact h9
      · rw [List.getElem?_eq_none h9] at hi; cases hi
    have lj : j < ws'.length := by
      rcases Nat.lt_or_ge j ws'.length with h9 | h9
      · exact h9
      · rw [List.getElem?_eq_none h9] at hj; cases hj
    refine hn i j li lj ?_
    rw [List.getElem?_map, List.getElem?_map, hi, hj]
    show some p.1 = some q.1
    rw [he]
  · obtain ⟨i, hi⟩ := List.getElem?_of_mem (hm q (List.mem_of_getElem? hk))
    exact h.2 i q hi
/-- a callee has worked in wc and left w1 there: the whole world afterwards -/
theorem va_frame {A0 : Nat → Prop} {D : va_G} {cl : List vw_C} {ws wc w1 ws' : va_W} {H H1 : Heap} (hP : va_P D cl ws H) (hD : va_D A0 ws) (hk : ∀ q : Nat, q < H.size → ¬ va_A wc H.size q → H1[q]? = H[q]?) (hP1 : va_P D cl w1 H1)
    (ha : ws'.map (fun q => q.1) = ws.map (fun q => q.1)) (hm : ∀ q ∈ ws', q ∈ w1 ∨ (q ∈ ws ∧ ∀ r ∈ wc, r.1 ≠ q.1)) : va_P D cl ws' H1 ∧ va_D A0 ws' := by
  refine ⟨fun k q hq => ?_, hD.adr ha⟩
  rcases hm q (List.mem_of_getElem? hq) with h | ⟨h, hn⟩
  · exact hP1.inn h
  · have h1 := hP.inn h
    refine h1.kept (hk _ h1.lt (fun hx => ?_))
    rcases hx with ⟨k9, e9, h9⟩ | h9
    · exact hn _ (List.mem_of_getElem? h9) rfl
    · exact absurd h1.lt (Nat.not_lt.mpr h9)
/-- what a callee may write lies in what the caller may write -/
theorem va_freeM {A0 : Nat → Prop} {ws wc : va_W} {H0 H : Heap} {locs : List Loc} (hD : va_D A0 ws) (hS : va_S A0 H0 H locs) (hA : ∀ q, H0.size ≤ q → A0 q) (hm : ∀ q ∈ wc, q ∈ ws) : ∀ q, va_A wc H.size q → A0 q := by
  intro q hq
  rcases hq with ⟨k, e, hk⟩ | h
  · obtain ⟨i, hi⟩ := List.getElem?_of_mem (hm _ (List.mem_of_getElem? hk))
    exact hD.2 i _ hi
  · exact hA q (Nat.le_trans hS.1 h)
/-- a row of a pool -/
theorem va_pool {α : Type} {f : Nat → α} {n i : Nat} (h : i < n) : ((List.range n).map f)[i]? = some (f i) := by
  rw [List.getElem?_map, List.getElem?_range h]
  rfl
theorem va_poolAt {α : Type} {X Y : List α} {f : Nat → α} {n i k : Nat} (hk : X.length = k) (h : i < n) : (X ++ ((List.range n).map f ++ Y))[k + i]? = some (f i) := by
  subst hk
  rw [List.getElem?_append_right (Nat.le_add_right _ _), Nat.add_sub_cancel_left, List.getElem?_append_left (by simpa using h)]
  exact va_pool h
theorem va_poolSet {α : Type} {X Y : List α} {f f' : Nat → α} {n i k : Nat} {v : α} (hk : X.length = k) (h : i < n) (h1 : f' i = v) (h2 : ∀ j, j ≠ i → f' j = f j) : (X ++ ((List.range n).map f ++ Y)).set (k + i) v = X ++ ((List.range n).map f' ++ Y) := by
  subst hk
  rw [List.set_append_right _ _ (Nat.le_add_right _ _), Nat.add_sub_cancel_left, List.set_append_left _ _ (by simpa using h)]
  congr 2
  refine List.ext_getElem? (fun j => ?_)
  rcases Nat.lt_or_ge j n with hj | hj
  · rw [va_pool hj, List.getElem?_set]
    by_cases he : i = j
    · subst he
      rw [if_pos rfl, if_pos (by simpa using h), h1]
    · rw [if_neg he, va_pool hj, h2 j (fun z => he z.symm)]
  · rw [List.getElem?_eq_none (by simpa using hj), List.getElem?_eq_none (by simpa using hj)]

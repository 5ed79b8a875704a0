set_option maxHeartbeats 8000000 in
set_option maxRecDepth 100000 in
theorem law_end {p : Program} {e : Env} {s : State} {m : MethodId} {below : List Frame} {meth : Method} {c : Code} (l : Launch) {b : Nat} {xs : Nat → Int32} (hx : p.tables.exec = Jvm.exec) (hb : c.code = code) (hret : meth.sig.returnType = ret) (hlocks : meth.locks = false) (hX : va_X b 3 xs s s.heap) (hbl : b < s.heap.size) {A : Nat → Prop} (hAe : (fun q => s.heap.size ≤ q) = A) {cells slots : Nat} (hc : cells ≤ 600002) (hs : slots ≤ 7302232) {H : Heap} {locs : List Loc} {ls : Array Slot} (hS : va_S A s.heap H locs) (hl : lv_has ls 7 [(4, .int 0), (0, .ref b)]) : W p l e room_1 s m #[Value.ref b] below meth c H locs cells slots (lw_Z below #[Value.ref b] s) (F0 m 834 ls []) := by
  have hbA : ¬ A b := by rw [← hAe]; exact Nat.not_le.mpr hbl
  refine lv_iinc (k := 0) (v := 3) (lv' := [(4, .int 3), (0, .ref b)]) hx hb d_L_law_834 hl rfl (by decide) (by decide) rfl (fun ls hl => ?_)
  have hl : lv_has ls 7 [(4, .int 3), (0, .ref b)] := hl
  refine lv_goto (tgt := 23) hx hb d_L_law_837 (by decide) ?_
  refine lv_iload hx hb d_L_law_23 (lv_at hl 0 rfl) ?_
  refine lv_aload_n hx hb d_L_law_25 rfl (lv_at hl 1 rfl) ?_
  refine va_slen hx hb hX hbl hbA hS d_L_law_26 ?_
  refine wk_top (w := .int 3) rfl ?_
  refine lv_iconst (v := 3) hx hb d_L_law_27 (by decide) ?_
  refine t_isub (v := 0) hx hb d_L_law_28 (by decide +kernel) ?_
  refine lv_icmp_gt (tgt := 840) hx hb d_L_law_29 (by decide) (fun _ => ?_) (fun h => absurd (by decide +kernel) h)
  refine lv_iconst (v := 1) hx hb d_L_law_840 (by decide) ?_
  refine va_forget (fun q hq => by have h9 := hS.2.2 q hq; rw [← hAe] at h9; exact h9) ?_
  refine W.widen (k := 600002) (n := 7302232) hc hs ?_
  exact lw_ret hx hb hret hlocks d_L_law_841

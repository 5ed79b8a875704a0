-- own rows: the law, call by call
/-- where a call has been made on both sides -/
def LKont (p : Program) (l : Launch) (en : Env) (s : State) (m : MethodId) (below : List Frame) (meth : Method) (c : Code) (x : FX) (b : Nat) (B9 : Nat → Prop) (i t cells slots : Nat) : Prop := ∀ (k' : CK) (e' : ES) (t' : Nat) (cf' : Nat → Nat) (ov' : Nat → Int64) (I' : MI) (A' : MA) (H' : Heap) (locs' : List Loc) (ls' : Array Slot), CRel e' k' → EWf e' → MRel e' t' cf' I' A' → t' ≤ t + 1 → va_P x.D vwCl (WL x k' e' ov' I' A') H' → va_D B9 (WL x k' e' ov' I' A') → va_S B9 s.heap H' locs' → lv_has ls' 7 [(4, .int (Int32.ofNat i)), (3, .ref x.ob), (2, .ref x.hM), (1, .ref x.h), (0, .ref b)] → W p l en room_1 s m #[Value.ref b] below meth c H' locs' (cells + 3) (slots + 170) (lw_Z below #[Value.ref b] s) (F0 m 521 ls' [])
theorem lq_lcmp (v : Int64) : lg_cmp v v = 0 := by
  unfold lg_cmp
  rw [if_neg (fun z => Int64.lt_irrefl z), if_pos rfl]

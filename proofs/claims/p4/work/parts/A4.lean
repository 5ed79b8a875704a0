-- 15.mdefs
def f_M_add (I : MI) (A : MA) (k1 : Int32) : Option (Int32 × MI × MA) :=
  if wk_inb (I 36) 4000 = true then wk_let (va_up A 37 (upd (A 37) ((I 36)).toNatClampNeg (vp_nar .char k1))) (fun A1 => wk_let (upd I 36 ((I 36) + 1)) (fun I2 => some (0, I2, A1))) else none
def f_M_addSlip_2 (rc : Nat → MI → MA → (Nat → Int32) → Option (Int32 × MI × MA)) (I : MI) (A : MA) (X : Nat → Int32) : Option (Int32 × MI × MA) :=
  if (I 1) ≤ (X 1) then some (0, I, A) else if wk_inb (X 1) 24 = true then (f_M_add I A ((A 2) ((X 1)).toNatClampNeg)).bind (fun z1 => (fun r1 I1 A1 => rc 2 I1 A1 (upd X 1 ((X 1) + 1))) z1.1 z1.2.1 z1.2.2) else none
def f_M_addSlip_go : Nat → Nat → MI → MA → (Nat → Int32) → Option (Int32 × MI × MA)
  | 0, _, _, _, _ => none
  | n + 1, t, I, A, X => if t = 2 then f_M_addSlip_2 (f_M_addSlip_go n) I A X else none
def f_M_addSlip_e (rc : Nat → MI → MA → (Nat → Int32) → Option (Int32 × MI × MA)) (I : MI) (A : MA) : Option (Int32 × MI × MA) :=
  rc 2 I A (upd (fun _ => 0) 1 0)
def f_M_addSlip (I : MI) (A : MA) : Option (Int32 × MI × MA) := f_M_addSlip_e (f_M_addSlip_go wk_FUEL) I A 
def f_M_charAt (I : MI) (A : MA) (k1 : Int32) : Option (Int32 × MI × MA) :=
  if wk_inb ((160 * (I 4)) + k1) 6400 = true then if vp_nar .char ((A 5) (((160 * (I 4)) + k1)).toNatClampNeg) = ((A 5) (((160 * (I 4)) + k1)).toNatClampNeg) then some (((A 5) (((160 * (I 4)) + k1)).toNatClampNeg), I, A) else none else none
def f_M_addText_2 (rc : Nat → MI → MA → (Nat → Int32) → Option (Int32 × MI × MA)) (I : MI) (A : MA) (X : Nat → Int32) : Option (Int32 × MI × MA) :=
  if (X 2) ≤ (X 3) then some (0, I, A) else (f_M_charAt I A (X 3)).bind (fun z1 => (fun r1 I1 A1 => (f_M_add I1 A1 r1).bind (fun z2 => (fun r2 I2 A2 => rc 2 I2 A2 (upd X 3 ((X 3) + 1))) z2.1 z2.2.1 z2.2.2)) z1.1 z1.2.1 z1.2.2)
def f_M_addText_go : Nat → Nat → MI → MA → (Nat → Int32) → Option (Int32 × MI × MA)
  | 0, _, _, _, _ => none
  | n + 1, t, I, A, X => if t = 2 then f_M_addText_2 (f_M_addText_go n) I A X else none
def f_M_addText_e (rc : Nat → MI → MA → (Nat → Int32) → Option (Int32 × MI × MA)) (I : MI) (A : MA) (k1 k2 : Int32) : Option (Int32 × MI × MA) :=
  rc 2 I A (upd (upd (upd (fun _ => 0) 1 k1) 2 k2) 3 k1)
def f_M_addText (I : MI) (A : MA) (k1 k2 : Int32) : Option (Int32 × MI × MA) := f_M_addText_e (f_M_addText_go wk_FUEL) I A k1 k2
def f_M_textLength (I : MI) (A : MA) : Option (Int32 × MI × MA) :=
  if wk_inb (I 4) 40 = true then some (((A 6) ((I 4)).toNatClampNeg), I, A) else none
def f_M_at_37 (I : MI) (A : MA) (X : Nat → Int32) (s0 : Int32) : Option (Int32 × MI × MA) :=
  if vp_nar .char s0 = s0 then some (s0, I, A) else none
def f_M_at_18 (I : MI) (A : MA) (X : Nat → Int32) (s0 : Int32) : Option (Int32 × MI × MA) :=
  wk_let (upd I 0 s0) (fun I1 => if (I1 0) = 0 then (f_M_charAt I1 A (X 1)).bind (fun z2 => (fun r2 I2 A2 => f_M_at_37 I2 A2 X r2) z2.1 z2.2.1 z2.2.2) else f_M_at_37 I1 A X 0)
def f_M_at_13 (I : MI) (A : MA) (X : Nat → Int32) : Option (Int32 × MI × MA) :=
  f_M_at_18 I A X 1
def f_M_at (I : MI) (A : MA) (k1 : Int32) : Option (Int32 × MI × MA) :=
  if k1 < 0 then f_M_at_13 I A (upd (fun _ => 0) 1 k1) else (f_M_textLength I A).bind (fun z1 => (fun r1 I1 A1 => if k1 < r1 then f_M_at_18 I1 A1 (upd (fun _ => 0) 1 k1) 0 else f_M_at_13 I1 A1 (upd (fun _ => 0) 1 k1)) z1.1 z1.2.1 z1.2.2)
def f_M_link_26 (I : MI) (A : MA) (X : Nat → Int32) : Option (Int32 × MI × MA) :=
  some (0, I, A)
def f_M_link (I : MI) (A : MA) (k1 k2 : Int32) : Option (Int32 × MI × MA) :=
  if wk_inb k1 160 = true then if 0 ≤ ((A 21) (k1).toNatClampNeg) then if wk_inb k1 160 = true then wk_let (va_up A 22 (upd (A 22) (k1).toNatClampNeg k2)) (fun A1 => f_M_link_26 I A1 (upd (upd (fun _ => 0) 1 k1) 2 k2)) else none else if wk_inb k1 160 = true then wk_let (va_up A 21 (upd (A 21) (k1).toNatClampNeg k2)) (fun A1 => f_M_link_26 I A1 (upd (upd (fun _ => 0) 1 k1) 2 k2)) else none else none
def f_M_piece (I : MI) (A : MA) (k1 k2 : Int32) : Option (Int32 × MI × MA) :=
  if wk_inb (I 25) 160 = true then wk_let (va_up A 26 (upd (A 26) ((I 25)).toNatClampNeg k1)) (fun A1 => if wk_inb (I 25) 160 = true then wk_let (va_up A1 27 (upd (A1 27) ((I 25)).toNatClampNeg k2)) (fun A2 => wk_let (upd I 25 ((I 25) + 1)) (fun I3 => some (((I3 25) - 1), I3, A2))) else none) else none
def f_M_behind (I : MI) (A : MA) (k1 k2 : Int32) : Option (Int32 × MI × MA) :=
  if 0 ≤ k2 then if wk_inb k1 160 = true then if wk_inb k2 160 = true then (f_M_link I A ((A 27) (k1).toNatClampNeg) ((A 26) (k2).toNatClampNeg)).bind (fun z1 => (fun r1 I1 A1 => if wk_inb k1 160 = true then if wk_inb k2 160 = true then (f_M_piece I1 A1 ((A1 26) (k1).toNatClampNeg) ((A1 27) (k2).toNatClampNeg)).bind (fun z2 => (fun r2 I2 A2 => some (r2, I2, A2)) z2.1 z2.2.1 z2.2.2) else none else none) z1.1 z1.2.1 z1.2.2) else none else none else some (k1, I, A)
def f_M_breaks_25 (rc : Nat → MI → MA → (Nat → Int32) → Option (Int32 × MI × MA)) (I : MI) (A : MA) (X : Nat → Int32) (s0 : Int32) (s1 : Int32) : Option (Int32 × MI × MA) :=
  rc 4 I A (upd (upd X 2 (s1 + s0)) 3 ((X 3) + 1))
def f_M_breaks_4 (rc : Nat → MI → MA → (Nat → Int32) → Option (Int32 × MI × MA)) (I : MI) (A : MA) (X : Nat → Int32) : Option (Int32 × MI × MA) :=
  if (X 1) ≤ (X 3) then some ((X 2), I, A) else (f_M_charAt I A (X 3)).bind (fun z1 => (fun r1 I1 A1 => if r1 = 10 then f_M_breaks_25 rc I1 A1 X 1 (X 2) else f_M_breaks_25 rc I1 A1 X 0 (X 2)) z1.1 z1.2.1 z1.2.2)
def f_M_breaks_go : Nat → Nat → MI → MA → (Nat → Int32) → Option (Int32 × MI × MA)
  | 0, _, _, _, _ => none
  | n + 1, t, I, A, X => if t = 4 then f_M_breaks_4 (f_M_breaks_go n) I A X else none
def f_M_breaks_e (rc : Nat → MI → MA → (Nat → Int32) → Option (Int32 × MI × MA)) (I : MI) (A : MA) (k1 : Int32) : Option (Int32 × MI × MA) :=
  rc 4 I A (upd (upd (upd (fun _ => 0) 1 k1) 2 0) 3 0)
def f_M_breaks (I : MI) (A : MA) (k1 : Int32) : Option (Int32 × MI × MA) := f_M_breaks_e (f_M_breaks_go wk_FUEL) I A k1
def f_M_isTimes_23 (X : Nat → Int32) (s0 : Int32) : Option Int32 :=
  if vp_nar .boolean s0 = s0 then some s0 else none
def f_M_isTimes_18 (X : Nat → Int32) : Option Int32 :=
  f_M_isTimes_23 X 1
def f_M_isTimes (k0 : Int32) : Option Int32 :=
  if k0 = 42 then f_M_isTimes_18 (upd (fun _ => 0) 0 k0) else if k0 = 43 then f_M_isTimes_18 (upd (fun _ => 0) 0 k0) else if k0 = 63 then f_M_isTimes_18 (upd (fun _ => 0) 0 k0) else f_M_isTimes_23 (upd (fun _ => 0) 0 k0) 0
def f_M_node (I : MI) (A : MA) (k1 k2 k3 : Int32) : Option (Int32 × MI × MA) :=
  if wk_inb (I 17) 160 = true then wk_let (va_up A 18 (upd (A 18) ((I 17)).toNatClampNeg k1)) (fun A1 => if wk_inb (I 17) 160 = true then wk_let (va_up A1 19 (upd (A1 19) ((I 17)).toNatClampNeg k2)) (fun A2 => if wk_inb (I 17) 160 = true then wk_let (va_up A2 20 (upd (A2 20) ((I 17)).toNatClampNeg k3)) (fun A3 => if wk_inb (I 17) 160 = true then wk_let (va_up A3 21 (upd (A3 21) ((I 17)).toNatClampNeg (-1))) (fun A4 => if wk_inb (I 17) 160 = true then wk_let (va_up A4 22 (upd (A4 22) ((I 17)).toNatClampNeg (-1))) (fun A5 => wk_let (upd I 17 ((I 17) + 1)) (fun I6 => some (((I6 17) - 1), I6, A5))) else none) else none) else none) else none) else none
def f_M_single (I : MI) (A : MA) (k1 k2 k3 : Int32) : Option (Int32 × MI × MA) :=
  (f_M_node I A k1 k2 k3).bind (fun z1 => (fun r1 I1 A1 => (f_M_node I1 A1 0 0 0).bind (fun z2 => (fun r2 I2 A2 => (f_M_link I2 A2 r1 r2).bind (fun z3 => (fun r3 I3 A3 => (f_M_piece I3 A3 r1 r2).bind (fun z4 => (fun r4 I4 A4 => some (r4, I4, A4)) z4.1 z4.2.1 z4.2.2)) z3.1 z3.2.1 z3.2.2)) z2.1 z2.2.1 z2.2.2)) z1.1 z1.2.1 z1.2.2)
def f_M_newPart (I : MI) (A : MA) (k1 : Int32) : Option (Int32 × MI × MA) :=
  if wk_inb ((I 28) - 1) 26 = true then if wk_inb ((I 28) - 1) 26 = true then (f_M_behind I A ((A 30) (((I 28) - 1)).toNatClampNeg) ((A 31) (((I 28) - 1)).toNatClampNeg)).bind (fun z1 => (fun r1 I1 A1 => if wk_inb ((I 28) - 1) 26 = true then wk_let (va_up A1 30 (upd (A1 30) (((I 28) - 1)).toNatClampNeg r1)) (fun A2 => if wk_inb ((I 28) - 1) 26 = true then wk_let (va_up A2 31 (upd (A2 31) (((I 28) - 1)).toNatClampNeg k1)) (fun A3 => some (0, I1, A3)) else none) else none) z1.1 z1.2.1 z1.2.2) else none else none
def f_M_either (I : MI) (A : MA) (k1 k2 : Int32) : Option (Int32 × MI × MA) :=
  if 0 ≤ k1 then (f_M_node I A 0 0 0).bind (fun z1 => (fun r1 I1 A1 => (f_M_node I1 A1 0 0 0).bind (fun z2 => (fun r2 I2 A2 => if wk_inb k1 160 = true then (f_M_link I2 A2 r1 ((A2 26) (k1).toNatClampNeg)).bind (fun z3 => (fun r3 I3 A3 => if wk_inb k2 160 = true then (f_M_link I3 A3 r1 ((A3 26) (k2).toNatClampNeg)).bind (fun z4 => (fun r4 I4 A4 => if wk_inb k1 160 = true then (f_M_link I4 A4 ((A4 27) (k1).toNatClampNeg) r2).bind (fun z5 => (fun r5 I5 A5 => if wk_inb k2 160 = true then (f_M_link I5 A5 ((A5 27) (k2).toNatClampNeg) r2).bind (fun z6 => (fun r6 I6 A6 => (f_M_piece I6 A6 r1 r2).bind (fun z7 => (fun r7 I7 A7 => some (r7, I7, A7)) z7.1 z7.2.1 z7.2.2)) z6.1 z6.2.1 z6.2.2) else none) z5.1 z5.2.1 z5.2.2) else none) z4.1 z4.2.1 z4.2.2) else none) z3.1 z3.2.1 z3.2.2) else none) z2.1 z2.2.1 z2.2.2)) z1.1 z1.2.1 z1.2.2) else some (k2, I, A)
def f_M_endRow (I : MI) (A : MA) : Option (Int32 × MI × MA) :=
  if wk_inb ((I 28) - 1) 26 = true then if wk_inb ((I 28) - 1) 26 = true then (f_M_behind I A ((A 30) (((I 28) - 1)).toNatClampNeg) ((A 31) (((I 28) - 1)).toNatClampNeg)).bind (fun z1 => (fun r1 I1 A1 => if wk_inb ((I 28) - 1) 26 = true then (f_M_either I1 A1 ((A1 29) (((I 28) - 1)).toNatClampNeg) r1).bind (fun z2 => (fun r2 I2 A2 => if wk_inb ((I 28) - 1) 26 = true then wk_let (va_up A2 29 (upd (A2 29) (((I 28) - 1)).toNatClampNeg r2)) (fun A3 => if wk_inb ((I 28) - 1) 26 = true then wk_let (va_up A3 31 (upd (A3 31) (((I 28) - 1)).toNatClampNeg (-1))) (fun A4 => some (0, I2, A4)) else none) else none) z2.1 z2.2.1 z2.2.2) else none) z1.1 z1.2.1 z1.2.2) else none else none
def f_M_nothing (I : MI) (A : MA) : Option (Int32 × MI × MA) :=
  (f_M_node I A 0 0 0).bind (fun z1 => (fun r1 I1 A1 => (f_M_piece I1 A1 r1 r1).bind (fun z2 => (fun r2 I2 A2 => some (r2, I2, A2)) z2.1 z2.2.1 z2.2.2)) z1.1 z1.2.1 z1.2.2)
def f_M_openGroup (I : MI) (A : MA) : Option (Int32 × MI × MA) :=
  if wk_inb (I 28) 26 = true then wk_let (va_up A 29 (upd (A 29) ((I 28)).toNatClampNeg (-1))) (fun A1 => (f_M_nothing I A1).bind (fun z2 => (fun r2 I2 A2 => if wk_inb (I 28) 26 = true then wk_let (va_up A2 30 (upd (A2 30) ((I 28)).toNatClampNeg r2)) (fun A3 => if wk_inb (I2 28) 26 = true then wk_let (va_up A3 31 (upd (A3 31) ((I2 28)).toNatClampNeg (-1))) (fun A4 => wk_let (upd I2 28 ((I2 28) + 1)) (fun I5 => some (0, I5, A4))) else none) else none) z2.1 z2.2.1 z2.2.2)) else none
def f_M_times_74 (I : MI) (A : MA) (X : Nat → Int32) : Option (Int32 × MI × MA) :=
  (f_M_piece I A (X 4) (X 5)).bind (fun z1 => (fun r1 I1 A1 => some (r1, I1, A1)) z1.1 z1.2.1 z1.2.2)
def f_M_times_54 (I : MI) (A : MA) (X : Nat → Int32) : Option (Int32 × MI × MA) :=
  if (X 3) = 0 then f_M_times_74 I A X else if wk_inb (X 1) 160 = true then if wk_inb (X 1) 160 = true then (f_M_link I A ((A 27) ((X 1)).toNatClampNeg) ((A 26) ((X 1)).toNatClampNeg)).bind (fun z1 => (fun r1 I1 A1 => f_M_times_74 I1 A1 X) z1.1 z1.2.1 z1.2.2) else none else none
def f_M_times (I : MI) (A : MA) (k1 k2 k3 : Int32) : Option (Int32 × MI × MA) :=
  (f_M_node I A 0 0 0).bind (fun z1 => (fun r1 I1 A1 => (f_M_node I1 A1 0 0 0).bind (fun z2 => (fun r2 I2 A2 => if wk_inb k1 160 = true then (f_M_link I2 A2 r1 ((A2 26) (k1).toNatClampNeg)).bind (fun z3 => (fun r3 I3 A3 => if wk_inb k1 160 = true then (f_M_link I3 A3 ((A3 27) (k1).toNatClampNeg) r2).bind (fun z4 => (fun r4 I4 A4 => if k2 = 0 then f_M_times_54 I4 A4 (upd (upd (upd (upd (upd (fun _ => 0) 1 k1) 2 k2) 3 k3) 4 r1) 5 r2) else (f_M_link I4 A4 r1 r2).bind (fun z5 => (fun r5 I5 A5 => f_M_times_54 I5 A5 (upd (upd (upd (upd (upd (fun _ => 0) 1 k1) 2 k2) 3 k3) 4 r1) 5 r2)) z5.1 z5.2.1 z5.2.2)) z4.1 z4.2.1 z4.2.2) else none) z3.1 z3.2.1 z3.2.2) else none) z2.1 z2.2.1 z2.2.2)) z1.1 z1.2.1 z1.2.2)
def f_M_build_273 (rc : Nat → MI → MA → (Nat → Int32) → Option (Int32 × MI × MA)) (I : MI) (A : MA) (X : Nat → Int32) : Option (Int32 × MI × MA) :=
  some ((X 4), I, A)
def f_M_build_132 (rc : Nat → MI → MA → (Nat → Int32) → Option (Int32 × MI × MA)) (I : MI) (A : MA) (X : Nat → Int32) (s0 : Int32) (s1 : Int32) (s2 : Int32) (s4 : Int32) : Option (Int32 × MI × MA) :=
  (f_M_times I A s2 s1 s0).bind (fun z1 => (fun r1 I1 A1 => if wk_inb s4 26 = true then wk_let (va_up A1 31 (upd (A1 31) (s4).toNatClampNeg r1)) (fun A2 => f_M_build_273 rc I1 A2 X) else none) z1.1 z1.2.1 z1.2.2)
def f_M_build_121 (rc : Nat → MI → MA → (Nat → Int32) → Option (Int32 × MI × MA)) (I : MI) (A : MA) (X : Nat → Int32) (s0 : Int32) (s1 : Int32) (s3 : Int32) : Option (Int32 × MI × MA) :=
  if (X 2) = 63 then f_M_build_132 rc I A X 0 s0 s1 s3 else f_M_build_132 rc I A X 1 s0 s1 s3
def f_M_build_150 (rc : Nat → MI → MA → (Nat → Int32) → Option (Int32 × MI × MA)) (I : MI) (A : MA) (X : Nat → Int32) : Option (Int32 × MI × MA) :=
  if wk_inb (X 4) 24 = true then if ((A 16) ((X 4)).toNatClampNeg) = 93 then (f_M_single I A 3 ((X 1) + 1) (X 4)).bind (fun z1 => (fun r1 I1 A1 => (f_M_newPart I1 A1 r1).bind (fun z2 => (fun r2 I2 A2 => f_M_build_273 rc I2 A2 (upd X 4 ((X 4) + 1))) z2.1 z2.2.1 z2.2.2)) z1.1 z1.2.1 z1.2.2) else rc 150 I A (upd X 4 ((X 4) + 1)) else none
def f_M_build_260 (rc : Nat → MI → MA → (Nat → Int32) → Option (Int32 × MI × MA)) (I : MI) (A : MA) (X : Nat → Int32) (s0 : Int32) : Option (Int32 × MI × MA) :=
  (f_M_single I A s0 (X 2) 0).bind (fun z1 => (fun r1 I1 A1 => (f_M_newPart I1 A1 r1).bind (fun z2 => (fun r2 I2 A2 => f_M_build_273 rc I2 A2 X) z2.1 z2.2.1 z2.2.2)) z1.1 z1.2.1 z1.2.2)
def f_M_build_go : Nat → Nat → MI → MA → (Nat → Int32) → Option (Int32 × MI × MA)
  | 0, _, _, _, _ => none
  | n + 1, t, I, A, X => if t = 150 then f_M_build_150 (f_M_build_go n) I A X else none
def f_M_build_e (rc : Nat → MI → MA → (Nat → Int32) → Option (Int32 × MI × MA)) (I : MI) (A : MA) (k1 : Int32) : Option (Int32 × MI × MA) :=
  if wk_inb k1 24 = true then if ((A 16) (k1).toNatClampNeg) = 40 then (f_M_openGroup I A).bind (fun z1 => (fun r1 I1 A1 => f_M_build_273 rc I1 A1 (upd (upd (upd (upd (fun _ => 0) 1 k1) 2 ((A 16) (k1).toNatClampNeg)) 3 ((I 28) - 1)) 4 (k1 + 1))) z1.1 z1.2.1 z1.2.2) else if ((A 16) (k1).toNatClampNeg) = 41 then (f_M_endRow I A).bind (fun z1 => (fun r1 I1 A1 => wk_let (upd I1 28 ((I1 28) - 1)) (fun I2 => if wk_inb (I2 28) 26 = true then (f_M_newPart I2 A1 ((A1 29) ((I2 28)).toNatClampNeg)).bind (fun z3 => (fun r3 I3 A3 => f_M_build_273 rc I3 A3 (upd (upd (upd (upd (fun _ => 0) 1 k1) 2 ((A 16) (k1).toNatClampNeg)) 3 ((I 28) - 1)) 4 (k1 + 1))) z3.1 z3.2.1 z3.2.2) else none)) z1.1 z1.2.1 z1.2.2) else if ((A 16) (k1).toNatClampNeg) = 124 then (f_M_endRow I A).bind (fun z1 => (fun r1 I1 A1 => (f_M_nothing I1 A1).bind (fun z2 => (fun r2 I2 A2 => if wk_inb ((I 28) - 1) 26 = true then wk_let (va_up A2 30 (upd (A2 30) (((I 28) - 1)).toNatClampNeg r2)) (fun A3 => f_M_build_273 rc I2 A3 (upd (upd (upd (upd (fun _ => 0) 1 k1) 2 ((A 16) (k1).toNatClampNeg)) 3 ((I 28) - 1)) 4 (k1 + 1))) else none) z2.1 z2.2.1 z2.2.2)) z1.1 z1.2.1 z1.2.2) else (f_M_isTimes  ((A 16) (k1).toNatClampNeg)).bind (fun z1 => if z1 = 0 then if ((A 16) (k1).toNatClampNeg) = 91 then rc 150 I A (upd (upd (upd (upd (fun _ => 0) 1 k1) 2 ((A 16) (k1).toNatClampNeg)) 3 ((I 28) - 1)) 4 (k1 + 2)) else if ((A 16) (k1).toNatClampNeg) = 92 then if wk_inb (k1 + 1) 24 = true then (f_M_single I A 1 ((A 16) ((k1 + 1)).toNatClampNeg) 0).bind (fun z2 => (fun r2 I2 A2 => (f_M_newPart I2 A2 r2).bind (fun z3 => (fun r3 I3 A3 => f_M_build_273 rc I3 A3 (upd (upd (upd (upd (fun _ => 0) 1 k1) 2 ((A 16) (k1).toNatClampNeg)) 3 ((I 28) - 1)) 4 (k1 + 2))) z3.1 z3.2.1 z3.2.2)) z2.1 z2.2.1 z2.2.2) else none else if ((A 16) (k1).toNatClampNeg) = 46 then f_M_build_260 rc I A (upd (upd (upd (upd (fun _ => 0) 1 k1) 2 ((A 16) (k1).toNatClampNeg)) 3 ((I 28) - 1)) 4 (k1 + 1)) 2 else if ((A 16) (k1).toNatClampNeg) = 94 then f_M_build_260 rc I A (upd (upd (upd (upd (fun _ => 0) 1 k1) 2 ((A 16) (k1).toNatClampNeg)) 3 ((I 28) - 1)) 4 (k1 + 1)) 4 else if ((A 16) (k1).toNatClampNeg) = 36 then f_M_build_260 rc I A (upd (upd (upd (upd (fun _ => 0) 1 k1) 2 ((A 16) (k1).toNatClampNeg)) 3 ((I 28) - 1)) 4 (k1 + 1)) 5 else f_M_build_260 rc I A (upd (upd (upd (upd (fun _ => 0) 1 k1) 2 ((A 16) (k1).toNatClampNeg)) 3 ((I 28) - 1)) 4 (k1 + 1)) 1 else if wk_inb ((I 28) - 1) 26 = true then if ((A 16) (k1).toNatClampNeg) = 43 then f_M_build_121 rc I A (upd (upd (upd (upd (fun _ => 0) 1 k1) 2 ((A 16) (k1).toNatClampNeg)) 3 ((I 28) - 1)) 4 (k1 + 1)) 0 ((A 31) (((I 28) - 1)).toNatClampNeg) ((I 28) - 1) else f_M_build_121 rc I A (upd (upd (upd (upd (fun _ => 0) 1 k1) 2 ((A 16) (k1).toNatClampNeg)) 3 ((I 28) - 1)) 4 (k1 + 1)) 1 ((A 31) (((I 28) - 1)).toNatClampNeg) ((I 28) - 1) else none) else none
def f_M_build (I : MI) (A : MA) (k1 : Int32) : Option (Int32 × MI × MA) := f_M_build_e (f_M_build_go wk_FUEL) I A k1
def f_M_come (I : MI) (A : MA) (k1 : Int32) : Option (Int32 × MI × MA) :=
  if wk_inb (I 4) 40 = true then wk_let (va_up A 7 (upd (A 7) ((I 4)).toNatClampNeg (I 11))) (fun A1 => wk_let (upd I 4 k1) (fun I2 => if wk_inb k1 40 = true then wk_let (upd I2 11 ((A1 7) (k1).toNatClampNeg)) (fun I3 => wk_let (upd I3 12 (-1)) (fun I4 => wk_let (upd I4 10 ((I4 10) + 1)) (fun I5 => if wk_inb k1 40 = true then wk_let (va_up A1 9 (upd (A1 9) (k1).toNatClampNeg (I5 10))) (fun A6 => some (0, I5, A6)) else none))) else none)) else none
def f_M_isPlain_77 (X : Nat → Int32) (s0 : Int32) : Option Int32 :=
  if vp_nar .boolean s0 = s0 then some s0 else none
def f_M_isPlain_76 (X : Nat → Int32) : Option Int32 :=
  f_M_isPlain_77 X 0
def f_M_isPlain (k0 : Int32) : Option Int32 :=
  if k0 = 40 then f_M_isPlain_76 (upd (fun _ => 0) 0 k0) else if k0 = 41 then f_M_isPlain_76 (upd (fun _ => 0) 0 k0) else if k0 = 91 then f_M_isPlain_76 (upd (fun _ => 0) 0 k0) else if k0 = 93 then f_M_isPlain_76 (upd (fun _ => 0) 0 k0) else if k0 = 124 then f_M_isPlain_76 (upd (fun _ => 0) 0 k0) else if k0 = 42 then f_M_isPlain_76 (upd (fun _ => 0) 0 k0) else if k0 = 43 then f_M_isPlain_76 (upd (fun _ => 0) 0 k0) else if k0 = 63 then f_M_isPlain_76 (upd (fun _ => 0) 0 k0) else if k0 = 46 then f_M_isPlain_76 (upd (fun _ => 0) 0 k0) else if k0 = 94 then f_M_isPlain_76 (upd (fun _ => 0) 0 k0) else if k0 = 36 then f_M_isPlain_76 (upd (fun _ => 0) 0 k0) else if k0 = 92 then f_M_isPlain_76 (upd (fun _ => 0) 0 k0) else f_M_isPlain_77 (upd (fun _ => 0) 0 k0) 1
def f_M_good_244 (rc : Nat → MI → MA → (Nat → Int32) → Option (Int32 × MI × MA)) (I : MI) (A : MA) (X : Nat → Int32) (s0 : Int32) : Option (Int32 × MI × MA) :=
  some (s0, I, A)
def f_M_good_231 (rc : Nat → MI → MA → (Nat → Int32) → Option (Int32 × MI × MA)) (I : MI) (A : MA) (X : Nat → Int32) : Option (Int32 × MI × MA) :=
  f_M_good_244 rc I A X ((-1) - (I 1))
def f_M_good_216 (rc : Nat → MI → MA → (Nat → Int32) → Option (Int32 × MI × MA)) (I : MI) (A : MA) (X : Nat → Int32) : Option (Int32 × MI × MA) :=
  rc 6 I A (upd X 3 ((X 3) + 1))
def f_M_good_164 (rc : Nat → MI → MA → (Nat → Int32) → Option (Int32 × MI × MA)) (I : MI) (A : MA) (X : Nat → Int32) (s0 : Int32) : Option (Int32 × MI × MA) :=
  f_M_good_216 rc I A (upd X 1 s0)
def f_M_good_152 (rc : Nat → MI → MA → (Nat → Int32) → Option (Int32 × MI × MA)) (I : MI) (A : MA) (X : Nat → Int32) : Option (Int32 × MI × MA) :=
  if (X 4) = 91 then f_M_good_164 rc I A X 3 else f_M_good_164 rc I A X 2
def f_M_good_197 (rc : Nat → MI → MA → (Nat → Int32) → Option (Int32 × MI × MA)) (I : MI) (A : MA) (X : Nat → Int32) : Option (Int32 × MI × MA) :=
  f_M_good_216 rc I A (upd X 1 1)
def f_M_good_214 (rc : Nat → MI → MA → (Nat → Int32) → Option (Int32 × MI × MA)) (I : MI) (A : MA) (X : Nat → Int32) : Option (Int32 × MI × MA) :=
  some ((X 3), I, A)
def f_M_good_126 (rc : Nat → MI → MA → (Nat → Int32) → Option (Int32 × MI × MA)) (I : MI) (A : MA) (X : Nat → Int32) : Option (Int32 × MI × MA) :=
  if (X 4) = 124 then f_M_good_216 rc I A (upd X 1 0) else if (X 4) = 91 then f_M_good_152 rc I A X else if (X 4) = 92 then f_M_good_152 rc I A X else (f_M_isPlain  (X 4)).bind (fun z1 => if z1 = 0 then if (X 4) = 46 then f_M_good_197 rc I A X else if (X 4) = 94 then f_M_good_197 rc I A X else if (X 4) = 36 then f_M_good_197 rc I A X else (f_M_isTimes  (X 4)).bind (fun z2 => if z2 = 0 then f_M_good_214 rc I A X else if (X 1) = 0 then f_M_good_214 rc I A X else f_M_good_216 rc I A X) else f_M_good_197 rc I A X)
def f_M_good_80 (rc : Nat → MI → MA → (Nat → Int32) → Option (Int32 × MI × MA)) (I : MI) (A : MA) (X : Nat → Int32) (s0 : Int32) : Option (Int32 × MI × MA) :=
  f_M_good_216 rc I A (upd X 1 s0)
def f_M_good_68 (rc : Nat → MI → MA → (Nat → Int32) → Option (Int32 × MI × MA)) (I : MI) (A : MA) (X : Nat → Int32) : Option (Int32 × MI × MA) :=
  if (X 4) = 93 then f_M_good_80 rc I A X 1 else f_M_good_80 rc I A X 5
def f_M_good_49 (rc : Nat → MI → MA → (Nat → Int32) → Option (Int32 × MI × MA)) (I : MI) (A : MA) (X : Nat → Int32) : Option (Int32 × MI × MA) :=
  if (X 1) ≤ 2 then if (X 4) = 40 then if (X 2) = 8 then some ((X 3), I, A) else f_M_good_216 rc I A (upd (upd X 1 0) 2 ((X 2) + 1)) else if (X 4) = 41 then if (X 2) ≤ 0 then f_M_good_126 rc I A X else f_M_good_216 rc I A (upd (upd X 1 1) 2 ((X 2) + (-1))) else f_M_good_126 rc I A X else if (X 4) = 93 then if 5 ≤ (X 1) then f_M_good_68 rc I A X else some ((X 3), I, A) else f_M_good_68 rc I A X
def f_M_good_6 (rc : Nat → MI → MA → (Nat → Int32) → Option (Int32 × MI × MA)) (I : MI) (A : MA) (X : Nat → Int32) : Option (Int32 × MI × MA) :=
  if (I 1) ≤ (X 3) then if 1 < (X 1) then f_M_good_231 rc I A X else if (X 2) ≤ 0 then f_M_good_244 rc I A X (I 1) else f_M_good_231 rc I A X else if wk_inb (X 3) 24 = true then if (X 1) = 2 then f_M_good_216 rc I A (upd (upd X 1 1) 4 ((A 2) ((X 3)).toNatClampNeg)) else if (X 1) = 3 then if ((A 2) ((X 3)).toNatClampNeg) = 94 then f_M_good_216 rc I A (upd (upd X 1 4) 4 ((A 2) ((X 3)).toNatClampNeg)) else f_M_good_49 rc I A (upd X 4 ((A 2) ((X 3)).toNatClampNeg)) else f_M_good_49 rc I A (upd X 4 ((A 2) ((X 3)).toNatClampNeg)) else none
def f_M_good_go : Nat → Nat → MI → MA → (Nat → Int32) → Option (Int32 × MI × MA)
  | 0, _, _, _, _ => none
  | n + 1, t, I, A, X => if t = 6 then f_M_good_6 (f_M_good_go n) I A X else none
def f_M_good_e (rc : Nat → MI → MA → (Nat → Int32) → Option (Int32 × MI × MA)) (I : MI) (A : MA) : Option (Int32 × MI × MA) :=
  rc 6 I A (upd (upd (upd (fun _ => 0) 1 0) 2 0) 3 0)
def f_M_good (I : MI) (A : MA) : Option (Int32 × MI × MA) := f_M_good_e (f_M_good_go wk_FUEL) I A 
def f_M_compile_52 (rc : Nat → MI → MA → (Nat → Int32) → Option (Int32 × MI × MA)) (I : MI) (A : MA) (X : Nat → Int32) (s0 : Int32) : Option (Int32 × MI × MA) :=
  wk_let (upd I 14 s0) (fun I1 => if (X 2) = 0 then some (0, I1, A) else wk_let (upd I1 15 (I1 1)) (fun I2 => rc 70 I2 A (upd X 3 0)))
def f_M_compile_29 (rc : Nat → MI → MA → (Nat → Int32) → Option (Int32 × MI × MA)) (I : MI) (A : MA) (X : Nat → Int32) (s0 : Int32) : Option (Int32 × MI × MA) :=
  wk_let (upd I 0 s0) (fun I1 => if (X 2) = 0 then if 0 ≤ (X 1) then f_M_compile_52 rc I1 A X (X 1) else f_M_compile_52 rc I1 A X ((-1) - (X 1)) else f_M_compile_52 rc I1 A X (-1))
def f_M_compile_18 (rc : Nat → MI → MA → (Nat → Int32) → Option (Int32 × MI × MA)) (I : MI) (A : MA) (X : Nat → Int32) (s0 : Int32) : Option (Int32 × MI × MA) :=
  if s0 = 0 then f_M_compile_29 rc I A (upd X 2 s0) 1 else f_M_compile_29 rc I A (upd X 2 s0) 0
def f_M_compile_70 (rc : Nat → MI → MA → (Nat → Int32) → Option (Int32 × MI × MA)) (I : MI) (A : MA) (X : Nat → Int32) : Option (Int32 × MI × MA) :=
  if (I 1) ≤ (X 3) then wk_let (upd I 1 0) (fun I1 => wk_let (upd I1 17 0) (fun I2 => wk_let (upd I2 25 0) (fun I3 => wk_let (upd I3 28 0) (fun I4 => (f_M_openGroup I4 A).bind (fun z5 => (fun r5 I5 A5 => rc 122 I5 A5 (upd X 3 0)) z5.1 z5.2.1 z5.2.2))))) else if wk_inb (X 3) 24 = true then if wk_inb (X 3) 24 = true then wk_let (va_up A 16 (upd (A 16) ((X 3)).toNatClampNeg (vp_nar .char ((A 2) ((X 3)).toNatClampNeg)))) (fun A1 => rc 70 I A1 (upd X 3 ((X 3) + 1))) else none else none
def f_M_compile_122 (rc : Nat → MI → MA → (Nat → Int32) → Option (Int32 × MI × MA)) (I : MI) (A : MA) (X : Nat → Int32) : Option (Int32 × MI × MA) :=
  if (I 15) ≤ (X 3) then (f_M_endRow I A).bind (fun z1 => (fun r1 I1 A1 => if wk_inb 0 26 = true then if wk_inb ((A1 29) (0 : Int32).toNatClampNeg) 160 = true then wk_let (upd I1 23 ((A1 26) (((A1 29) (0 : Int32).toNatClampNeg)).toNatClampNeg)) (fun I2 => if wk_inb 0 26 = true then if wk_inb ((A1 29) (0 : Int32).toNatClampNeg) 160 = true then wk_let (upd I2 24 ((A1 27) (((A1 29) (0 : Int32).toNatClampNeg)).toNatClampNeg)) (fun I3 => wk_let (upd I3 13 1) (fun I4 => some (0, I4, A1))) else none else none) else none else none) z1.1 z1.2.1 z1.2.2) else (f_M_build I A (X 3)).bind (fun z1 => (fun r1 I1 A1 => rc 122 I1 A1 (upd X 3 r1)) z1.1 z1.2.1 z1.2.2)
def f_M_compile_go : Nat → Nat → MI → MA → (Nat → Int32) → Option (Int32 × MI × MA)
  | 0, _, _, _, _ => none
  | n + 1, t, I, A, X => if t = 70 then f_M_compile_70 (f_M_compile_go n) I A X else if t = 122 then f_M_compile_122 (f_M_compile_go n) I A X else none
def f_M_compile_e (rc : Nat → MI → MA → (Nat → Int32) → Option (Int32 × MI × MA)) (I : MI) (A : MA) : Option (Int32 × MI × MA) :=
  (f_M_good I A).bind (fun z1 => (fun r1 I1 A1 => if r1 = (I1 1) then f_M_compile_18 rc I1 A1 (upd (fun _ => 0) 1 r1) 1 else f_M_compile_18 rc I1 A1 (upd (fun _ => 0) 1 r1) 0) z1.1 z1.2.1 z1.2.2)
def f_M_compile (I : MI) (A : MA) : Option (Int32 × MI × MA) := f_M_compile_e (f_M_compile_go wk_FUEL) I A 
def f_M_edit_17 (rc : Nat → MI → MA → (Nat → Int32) → Option (Int32 × MI × MA)) (I : MI) (A : MA) (X : Nat → Int32) : Option (Int32 × MI × MA) :=
  if (I 36) ≤ (X 3) then if wk_inb (X 2) 40 = true then wk_let (va_up A 6 (upd (A 6) ((X 2)).toNatClampNeg (I 36))) (fun A1 => if wk_inb (X 2) 40 = true then wk_let (va_up A1 7 (upd (A1 7) ((X 2)).toNatClampNeg (X 1))) (fun A2 => if wk_inb (X 2) 40 = true then wk_let (va_up A2 8 (upd (A2 8) ((X 2)).toNatClampNeg (I 4))) (fun A3 => (f_M_come I A3 (X 2)).bind (fun z4 => (fun r4 I4 A4 => some (0, I4, A4)) z4.1 z4.2.1 z4.2.2)) else none) else none) else none else if wk_inb (X 3) 4000 = true then if wk_inb ((160 * (X 2)) + (X 3)) 6400 = true then wk_let (va_up A 5 (upd (A 5) (((160 * (X 2)) + (X 3))).toNatClampNeg (vp_nar .char ((A 37) ((X 3)).toNatClampNeg)))) (fun A1 => rc 17 I A1 (upd X 3 ((X 3) + 1))) else none else none
def f_M_edit_go : Nat → Nat → MI → MA → (Nat → Int32) → Option (Int32 × MI × MA)
  | 0, _, _, _, _ => none
  | n + 1, t, I, A, X => if t = 17 then f_M_edit_17 (f_M_edit_go n) I A X else none
def f_M_edit_e (rc : Nat → MI → MA → (Nat → Int32) → Option (Int32 × MI × MA)) (I : MI) (A : MA) (k1 : Int32) : Option (Int32 × MI × MA) :=
  wk_let (upd I 3 ((I 3) + 1)) (fun I1 => rc 17 I1 A (upd (upd (upd (fun _ => 0) 1 k1) 2 (I 3)) 3 0))
def f_M_edit (I : MI) (A : MA) (k1 : Int32) : Option (Int32 × MI × MA) := f_M_edit_e (f_M_edit_go wk_FUEL) I A k1
def f_M_low_29 (I : MI) (A : MA) (X : Nat → Int32) (s0 : Int32) : Option (Int32 × MI × MA) :=
  some (s0, I, A)
def f_M_low_25 (I : MI) (A : MA) (X : Nat → Int32) : Option (Int32 × MI × MA) :=
  f_M_low_29 I A X (I 11)
def f_M_low (I : MI) (A : MA) : Option (Int32 × MI × MA) :=
  if (I 12) < 0 then f_M_low_25 I A (fun _ => 0) else if (I 11) ≤ (I 12) then f_M_low_25 I A (fun _ => 0) else f_M_low_29 I A (fun _ => 0) (I 12)
def f_M_high_22 (I : MI) (A : MA) (X : Nat → Int32) (s0 : Int32) : Option (Int32 × MI × MA) :=
  some (s0, I, A)
def f_M_high (I : MI) (A : MA) : Option (Int32 × MI × MA) :=
  if (I 12) ≤ (I 11) then f_M_high_22 I A (fun _ => 0) (I 11) else f_M_high_22 I A (fun _ => 0) (I 12)
def f_M_erase_123 (I : MI) (A : MA) (X : Nat → Int32) : Option (Int32 × MI × MA) :=
  some (0, I, A)
def f_M_erase_108 (I : MI) (A : MA) (X : Nat → Int32) (s0 : Int32) : Option (Int32 × MI × MA) :=
  wk_let (upd I 0 s0) (fun I1 => if 0 < (I1 0) then f_M_erase_123 I1 A X else if (X 2) = (X 3) then f_M_erase_123 I1 A X else wk_let (upd I1 36 0) (fun I2 => (f_M_addText I2 A 0 (X 2)).bind (fun z3 => (fun r3 I3 A3 => (f_M_textLength I3 A3).bind (fun z4 => (fun r4 I4 A4 => (f_M_addText I4 A4 (X 3) r4).bind (fun z5 => (fun r5 I5 A5 => (f_M_edit I5 A5 (X 2)).bind (fun z6 => (fun r6 I6 A6 => some (((X 3) - (X 2)), I6, A6)) z6.1 z6.2.1 z6.2.2)) z5.1 z5.2.1 z5.2.2)) z4.1 z4.2.1 z4.2.2)) z3.1 z3.2.1 z3.2.2)))
def f_M_erase_107 (I : MI) (A : MA) (X : Nat → Int32) : Option (Int32 × MI × MA) :=
  f_M_erase_108 I A X 0
def f_M_erase_88 (I : MI) (A : MA) (X : Nat → Int32) : Option (Int32 × MI × MA) :=
  if (X 3) ≤ (X 2) then f_M_erase_107 I A X else if (I 3) = 40 then f_M_erase_108 I A X 1 else f_M_erase_107 I A X
def f_M_erase_87 (I : MI) (A : MA) (X : Nat → Int32) (s0 : Int32) : Option (Int32 × MI × MA) :=
  f_M_erase_88 I A (upd X 3 s0)
def f_M_erase_56 (I : MI) (A : MA) (X : Nat → Int32) (s0 : Int32) : Option (Int32 × MI × MA) :=
  if 0 ≤ (X 1) then if (X 1) ≤ (X 4) then f_M_erase_87 I A (upd X 2 s0) ((I 11) + (X 1)) else (f_M_textLength I A).bind (fun z1 => (fun r1 I1 A1 => f_M_erase_87 I1 A1 (upd X 2 s0) r1) z1.1 z1.2.1 z1.2.2) else f_M_erase_87 I A (upd X 2 s0) (I 11)
def f_M_erase (I : MI) (A : MA) (k1 : Int32) : Option (Int32 × MI × MA) :=
  (f_M_low I A).bind (fun z1 => (fun r1 I1 A1 => (f_M_high I1 A1).bind (fun z2 => (fun r2 I2 A2 => if r1 = r2 then (f_M_textLength I2 A2).bind (fun z3 => (fun r3 I3 A3 => if k1 < 0 then if (-(I3 11)) ≤ k1 then f_M_erase_56 I3 A3 (upd (upd (upd (upd (fun _ => 0) 1 k1) 2 r1) 3 r2) 4 (r3 - (I3 11))) ((I3 11) + k1) else f_M_erase_56 I3 A3 (upd (upd (upd (upd (fun _ => 0) 1 k1) 2 r1) 3 r2) 4 (r3 - (I3 11))) 0 else f_M_erase_56 I3 A3 (upd (upd (upd (upd (fun _ => 0) 1 k1) 2 r1) 3 r2) 4 (r3 - (I3 11))) (I3 11)) z3.1 z3.2.1 z3.2.2) else f_M_erase_88 I2 A2 (upd (upd (upd (fun _ => 0) 1 k1) 2 r1) 3 r2)) z2.1 z2.2.1 z2.2.2)) z1.1 z1.2.1 z1.2.2)
def f_M_fault (I : MI) (A : MA) : Option (Int32 × MI × MA) :=
  wk_let (upd I 0 0) (fun I1 => some ((I1 14), I1, A))
def f_M_figure_80 (I : MI) (A : MA) (X : Nat → Int32) (s0 : Int32) : Option (Int32 × MI × MA) :=
  some (s0, I, A)
def f_M_figure_15 (I : MI) (A : MA) (X : Nat → Int32) (s0 : Int32) : Option (Int32 × MI × MA) :=
  wk_let (upd I 0 s0) (fun I1 => if (I1 0) ≤ 0 then if (X 1) = 0 then f_M_figure_80 I1 A X (I1 4) else if (X 1) = 1 then f_M_figure_80 I1 A X (I1 3) else if (X 1) = 2 then f_M_figure_80 I1 A X (I1 11) else if (X 1) = 3 then f_M_figure_80 I1 A X (I1 12) else f_M_figure_80 I1 A X (I1 1) else f_M_figure_80 I1 A X 0)
def f_M_figure_10 (I : MI) (A : MA) (X : Nat → Int32) : Option (Int32 × MI × MA) :=
  f_M_figure_15 I A X 1
def f_M_figure (I : MI) (A : MA) (k1 : Int32) : Option (Int32 × MI × MA) :=
  if k1 < 0 then f_M_figure_10 I A (upd (fun _ => 0) 1 k1) else if k1 ≤ 4 then f_M_figure_15 I A (upd (fun _ => 0) 1 k1) 0 else f_M_figure_10 I A (upd (fun _ => 0) 1 k1)
def f_M_passes_90 (I : MI) (A : MA) (X : Nat → Int32) (s0 : Int32) : Option (Int32 × MI × MA) :=
  if vp_nar .boolean s0 = s0 then some (s0, I, A) else none
def f_M_passes_85 (I : MI) (A : MA) (X : Nat → Int32) : Option (Int32 × MI × MA) :=
  f_M_passes_90 I A X 1
def f_M_passes_89 (I : MI) (A : MA) (X : Nat → Int32) : Option (Int32 × MI × MA) :=
  f_M_passes_90 I A X 0
def f_M_passes_70 (I : MI) (A : MA) (X : Nat → Int32) : Option (Int32 × MI × MA) :=
  if wk_inb (X 1) 160 = true then if ((A 18) ((X 1)).toNatClampNeg) = 5 then if (X 4) = 0 then f_M_passes_89 I A X else f_M_passes_85 I A X else f_M_passes_89 I A X else none
def f_M_passes_45 (I : MI) (A : MA) (X : Nat → Int32) (s0 : Int32) : Option (Int32 × MI × MA) :=
  if wk_inb (X 1) 160 = true then if ((A 18) ((X 1)).toNatClampNeg) = 0 then f_M_passes_85 I A (upd X 4 s0) else if wk_inb (X 1) 160 = true then if ((A 18) ((X 1)).toNatClampNeg) = 4 then if (X 3) = 0 then f_M_passes_70 I A (upd X 4 s0) else f_M_passes_85 I A (upd X 4 s0) else f_M_passes_70 I A (upd X 4 s0) else none else none
def f_M_passes_40 (I : MI) (A : MA) (X : Nat → Int32) : Option (Int32 × MI × MA) :=
  f_M_passes_45 I A X 1
def f_M_passes_21 (I : MI) (A : MA) (X : Nat → Int32) (s0 : Int32) : Option (Int32 × MI × MA) :=
  (f_M_textLength I A).bind (fun z1 => (fun r1 I1 A1 => if (X 2) = r1 then f_M_passes_40 I1 A1 (upd X 3 s0) else (f_M_charAt I1 A1 (X 2)).bind (fun z2 => (fun r2 I2 A2 => if r2 = 10 then f_M_passes_40 I2 A2 (upd X 3 s0) else f_M_passes_45 I2 A2 (upd X 3 s0) 0) z2.1 z2.2.1 z2.2.2)) z1.1 z1.2.1 z1.2.2)
def f_M_passes_16 (I : MI) (A : MA) (X : Nat → Int32) : Option (Int32 × MI × MA) :=
  f_M_passes_21 I A X 1
def f_M_passes (I : MI) (A : MA) (k1 k2 : Int32) : Option (Int32 × MI × MA) :=
  if k2 = 0 then f_M_passes_16 I A (upd (upd (fun _ => 0) 1 k1) 2 k2) else (f_M_charAt I A (k2 - 1)).bind (fun z1 => (fun r1 I1 A1 => if r1 = 10 then f_M_passes_16 I1 A1 (upd (upd (fun _ => 0) 1 k1) 2 k2) else f_M_passes_21 I1 A1 (upd (upd (fun _ => 0) 1 k1) 2 k2) 0) z1.1 z1.2.1 z1.2.2)
def f_M_reach_30 (I : MI) (A : MA) (X : Nat → Int32) : Option (Int32 × MI × MA) :=
  if vp_nar .boolean (X 2) = (X 2) then some ((X 2), I, A) else none
def f_M_reach_18 (I : MI) (A : MA) (X : Nat → Int32) (s0 : Int32) : Option (Int32 × MI × MA) :=
  if s0 = 0 then f_M_reach_30 I A (upd X 2 s0) else if wk_inb (X 1) 160 = true then wk_let (va_up A 32 (upd (A 32) ((X 1)).toNatClampNeg 1)) (fun A1 => f_M_reach_30 I A1 (upd X 2 s0)) else none
def f_M_reach_17 (I : MI) (A : MA) (X : Nat → Int32) : Option (Int32 × MI × MA) :=
  f_M_reach_18 I A X 0
def f_M_reach (I : MI) (A : MA) (k1 : Int32) : Option (Int32 × MI × MA) :=
  if k1 < 0 then f_M_reach_17 I A (upd (fun _ => 0) 1 k1) else if wk_inb k1 160 = true then if ((A 32) (k1).toNatClampNeg) = 0 then f_M_reach_18 I A (upd (fun _ => 0) 1 k1) 1 else f_M_reach_17 I A (upd (fun _ => 0) 1 k1) else none
def f_M_spread_2 (rc : Nat → MI → MA → (Nat → Int32) → Option (Int32 × MI × MA)) (I : MI) (A : MA) (X : Nat → Int32) : Option (Int32 × MI × MA) :=
  if (X 2) = 0 then some (0, I, A) else rc 10 I A (upd (upd X 2 0) 3 0)
def f_M_spread_82 (rc : Nat → MI → MA → (Nat → Int32) → Option (Int32 × MI × MA)) (I : MI) (A : MA) (X : Nat → Int32) : Option (Int32 × MI × MA) :=
  rc 10 I A (upd X 3 ((X 3) + 1))
def f_M_spread_81 (rc : Nat → MI → MA → (Nat → Int32) → Option (Int32 × MI × MA)) (I : MI) (A : MA) (X : Nat → Int32) (s0 : Int32) : Option (Int32 × MI × MA) :=
  f_M_spread_82 rc I A (upd X 2 s0)
def f_M_spread_76 (rc : Nat → MI → MA → (Nat → Int32) → Option (Int32 × MI × MA)) (I : MI) (A : MA) (X : Nat → Int32) : Option (Int32 × MI × MA) :=
  f_M_spread_81 rc I A X 1
def f_M_spread_58 (rc : Nat → MI → MA → (Nat → Int32) → Option (Int32 × MI × MA)) (I : MI) (A : MA) (X : Nat → Int32) (s0 : Int32) : Option (Int32 × MI × MA) :=
  if wk_inb (X 3) 160 = true then (f_M_reach I A ((A 22) ((X 3)).toNatClampNeg)).bind (fun z1 => (fun r1 I1 A1 => if r1 = 0 then if s0 = 0 then f_M_spread_81 rc I1 A1 (upd X 2 s0) 0 else f_M_spread_76 rc I1 A1 (upd X 2 s0) else f_M_spread_76 rc I1 A1 (upd X 2 s0)) z1.1 z1.2.1 z1.2.2) else none
def f_M_spread_53 (rc : Nat → MI → MA → (Nat → Int32) → Option (Int32 × MI × MA)) (I : MI) (A : MA) (X : Nat → Int32) : Option (Int32 × MI × MA) :=
  f_M_spread_58 rc I A X 1
def f_M_spread_10 (rc : Nat → MI → MA → (Nat → Int32) → Option (Int32 × MI × MA)) (I : MI) (A : MA) (X : Nat → Int32) : Option (Int32 × MI × MA) :=
  if (I 17) ≤ (X 3) then rc 2 I A X else if wk_inb (X 3) 160 = true then if ((A 32) ((X 3)).toNatClampNeg) = 0 then f_M_spread_82 rc I A X else (f_M_passes I A (X 3) (X 1)).bind (fun z1 => (fun r1 I1 A1 => if r1 = 0 then f_M_spread_82 rc I1 A1 X else if wk_inb (X 3) 160 = true then (f_M_reach I1 A1 ((A1 21) ((X 3)).toNatClampNeg)).bind (fun z2 => (fun r2 I2 A2 => if r2 = 0 then if (X 2) = 0 then f_M_spread_58 rc I2 A2 X 0 else f_M_spread_53 rc I2 A2 X else f_M_spread_53 rc I2 A2 X) z2.1 z2.2.1 z2.2.2) else none) z1.1 z1.2.1 z1.2.2) else none
def f_M_spread_go : Nat → Nat → MI → MA → (Nat → Int32) → Option (Int32 × MI × MA)
  | 0, _, _, _, _ => none
  | n + 1, t, I, A, X => if t = 2 then f_M_spread_2 (f_M_spread_go n) I A X else if t = 10 then f_M_spread_10 (f_M_spread_go n) I A X else none
def f_M_spread_e (rc : Nat → MI → MA → (Nat → Int32) → Option (Int32 × MI × MA)) (I : MI) (A : MA) (k1 : Int32) : Option (Int32 × MI × MA) :=
  rc 2 I A (upd (upd (fun _ => 0) 1 k1) 2 1)
def f_M_spread (I : MI) (A : MA) (k1 : Int32) : Option (Int32 × MI × MA) := f_M_spread_e (f_M_spread_go wk_FUEL) I A k1
def f_M_inSet_33 (rc : Nat → MI → MA → (Nat → Int32) → Option (Int32 × MI × MA)) (I : MI) (A : MA) (X : Nat → Int32) (s0 : Int32) : Option (Int32 × MI × MA) :=
  rc 35 I A (upd X 6 s0)
def f_M_inSet_16 (rc : Nat → MI → MA → (Nat → Int32) → Option (Int32 × MI × MA)) (I : MI) (A : MA) (X : Nat → Int32) (s0 : Int32) : Option (Int32 × MI × MA) :=
  if s0 = 0 then f_M_inSet_33 rc I A (upd (upd X 4 s0) 5 0) (X 2) else f_M_inSet_33 rc I A (upd (upd X 4 s0) 5 0) ((X 2) + 1)
def f_M_inSet_174 (rc : Nat → MI → MA → (Nat → Int32) → Option (Int32 × MI × MA)) (I : MI) (A : MA) (X : Nat → Int32) (s0 : Int32) : Option (Int32 × MI × MA) :=
  if vp_nar .boolean s0 = s0 then some (s0, I, A) else none
def f_M_inSet_156 (rc : Nat → MI → MA → (Nat → Int32) → Option (Int32 × MI × MA)) (I : MI) (A : MA) (X : Nat → Int32) (s0 : Int32) (s1 : Int32) : Option (Int32 × MI × MA) :=
  rc 35 I A (upd X 6 (s1 + s0))
def f_M_inSet_142 (rc : Nat → MI → MA → (Nat → Int32) → Option (Int32 × MI × MA)) (I : MI) (A : MA) (X : Nat → Int32) (s0 : Int32) : Option (Int32 × MI × MA) :=
  if (X 7) = 0 then f_M_inSet_156 rc I A (upd X 5 s0) 1 (X 6) else f_M_inSet_156 rc I A (upd X 5 s0) 3 (X 6)
def f_M_inSet_137 (rc : Nat → MI → MA → (Nat → Int32) → Option (Int32 × MI × MA)) (I : MI) (A : MA) (X : Nat → Int32) : Option (Int32 × MI × MA) :=
  f_M_inSet_142 rc I A X 1
def f_M_inSet_141 (rc : Nat → MI → MA → (Nat → Int32) → Option (Int32 × MI × MA)) (I : MI) (A : MA) (X : Nat → Int32) : Option (Int32 × MI × MA) :=
  f_M_inSet_142 rc I A X 0
def f_M_inSet_113 (rc : Nat → MI → MA → (Nat → Int32) → Option (Int32 × MI × MA)) (I : MI) (A : MA) (X : Nat → Int32) (s0 : Int32) : Option (Int32 × MI × MA) :=
  if (X 5) = 0 then if wk_inb (X 6) 24 = true then if (X 1) < ((A 16) ((X 6)).toNatClampNeg) then f_M_inSet_141 rc I A (upd X 8 s0) else if s0 < (X 1) then f_M_inSet_141 rc I A (upd X 8 s0) else f_M_inSet_137 rc I A (upd X 8 s0) else none else f_M_inSet_137 rc I A (upd X 8 s0)
def f_M_inSet_87 (rc : Nat → MI → MA → (Nat → Int32) → Option (Int32 × MI × MA)) (I : MI) (A : MA) (X : Nat → Int32) (s0 : Int32) : Option (Int32 × MI × MA) :=
  if s0 = 0 then if wk_inb (X 6) 24 = true then f_M_inSet_113 rc I A (upd X 7 s0) ((A 16) ((X 6)).toNatClampNeg) else none else if wk_inb ((X 6) + 2) 24 = true then f_M_inSet_113 rc I A (upd X 7 s0) ((A 16) (((X 6) + 2)).toNatClampNeg) else none
def f_M_inSet_86 (rc : Nat → MI → MA → (Nat → Int32) → Option (Int32 × MI × MA)) (I : MI) (A : MA) (X : Nat → Int32) : Option (Int32 × MI × MA) :=
  f_M_inSet_87 rc I A X 0
def f_M_inSet_35 (rc : Nat → MI → MA → (Nat → Int32) → Option (Int32 × MI × MA)) (I : MI) (A : MA) (X : Nat → Int32) : Option (Int32 × MI × MA) :=
  if (X 3) ≤ (X 6) then if (X 5) = (X 4) then f_M_inSet_174 rc I A X 0 else f_M_inSet_174 rc I A X 1 else if (X 3) ≤ ((X 6) + 2) then f_M_inSet_86 rc I A X else if wk_inb ((X 6) + 1) 24 = true then if ((A 16) (((X 6) + 1)).toNatClampNeg) = 45 then if wk_inb ((X 6) + 2) 24 = true then if wk_inb (X 6) 24 = true then if ((A 16) (((X 6) + 2)).toNatClampNeg) < ((A 16) ((X 6)).toNatClampNeg) then f_M_inSet_86 rc I A X else f_M_inSet_87 rc I A X 1 else none else none else f_M_inSet_86 rc I A X else none
def f_M_inSet_go : Nat → Nat → MI → MA → (Nat → Int32) → Option (Int32 × MI × MA)
  | 0, _, _, _, _ => none
  | n + 1, t, I, A, X => if t = 35 then f_M_inSet_35 (f_M_inSet_go n) I A X else none
def f_M_inSet_e (rc : Nat → MI → MA → (Nat → Int32) → Option (Int32 × MI × MA)) (I : MI) (A : MA) (k1 k2 k3 : Int32) : Option (Int32 × MI × MA) :=
  if wk_inb k2 24 = true then if ((A 16) (k2).toNatClampNeg) = 94 then f_M_inSet_16 rc I A (upd (upd (upd (fun _ => 0) 1 k1) 2 k2) 3 k3) 1 else f_M_inSet_16 rc I A (upd (upd (upd (fun _ => 0) 1 k1) 2 k2) 3 k3) 0 else none
def f_M_inSet (I : MI) (A : MA) (k1 k2 k3 : Int32) : Option (Int32 × MI × MA) := f_M_inSet_e (f_M_inSet_go wk_FUEL) I A k1 k2 k3
def f_M_takes_71 (I : MI) (A : MA) (X : Nat → Int32) (s0 : Int32) : Option (Int32 × MI × MA) :=
  if vp_nar .boolean s0 = s0 then some (s0, I, A) else none
def f_M_takes_66 (I : MI) (A : MA) (X : Nat → Int32) : Option (Int32 × MI × MA) :=
  f_M_takes_71 I A X 1
def f_M_takes_70 (I : MI) (A : MA) (X : Nat → Int32) : Option (Int32 × MI × MA) :=
  f_M_takes_71 I A X 0
def f_M_takes_36 (I : MI) (A : MA) (X : Nat → Int32) : Option (Int32 × MI × MA) :=
  if wk_inb (X 1) 160 = true then if ((A 18) ((X 1)).toNatClampNeg) = 3 then if wk_inb (X 1) 160 = true then if wk_inb (X 1) 160 = true then (f_M_inSet I A (X 2) ((A 19) ((X 1)).toNatClampNeg) ((A 20) ((X 1)).toNatClampNeg)).bind (fun z1 => (fun r1 I1 A1 => if r1 = 0 then f_M_takes_70 I1 A1 X else f_M_takes_66 I1 A1 X) z1.1 z1.2.1 z1.2.2) else none else none else f_M_takes_70 I A X else none
def f_M_takes_20 (I : MI) (A : MA) (X : Nat → Int32) : Option (Int32 × MI × MA) :=
  if wk_inb (X 1) 160 = true then if ((A 18) ((X 1)).toNatClampNeg) = 2 then if (X 2) = 10 then f_M_takes_36 I A X else f_M_takes_66 I A X else f_M_takes_36 I A X else none
def f_M_takes (I : MI) (A : MA) (k1 k2 : Int32) : Option (Int32 × MI × MA) :=
  if wk_inb k1 160 = true then if ((A 18) (k1).toNatClampNeg) = 1 then if wk_inb k1 160 = true then if k2 = ((A 19) (k1).toNatClampNeg) then f_M_takes_66 I A (upd (upd (fun _ => 0) 1 k1) 2 k2) else f_M_takes_20 I A (upd (upd (fun _ => 0) 1 k1) 2 k2) else none else f_M_takes_20 I A (upd (upd (fun _ => 0) 1 k1) 2 k2) else none
def f_M_longest_28 (rc : Nat → MI → MA → (Nat → Int32) → Option (Int32 × MI × MA)) (I : MI) (A : MA) (X : Nat → Int32) (s0 : Int32) (s1 : Int32) : Option (Int32 × MI × MA) :=
  if wk_inb s1 160 = true then wk_let (va_up A 32 (upd (A 32) (s1).toNatClampNeg (vp_nar .boolean s0))) (fun A1 => rc 2 I A1 (upd X 2 ((X 2) + 1))) else none
def f_M_longest_2 (rc : Nat → MI → MA → (Nat → Int32) → Option (Int32 × MI × MA)) (I : MI) (A : MA) (X : Nat → Int32) : Option (Int32 × MI × MA) :=
  if (I 17) ≤ (X 2) then rc 42 I A (upd (upd (upd X 2 (-1)) 3 (X 1)) 4 1) else if (X 2) = (I 23) then f_M_longest_28 rc I A X 1 (X 2) else f_M_longest_28 rc I A X 0 (X 2)
def f_M_longest_74 (rc : Nat → MI → MA → (Nat → Int32) → Option (Int32 × MI × MA)) (I : MI) (A : MA) (X : Nat → Int32) (s0 : Int32) : Option (Int32 × MI × MA) :=
  rc 81 I A (upd (upd (upd X 2 s0) 4 0) 5 0)
def f_M_longest_73 (rc : Nat → MI → MA → (Nat → Int32) → Option (Int32 × MI × MA)) (I : MI) (A : MA) (X : Nat → Int32) : Option (Int32 × MI × MA) :=
  f_M_longest_74 rc I A X (X 2)
def f_M_longest_42 (rc : Nat → MI → MA → (Nat → Int32) → Option (Int32 × MI × MA)) (I : MI) (A : MA) (X : Nat → Int32) : Option (Int32 × MI × MA) :=
  if (X 4) = 0 then some ((X 2), I, A) else (f_M_spread I A (X 3)).bind (fun z1 => (fun r1 I1 A1 => if wk_inb (I1 24) 160 = true then if ((A1 32) ((I1 24)).toNatClampNeg) = 0 then f_M_longest_73 rc I1 A1 X else if (X 3) ≤ (X 1) then f_M_longest_73 rc I1 A1 X else f_M_longest_74 rc I1 A1 X (X 3) else none) z1.1 z1.2.1 z1.2.2)
def f_M_longest_81 (rc : Nat → MI → MA → (Nat → Int32) → Option (Int32 × MI × MA)) (I : MI) (A : MA) (X : Nat → Int32) : Option (Int32 × MI × MA) :=
  if (I 17) ≤ (X 5) then rc 107 I A (upd X 5 0) else if wk_inb (X 5) 160 = true then wk_let (va_up A 33 (upd (A 33) ((X 5)).toNatClampNeg 0)) (fun A1 => rc 81 I A1 (upd X 5 ((X 5) + 1))) else none
def f_M_longest_170 (rc : Nat → MI → MA → (Nat → Int32) → Option (Int32 × MI × MA)) (I : MI) (A : MA) (X : Nat → Int32) : Option (Int32 × MI × MA) :=
  rc 173 I A (upd X 5 0)
def f_M_longest_164 (rc : Nat → MI → MA → (Nat → Int32) → Option (Int32 × MI × MA)) (I : MI) (A : MA) (X : Nat → Int32) : Option (Int32 × MI × MA) :=
  rc 107 I A (upd X 5 ((X 5) + 1))
def f_M_longest_107 (rc : Nat → MI → MA → (Nat → Int32) → Option (Int32 × MI × MA)) (I : MI) (A : MA) (X : Nat → Int32) : Option (Int32 × MI × MA) :=
  if (I 17) ≤ (X 5) then f_M_longest_170 rc I A X else (f_M_textLength I A).bind (fun z1 => (fun r1 I1 A1 => if r1 ≤ (X 3) then f_M_longest_170 rc I1 A1 X else if wk_inb (X 5) 160 = true then if ((A1 32) ((X 5)).toNatClampNeg) = 0 then f_M_longest_164 rc I1 A1 X else (f_M_charAt I1 A1 (X 3)).bind (fun z2 => (fun r2 I2 A2 => (f_M_takes I2 A2 (X 5) r2).bind (fun z3 => (fun r3 I3 A3 => if r3 = 0 then f_M_longest_164 rc I3 A3 X else if wk_inb (X 5) 160 = true then if wk_inb ((A3 21) ((X 5)).toNatClampNeg) 160 = true then wk_let (va_up A3 33 (upd (A3 33) (((A3 21) ((X 5)).toNatClampNeg)).toNatClampNeg 1)) (fun A4 => f_M_longest_164 rc I3 A4 (upd X 4 1)) else none else none) z3.1 z3.2.1 z3.2.2)) z2.1 z2.2.1 z2.2.2) else none) z1.1 z1.2.1 z1.2.2)
def f_M_longest_173 (rc : Nat → MI → MA → (Nat → Int32) → Option (Int32 × MI × MA)) (I : MI) (A : MA) (X : Nat → Int32) : Option (Int32 × MI × MA) :=
  if (I 17) ≤ (X 5) then rc 42 I A (upd X 3 ((X 3) + 1)) else if wk_inb (X 5) 160 = true then if wk_inb (X 5) 160 = true then wk_let (va_up A 32 (upd (A 32) ((X 5)).toNatClampNeg (vp_nar .boolean ((A 33) ((X 5)).toNatClampNeg)))) (fun A1 => rc 173 I A1 (upd X 5 ((X 5) + 1))) else none else none
def f_M_longest_go : Nat → Nat → MI → MA → (Nat → Int32) → Option (Int32 × MI × MA)
  | 0, _, _, _, _ => none
  | n + 1, t, I, A, X => if t = 2 then f_M_longest_2 (f_M_longest_go n) I A X else if t = 42 then f_M_longest_42 (f_M_longest_go n) I A X else if t = 81 then f_M_longest_81 (f_M_longest_go n) I A X else if t = 107 then f_M_longest_107 (f_M_longest_go n) I A X else if t = 173 then f_M_longest_173 (f_M_longest_go n) I A X else none
def f_M_longest_e (rc : Nat → MI → MA → (Nat → Int32) → Option (Int32 × MI × MA)) (I : MI) (A : MA) (k1 : Int32) : Option (Int32 × MI × MA) :=
  rc 2 I A (upd (upd (fun _ => 0) 1 k1) 2 0)
def f_M_longest (I : MI) (A : MA) (k1 : Int32) : Option (Int32 × MI × MA) := f_M_longest_e (f_M_longest_go wk_FUEL) I A k1
def f_M_look_54 (rc : Nat → MI → MA → (Nat → Int32) → Option (Int32 × MI × MA)) (I : MI) (A : MA) (X : Nat → Int32) (s0 : Int32) : Option (Int32 × MI × MA) :=
  if vp_nar .boolean s0 = s0 then some (s0, I, A) else none
def f_M_look_42 (rc : Nat → MI → MA → (Nat → Int32) → Option (Int32 × MI × MA)) (I : MI) (A : MA) (X : Nat → Int32) : Option (Int32 × MI × MA) :=
  if (I 35) < 0 then f_M_look_54 rc I A X 0 else f_M_look_54 rc I A X 1
def f_M_look_7 (rc : Nat → MI → MA → (Nat → Int32) → Option (Int32 × MI × MA)) (I : MI) (A : MA) (X : Nat → Int32) : Option (Int32 × MI × MA) :=
  (f_M_textLength I A).bind (fun z1 => (fun r1 I1 A1 => if r1 < (X 2) then f_M_look_42 rc I1 A1 X else if 0 ≤ (I1 35) then f_M_look_42 rc I1 A1 X else wk_let (upd I1 34 (X 2)) (fun I2 => (f_M_longest I2 A1 (X 2)).bind (fun z3 => (fun r3 I3 A3 => wk_let (upd I3 35 r3) (fun I4 => rc 7 I4 A3 (upd X 2 ((X 2) + 1)))) z3.1 z3.2.1 z3.2.2))) z1.1 z1.2.1 z1.2.2)
def f_M_look_go : Nat → Nat → MI → MA → (Nat → Int32) → Option (Int32 × MI × MA)
  | 0, _, _, _, _ => none
  | n + 1, t, I, A, X => if t = 7 then f_M_look_7 (f_M_look_go n) I A X else none
def f_M_look_e (rc : Nat → MI → MA → (Nat → Int32) → Option (Int32 × MI × MA)) (I : MI) (A : MA) (k1 : Int32) : Option (Int32 × MI × MA) :=
  wk_let (upd I 35 (-1)) (fun I1 => rc 7 I1 A (upd (upd (fun _ => 0) 1 k1) 2 k1))
def f_M_look (I : MI) (A : MA) (k1 : Int32) : Option (Int32 × MI × MA) := f_M_look_e (f_M_look_go wk_FUEL) I A k1
def f_M_find_52 (I : MI) (A : MA) (X : Nat → Int32) : Option (Int32 × MI × MA) :=
  if (I 0) ≤ 0 then wk_let (upd I 12 (I 34)) (fun I1 => wk_let (upd I1 11 (I1 35)) (fun I2 => some ((I2 12), I2, A))) else some (0, I, A)
def f_M_find_29 (I : MI) (A : MA) (X : Nat → Int32) (s0 : Int32) : Option (Int32 × MI × MA) :=
  wk_let (upd I 0 s0) (fun I1 => if (I1 0) = 0 then (f_M_look I1 A (X 1)).bind (fun z2 => (fun r2 I2 A2 => if r2 = 0 then wk_let (upd I2 0 3) (fun I3 => f_M_find_52 I3 A2 X) else f_M_find_52 I2 A2 X) z2.1 z2.2.1 z2.2.2) else f_M_find_52 I1 A X)
def f_M_find_24 (I : MI) (A : MA) (X : Nat → Int32) : Option (Int32 × MI × MA) :=
  f_M_find_29 I A X 2
def f_M_find (I : MI) (A : MA) (k1 : Int32) : Option (Int32 × MI × MA) :=
  if (I 13) = 0 then f_M_find_29 I A (upd (fun _ => 0) 1 k1) 1 else if k1 < 0 then f_M_find_24 I A (upd (fun _ => 0) 1 k1) else (f_M_textLength I A).bind (fun z1 => (fun r1 I1 A1 => if k1 ≤ r1 then f_M_find_29 I1 A1 (upd (fun _ => 0) 1 k1) 0 else f_M_find_24 I1 A1 (upd (fun _ => 0) 1 k1)) z1.1 z1.2.1 z1.2.2)
def f_M_go_84 (I : MI) (A : MA) (X : Nat → Int32) (s0 : Int32) : Option (Int32 × MI × MA) :=
  wk_let (upd I 12 s0) (fun I1 => some (0, I1, A))
def f_M_go_56 (I : MI) (A : MA) (X : Nat → Int32) (s0 : Int32) : Option (Int32 × MI × MA) :=
  wk_let (upd I 12 s0) (fun I1 => wk_let (upd I1 11 (X 1)) (fun I2 => if (I2 12) = (I2 11) then f_M_go_84 I2 A X (-1) else f_M_go_84 I2 A X (I2 12)))
def f_M_go_18 (I : MI) (A : MA) (X : Nat → Int32) (s0 : Int32) : Option (Int32 × MI × MA) :=
  wk_let (upd I 0 s0) (fun I1 => if (I1 0) ≤ 0 then if (X 2) = 0 then f_M_go_56 I1 A X (-1) else if 0 ≤ (I1 12) then f_M_go_56 I1 A X (I1 12) else f_M_go_56 I1 A X (I1 11) else some (0, I1, A))
def f_M_go_13 (I : MI) (A : MA) (X : Nat → Int32) : Option (Int32 × MI × MA) :=
  f_M_go_18 I A X 1
def f_M_go (I : MI) (A : MA) (k1 k2 : Int32) : Option (Int32 × MI × MA) :=
  if k1 < 0 then f_M_go_13 I A (upd (upd (fun _ => 0) 1 k1) 2 k2) else (f_M_textLength I A).bind (fun z1 => (fun r1 I1 A1 => if k1 ≤ r1 then f_M_go_18 I1 A1 (upd (upd (fun _ => 0) 1 k1) 2 k2) 0 else f_M_go_13 I1 A1 (upd (upd (fun _ => 0) 1 k1) 2 k2)) z1.1 z1.2.1 z1.2.2)
def f_M_insert_118 (I : MI) (A : MA) (X : Nat → Int32) : Option (Int32 × MI × MA) :=
  wk_let (upd I 1 0) (fun I1 => some ((I1 4), I1, A))
def f_M_insert_66 (I : MI) (A : MA) (X : Nat → Int32) (s0 : Int32) : Option (Int32 × MI × MA) :=
  wk_let (upd I 0 s0) (fun I1 => if (I1 0) ≤ 0 then if (X 3) = 0 then f_M_insert_118 I1 A X else wk_let (upd I1 36 0) (fun I2 => (f_M_addText I2 A 0 (X 1)).bind (fun z3 => (fun r3 I3 A3 => (f_M_addSlip I3 A3).bind (fun z4 => (fun r4 I4 A4 => (f_M_textLength I4 A4).bind (fun z5 => (fun r5 I5 A5 => (f_M_addText I5 A5 (X 2) r5).bind (fun z6 => (fun r6 I6 A6 => (f_M_edit I6 A6 (I4 36)).bind (fun z7 => (fun r7 I7 A7 => f_M_insert_118 I7 A7 X) z7.1 z7.2.1 z7.2.2)) z6.1 z6.2.1 z6.2.2)) z5.1 z5.2.1 z5.2.2)) z4.1 z4.2.1 z4.2.2)) z3.1 z3.2.1 z3.2.2)) else some (0, I1, A))
def f_M_insert_65 (I : MI) (A : MA) (X : Nat → Int32) : Option (Int32 × MI × MA) :=
  f_M_insert_66 I A X 0
def f_M_insert_61 (I : MI) (A : MA) (X : Nat → Int32) : Option (Int32 × MI × MA) :=
  f_M_insert_66 I A X 1
def f_M_insert_27 (I : MI) (A : MA) (X : Nat → Int32) (s0 : Int32) : Option (Int32 × MI × MA) :=
  if s0 = 0 then f_M_insert_65 I A (upd X 3 s0) else (f_M_textLength I A).bind (fun z1 => (fun r1 I1 A1 => if 160 < ((r1 - ((X 2) - (X 1))) + (I1 1)) then f_M_insert_61 I1 A1 (upd X 3 s0) else if (I1 3) = 40 then f_M_insert_61 I1 A1 (upd X 3 s0) else f_M_insert_65 I1 A1 (upd X 3 s0)) z1.1 z1.2.1 z1.2.2)
def f_M_insert_22 (I : MI) (A : MA) (X : Nat → Int32) : Option (Int32 × MI × MA) :=
  f_M_insert_27 I A X 1
def f_M_insert (I : MI) (A : MA) : Option (Int32 × MI × MA) :=
  (f_M_low I A).bind (fun z1 => (fun r1 I1 A1 => (f_M_high I1 A1).bind (fun z2 => (fun r2 I2 A2 => if r1 < r2 then f_M_insert_22 I2 A2 (upd (upd (fun _ => 0) 1 r1) 2 r2) else if (I2 1) ≤ 0 then f_M_insert_27 I2 A2 (upd (upd (fun _ => 0) 1 r1) 2 r2) 0 else f_M_insert_22 I2 A2 (upd (upd (fun _ => 0) 1 r1) 2 r2)) z2.1 z2.2.1 z2.2.2)) z1.1 z1.2.1 z1.2.2)
def f_M_isCharacter_23 (X : Nat → Int32) (s0 : Int32) : Option Int32 :=
  if vp_nar .boolean s0 = s0 then some s0 else none
def f_M_isCharacter_18 (X : Nat → Int32) : Option Int32 :=
  f_M_isCharacter_23 X 1
def f_M_isCharacter_22 (X : Nat → Int32) : Option Int32 :=
  f_M_isCharacter_23 X 0
def f_M_isCharacter (k0 : Int32) : Option Int32 :=
  if k0 = 10 then f_M_isCharacter_18 (upd (fun _ => 0) 0 k0) else if k0 < 32 then f_M_isCharacter_22 (upd (fun _ => 0) 0 k0) else if 126 < k0 then f_M_isCharacter_22 (upd (fun _ => 0) 0 k0) else f_M_isCharacter_18 (upd (fun _ => 0) 0 k0)
def f_M_jump_33 (I : MI) (A : MA) (X : Nat → Int32) : Option (Int32 × MI × MA) :=
  some (0, I, A)
def f_M_jump_18 (I : MI) (A : MA) (X : Nat → Int32) (s0 : Int32) : Option (Int32 × MI × MA) :=
  wk_let (upd I 0 s0) (fun I1 => if (I1 0) = 0 then (f_M_come I1 A (X 1)).bind (fun z2 => (fun r2 I2 A2 => f_M_jump_33 I2 A2 X) z2.1 z2.2.1 z2.2.2) else f_M_jump_33 I1 A X)
def f_M_jump_13 (I : MI) (A : MA) (X : Nat → Int32) : Option (Int32 × MI × MA) :=
  f_M_jump_18 I A X 1
def f_M_jump (I : MI) (A : MA) (k1 : Int32) : Option (Int32 × MI × MA) :=
  if k1 < 0 then f_M_jump_13 I A (upd (fun _ => 0) 1 k1) else if k1 < (I 3) then f_M_jump_18 I A (upd (fun _ => 0) 1 k1) 0 else f_M_jump_13 I A (upd (fun _ => 0) 1 k1)
def f_M_length (I : MI) (A : MA) : Option (Int32 × MI × MA) :=
  wk_let (upd I 0 0) (fun I1 => (f_M_textLength I1 A).bind (fun z2 => (fun r2 I2 A2 => some (r2, I2, A2)) z2.1 z2.2.1 z2.2.2))
def f_M_lineStart_2 (rc : Nat → MI → MA → (Nat → Int32) → Option (Int32 × MI × MA)) (I : MI) (A : MA) (X : Nat → Int32) : Option (Int32 × MI × MA) :=
  (f_M_breaks I A (X 2)).bind (fun z1 => (fun r1 I1 A1 => if (X 1) ≤ r1 then some ((X 2), I1, A1) else rc 2 I1 A1 (upd X 2 ((X 2) + 1))) z1.1 z1.2.1 z1.2.2)
def f_M_lineStart_go : Nat → Nat → MI → MA → (Nat → Int32) → Option (Int32 × MI × MA)
  | 0, _, _, _, _ => none
  | n + 1, t, I, A, X => if t = 2 then f_M_lineStart_2 (f_M_lineStart_go n) I A X else none
def f_M_lineStart_e (rc : Nat → MI → MA → (Nat → Int32) → Option (Int32 × MI × MA)) (I : MI) (A : MA) (k1 : Int32) : Option (Int32 × MI × MA) :=
  rc 2 I A (upd (upd (fun _ => 0) 1 k1) 2 0)
def f_M_lineStart (I : MI) (A : MA) (k1 : Int32) : Option (Int32 × MI × MA) := f_M_lineStart_e (f_M_lineStart_go wk_FUEL) I A k1
def f_M_line_105 (rc : Nat → MI → MA → (Nat → Int32) → Option (Int32 × MI × MA)) (I : MI) (A : MA) (X : Nat → Int32) (s0 : Int32) : Option (Int32 × MI × MA) :=
  some (s0, I, A)
def f_M_line_75 (rc : Nat → MI → MA → (Nat → Int32) → Option (Int32 × MI × MA)) (I : MI) (A : MA) (X : Nat → Int32) (s0 : Int32) : Option (Int32 × MI × MA) :=
  wk_let (upd I 0 s0) (fun I1 => if (I1 0) ≤ 0 then if 2 ≤ (X 1) then (f_M_lineStart I1 A (X 2)).bind (fun z2 => (fun r2 I2 A2 => rc 117 I2 A2 (upd (upd X 5 r2) 6 r2)) z2.1 z2.2.1 z2.2.2) else if (X 1) = 0 then f_M_line_105 rc I1 A X (X 3) else (f_M_breaks I1 A (X 2)).bind (fun z2 => (fun r2 I2 A2 => f_M_line_105 rc I2 A2 X r2) z2.1 z2.2.1 z2.2.2) else some (0, I1, A))
def f_M_line_61 (rc : Nat → MI → MA → (Nat → Int32) → Option (Int32 × MI × MA)) (I : MI) (A : MA) (X : Nat → Int32) : Option (Int32 × MI × MA) :=
  f_M_line_75 rc I A X 1
def f_M_line_49 (rc : Nat → MI → MA → (Nat → Int32) → Option (Int32 × MI × MA)) (I : MI) (A : MA) (X : Nat → Int32) (s0 : Int32) : Option (Int32 × MI × MA) :=
  if (X 1) < 0 then f_M_line_61 rc I A (upd X 4 s0) else if (X 1) ≤ 3 then if s0 = 0 then f_M_line_75 rc I A (upd X 4 s0) 2 else f_M_line_75 rc I A (upd X 4 s0) 0 else f_M_line_61 rc I A (upd X 4 s0)
def f_M_line_44 (rc : Nat → MI → MA → (Nat → Int32) → Option (Int32 × MI × MA)) (I : MI) (A : MA) (X : Nat → Int32) : Option (Int32 × MI × MA) :=
  f_M_line_49 rc I A X 1
def f_M_line_48 (rc : Nat → MI → MA → (Nat → Int32) → Option (Int32 × MI × MA)) (I : MI) (A : MA) (X : Nat → Int32) : Option (Int32 × MI × MA) :=
  f_M_line_49 rc I A X 0
def f_M_line_158 (rc : Nat → MI → MA → (Nat → Int32) → Option (Int32 × MI × MA)) (I : MI) (A : MA) (X : Nat → Int32) (s0 : Int32) : Option (Int32 × MI × MA) :=
  some (s0, I, A)
def f_M_line_143 (rc : Nat → MI → MA → (Nat → Int32) → Option (Int32 × MI × MA)) (I : MI) (A : MA) (X : Nat → Int32) : Option (Int32 × MI × MA) :=
  if (X 1) = 2 then f_M_line_158 rc I A X (X 5) else f_M_line_158 rc I A X ((X 6) - (X 5))
def f_M_line_117 (rc : Nat → MI → MA → (Nat → Int32) → Option (Int32 × MI × MA)) (I : MI) (A : MA) (X : Nat → Int32) : Option (Int32 × MI × MA) :=
  (f_M_textLength I A).bind (fun z1 => (fun r1 I1 A1 => if r1 ≤ (X 6) then f_M_line_143 rc I1 A1 X else (f_M_charAt I1 A1 (X 6)).bind (fun z2 => (fun r2 I2 A2 => if r2 = 10 then f_M_line_143 rc I2 A2 X else rc 117 I2 A2 (upd X 6 ((X 6) + 1))) z2.1 z2.2.1 z2.2.2)) z1.1 z1.2.1 z1.2.2)
def f_M_line_go : Nat → Nat → MI → MA → (Nat → Int32) → Option (Int32 × MI × MA)
  | 0, _, _, _, _ => none
  | n + 1, t, I, A, X => if t = 117 then f_M_line_117 (f_M_line_go n) I A X else none
def f_M_line_e (rc : Nat → MI → MA → (Nat → Int32) → Option (Int32 × MI × MA)) (I : MI) (A : MA) (k1 k2 : Int32) : Option (Int32 × MI × MA) :=
  (f_M_textLength I A).bind (fun z1 => (fun r1 I1 A1 => (f_M_breaks I1 A1 r1).bind (fun z2 => (fun r2 I2 A2 => if k1 = 0 then f_M_line_44 rc I2 A2 (upd (upd (upd (fun _ => 0) 1 k1) 2 k2) 3 (r2 + 1)) else if k1 = 1 then if k2 < 0 then f_M_line_48 rc I2 A2 (upd (upd (upd (fun _ => 0) 1 k1) 2 k2) 3 (r2 + 1)) else (f_M_textLength I2 A2).bind (fun z3 => (fun r3 I3 A3 => if r3 < k2 then f_M_line_48 rc I3 A3 (upd (upd (upd (fun _ => 0) 1 k1) 2 k2) 3 (r2 + 1)) else f_M_line_44 rc I3 A3 (upd (upd (upd (fun _ => 0) 1 k1) 2 k2) 3 (r2 + 1))) z3.1 z3.2.1 z3.2.2) else if k2 < 0 then f_M_line_48 rc I2 A2 (upd (upd (upd (fun _ => 0) 1 k1) 2 k2) 3 (r2 + 1)) else if (r2 + 1) ≤ k2 then f_M_line_48 rc I2 A2 (upd (upd (upd (fun _ => 0) 1 k1) 2 k2) 3 (r2 + 1)) else f_M_line_44 rc I2 A2 (upd (upd (upd (fun _ => 0) 1 k1) 2 k2) 3 (r2 + 1))) z2.1 z2.2.1 z2.2.2)) z1.1 z1.2.1 z1.2.2)
def f_M_line (I : MI) (A : MA) (k1 k2 : Int32) : Option (Int32 × MI × MA) := f_M_line_e (f_M_line_go wk_FUEL) I A k1 k2
def f_M_parent_38 (I : MI) (A : MA) (X : Nat → Int32) (s0 : Int32) : Option (Int32 × MI × MA) :=
  some (s0, I, A)
def f_M_parent_18 (I : MI) (A : MA) (X : Nat → Int32) (s0 : Int32) : Option (Int32 × MI × MA) :=
  wk_let (upd I 0 s0) (fun I1 => if (I1 0) = 0 then if wk_inb (X 1) 40 = true then f_M_parent_38 I1 A X ((A 8) ((X 1)).toNatClampNeg) else none else f_M_parent_38 I1 A X 0)
def f_M_parent_13 (I : MI) (A : MA) (X : Nat → Int32) : Option (Int32 × MI × MA) :=
  f_M_parent_18 I A X 1
def f_M_parent (I : MI) (A : MA) (k1 : Int32) : Option (Int32 × MI × MA) :=
  if k1 < 0 then f_M_parent_13 I A (upd (fun _ => 0) 1 k1) else if k1 < (I 3) then f_M_parent_18 I A (upd (fun _ => 0) 1 k1) 0 else f_M_parent_13 I A (upd (fun _ => 0) 1 k1)
def f_M_redo_96 (rc : Nat → MI → MA → (Nat → Int32) → Option (Int32 × MI × MA)) (I : MI) (A : MA) (X : Nat → Int32) (s0 : Int32) : Option (Int32 × MI × MA) :=
  some (s0, I, A)
def f_M_redo_81 (rc : Nat → MI → MA → (Nat → Int32) → Option (Int32 × MI × MA)) (I : MI) (A : MA) (X : Nat → Int32) : Option (Int32 × MI × MA) :=
  if (I 0) = 0 then f_M_redo_96 rc I A X (I 4) else f_M_redo_96 rc I A X 0
def f_M_redo_66 (rc : Nat → MI → MA → (Nat → Int32) → Option (Int32 × MI × MA)) (I : MI) (A : MA) (X : Nat → Int32) (s0 : Int32) : Option (Int32 × MI × MA) :=
  wk_let (upd I 0 s0) (fun I1 => if (I1 0) = 0 then (f_M_come I1 A (X 1)).bind (fun z2 => (fun r2 I2 A2 => f_M_redo_81 rc I2 A2 X) z2.1 z2.2.1 z2.2.2) else f_M_redo_81 rc I1 A X)
def f_M_redo_49 (rc : Nat → MI → MA → (Nat → Int32) → Option (Int32 × MI × MA)) (I : MI) (A : MA) (X : Nat → Int32) (s0 : Int32) : Option (Int32 × MI × MA) :=
  rc 4 I A (upd (upd X 1 s0) 2 ((X 2) + 1))
def f_M_redo_48 (rc : Nat → MI → MA → (Nat → Int32) → Option (Int32 × MI × MA)) (I : MI) (A : MA) (X : Nat → Int32) : Option (Int32 × MI × MA) :=
  f_M_redo_49 rc I A X (X 1)
def f_M_redo_44 (rc : Nat → MI → MA → (Nat → Int32) → Option (Int32 × MI × MA)) (I : MI) (A : MA) (X : Nat → Int32) : Option (Int32 × MI × MA) :=
  f_M_redo_49 rc I A X (X 2)
def f_M_redo_4 (rc : Nat → MI → MA → (Nat → Int32) → Option (Int32 × MI × MA)) (I : MI) (A : MA) (X : Nat → Int32) : Option (Int32 × MI × MA) :=
  if (I 3) ≤ (X 2) then if 0 ≤ (X 1) then f_M_redo_66 rc I A X 0 else f_M_redo_66 rc I A X 1 else if wk_inb (X 2) 40 = true then if ((A 8) ((X 2)).toNatClampNeg) = (I 4) then if (X 1) < 0 then f_M_redo_44 rc I A X else if wk_inb (X 2) 40 = true then if wk_inb (X 1) 40 = true then if ((A 9) ((X 2)).toNatClampNeg) ≤ ((A 9) ((X 1)).toNatClampNeg) then f_M_redo_48 rc I A X else f_M_redo_44 rc I A X else none else none else f_M_redo_48 rc I A X else none
def f_M_redo_go : Nat → Nat → MI → MA → (Nat → Int32) → Option (Int32 × MI × MA)
  | 0, _, _, _, _ => none
  | n + 1, t, I, A, X => if t = 4 then f_M_redo_4 (f_M_redo_go n) I A X else none
def f_M_redo_e (rc : Nat → MI → MA → (Nat → Int32) → Option (Int32 × MI × MA)) (I : MI) (A : MA) : Option (Int32 × MI × MA) :=
  rc 4 I A (upd (upd (fun _ => 0) 1 (-1)) 2 0)
def f_M_redo (I : MI) (A : MA) : Option (Int32 × MI × MA) := f_M_redo_e (f_M_redo_go wk_FUEL) I A 
def f_M_replace_13 (rc : Nat → MI → MA → (Nat → Int32) → Option (Int32 × MI × MA)) (I : MI) (A : MA) (X : Nat → Int32) (s0 : Int32) : Option (Int32 × MI × MA) :=
  wk_let (upd I 0 s0) (fun I1 => if (I1 0) ≤ 0 then wk_let (upd I1 36 0) (fun I2 => rc 36 I2 A (upd (upd (upd X 1 0) 2 0) 3 0)) else some (0, I1, A))
def f_M_replace_132 (rc : Nat → MI → MA → (Nat → Int32) → Option (Int32 × MI × MA)) (I : MI) (A : MA) (X : Nat → Int32) : Option (Int32 × MI × MA) :=
  wk_let (upd I 1 0) (fun I1 => some ((X 1), I1, A))
def f_M_replace_111 (rc : Nat → MI → MA → (Nat → Int32) → Option (Int32 × MI × MA)) (I : MI) (A : MA) (X : Nat → Int32) (s0 : Int32) : Option (Int32 × MI × MA) :=
  wk_let (upd I 0 s0) (fun I1 => if (I1 0) ≤ 0 then if (X 1) ≤ 0 then f_M_replace_132 rc I1 A X else (f_M_edit I1 A (X 3)).bind (fun z2 => (fun r2 I2 A2 => f_M_replace_132 rc I2 A2 X) z2.1 z2.2.1 z2.2.2) else some (0, I1, A))
def f_M_replace_110 (rc : Nat → MI → MA → (Nat → Int32) → Option (Int32 × MI × MA)) (I : MI) (A : MA) (X : Nat → Int32) : Option (Int32 × MI × MA) :=
  f_M_replace_111 rc I A X 0
def f_M_replace_106 (rc : Nat → MI → MA → (Nat → Int32) → Option (Int32 × MI × MA)) (I : MI) (A : MA) (X : Nat → Int32) : Option (Int32 × MI × MA) :=
  f_M_replace_111 rc I A X 1
def f_M_replace_36 (rc : Nat → MI → MA → (Nat → Int32) → Option (Int32 × MI × MA)) (I : MI) (A : MA) (X : Nat → Int32) : Option (Int32 × MI × MA) :=
  (f_M_look I A (X 2)).bind (fun z1 => (fun r1 I1 A1 => if r1 = 0 then (f_M_textLength I1 A1).bind (fun z2 => (fun r2 I2 A2 => (f_M_addText I2 A2 (X 2) r2).bind (fun z3 => (fun r3 I3 A3 => if (X 1) ≤ 0 then f_M_replace_110 rc I3 A3 X else if 160 < (I3 36) then f_M_replace_106 rc I3 A3 X else if (I3 3) = 40 then f_M_replace_106 rc I3 A3 X else f_M_replace_110 rc I3 A3 X) z3.1 z3.2.1 z3.2.2)) z2.1 z2.2.1 z2.2.2) else (f_M_addText I1 A1 (X 2) (I1 34)).bind (fun z2 => (fun r2 I2 A2 => (f_M_addSlip I2 A2).bind (fun z3 => (fun r3 I3 A3 => rc 36 I3 A3 (upd (upd (upd X 1 ((X 1) + 1)) 2 (I3 35)) 3 (I3 36))) z3.1 z3.2.1 z3.2.2)) z2.1 z2.2.1 z2.2.2)) z1.1 z1.2.1 z1.2.2)
def f_M_replace_go : Nat → Nat → MI → MA → (Nat → Int32) → Option (Int32 × MI × MA)
  | 0, _, _, _, _ => none
  | n + 1, t, I, A, X => if t = 36 then f_M_replace_36 (f_M_replace_go n) I A X else none
def f_M_replace_e (rc : Nat → MI → MA → (Nat → Int32) → Option (Int32 × MI × MA)) (I : MI) (A : MA) : Option (Int32 × MI × MA) :=
  if (I 13) = 0 then f_M_replace_13 rc I A (fun _ => 0) 1 else f_M_replace_13 rc I A (fun _ => 0) 0
def f_M_replace (I : MI) (A : MA) : Option (Int32 × MI × MA) := f_M_replace_e (f_M_replace_go wk_FUEL) I A 
def f_M_thrown (I : MI) (A : MA) : Option (Int32 × MI × MA) :=
  some ((I 0), I, A)
def f_M_type_21 (I : MI) (A : MA) (X : Nat → Int32) : Option (Int32 × MI × MA) :=
  some (0, I, A)
def f_M_type (I : MI) (A : MA) (k1 : Int32) : Option (Int32 × MI × MA) :=
  wk_let (upd I 0 0) (fun I1 => (f_M_isCharacter  k1).bind (fun z2 => if z2 = 0 then f_M_type_21 I1 A (upd (fun _ => 0) 1 k1) else if (I1 1) = 24 then f_M_type_21 I1 A (upd (fun _ => 0) 1 k1) else if wk_inb (I1 1) 24 = true then wk_let (va_up A 2 (upd (A 2) ((I1 1)).toNatClampNeg (vp_nar .char k1))) (fun A3 => wk_let (upd I1 1 ((I1 1) + 1)) (fun I4 => some (1, I4, A3))) else none))
def f_M_undo_51 (I : MI) (A : MA) (X : Nat → Int32) (s0 : Int32) : Option (Int32 × MI × MA) :=
  some (s0, I, A)
def f_M_undo_36 (I : MI) (A : MA) (X : Nat → Int32) : Option (Int32 × MI × MA) :=
  if (I 0) = 0 then f_M_undo_51 I A X (I 4) else f_M_undo_51 I A X 0
def f_M_undo_13 (I : MI) (A : MA) (X : Nat → Int32) (s0 : Int32) : Option (Int32 × MI × MA) :=
  wk_let (upd I 0 s0) (fun I1 => if (I1 0) = 0 then if wk_inb (I1 4) 40 = true then (f_M_come I1 A ((A 8) ((I1 4)).toNatClampNeg)).bind (fun z2 => (fun r2 I2 A2 => f_M_undo_36 I2 A2 X) z2.1 z2.2.1 z2.2.2) else none else f_M_undo_36 I1 A X)
def f_M_undo (I : MI) (A : MA) : Option (Int32 × MI × MA) :=
  if (I 4) = 0 then f_M_undo_13 I A (fun _ => 0) 1 else f_M_undo_13 I A (fun _ => 0) 0
def f_M_wipe (I : MI) (A : MA) : Option (Int32 × MI × MA) :=
  wk_let (upd I 0 0) (fun I1 => wk_let (upd I1 1 0) (fun I2 => some ((I1 1), I2, A)))

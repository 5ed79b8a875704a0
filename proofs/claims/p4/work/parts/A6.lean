-- 17.cdefs
def f_D_at_13 (tn : Nat) (tx : Nat → Int32) (I : MI) (A : MA) (M : MI) (MB : MA) (L : ML) (X : Nat → Int32) (Y : Nat → Int64) : Option (Nat × Int32 × MI × MA × MI × MA × ML) :=
  some (2, 0, I, A, M, MB, L)
def f_D_at (tn : Nat) (tx : Nat → Int32) (I : MI) (A : MA) (M : MI) (MB : MA) (L : ML) (k1 : Int32) : Option (Nat × Int32 × MI × MA × MI × MA × ML) :=
  if k1 < 0 then f_D_at_13 tn tx I A M MB L (upd (fun _ => 0) 1 k1) (fun _ => 0) else if k1 < (Int32.ofNat tn) then if wk_inb k1 tn = true then if vp_nar .char (tx (k1).toNatClampNeg) = (tx (k1).toNatClampNeg) then some (0, (tx (k1).toNatClampNeg), I, A, M, MB, L) else none else none else f_D_at_13 tn tx I A M MB L (upd (fun _ => 0) 1 k1) (fun _ => 0)
def f_D_breaksBefore_23 (tn : Nat) (tx : Nat → Int32) (rc : Nat → MI → MA → MI → MA → ML → (Nat → Int32) → (Nat → Int64) → Option (Int32 × MI × MA × MI × MA × ML)) (I : MI) (A : MA) (M : MI) (MB : MA) (L : ML) (X : Nat → Int32) (Y : Nat → Int64) : Option (Int32 × MI × MA × MI × MA × ML) :=
  rc 4 I A M MB L (upd X 3 ((X 3) + 1)) Y
def f_D_breaksBefore_4 (tn : Nat) (tx : Nat → Int32) (rc : Nat → MI → MA → MI → MA → ML → (Nat → Int32) → (Nat → Int64) → Option (Int32 × MI × MA × MI × MA × ML)) (I : MI) (A : MA) (M : MI) (MB : MA) (L : ML) (X : Nat → Int32) (Y : Nat → Int64) : Option (Int32 × MI × MA × MI × MA × ML) :=
  if (X 1) ≤ (X 3) then some ((X 2), I, A, M, MB, L) else if wk_inb (X 3) tn = true then if (tx ((X 3)).toNatClampNeg) = 10 then f_D_breaksBefore_23 tn tx rc I A M MB L (upd X 2 ((X 2) + 1)) Y else f_D_breaksBefore_23 tn tx rc I A M MB L X Y else none
def f_D_breaksBefore_go (tn : Nat) (tx : Nat → Int32) : Nat → Nat → MI → MA → MI → MA → ML → (Nat → Int32) → (Nat → Int64) → Option (Int32 × MI × MA × MI × MA × ML)
  | 0, _, _, _, _, _, _, _, _ => none
  | n + 1, t, I, A, M, MB, L, X, Y => if t = 4 then f_D_breaksBefore_4 tn tx (f_D_breaksBefore_go tn tx n) I A M MB L X Y else none
def f_D_breaksBefore_e (tn : Nat) (tx : Nat → Int32) (rc : Nat → MI → MA → MI → MA → ML → (Nat → Int32) → (Nat → Int64) → Option (Int32 × MI × MA × MI × MA × ML)) (I : MI) (A : MA) (M : MI) (MB : MA) (L : ML) (k1 : Int32) : Option (Int32 × MI × MA × MI × MA × ML) :=
  rc 4 I A M MB L (upd (upd (upd (fun _ => 0) 1 k1) 2 0) 3 0) (fun _ => 0)
def f_D_breaksBefore (tn : Nat) (tx : Nat → Int32) (I : MI) (A : MA) (M : MI) (MB : MA) (L : ML) (k1 : Int32) : Option (Int32 × MI × MA × MI × MA × ML) := f_D_breaksBefore_e tn tx (f_D_breaksBefore_go tn tx wk_FUEL) I A M MB L  k1
def f_Ji_numberOfTrailingZeros_74 (X : Nat → Int32) (Y : Nat → Int64) : Option (Int32) :=
  some ((X 1) + (((X 0)).toUInt32 >>> (((1 : Int32)).toUInt32 &&& Int32.toUInt32 31)).toInt32)
def f_Ji_numberOfTrailingZeros_62 (X : Nat → Int32) (Y : Nat → Int64) : Option (Int32) :=
  if (X 0) ≤ 4 then f_Ji_numberOfTrailingZeros_74 X Y else f_Ji_numberOfTrailingZeros_74 (upd (upd X 0 (((X 0)).toUInt32 >>> (((2 : Int32)).toUInt32 &&& Int32.toUInt32 31)).toInt32) 1 ((X 1) + 2)) Y
def f_Ji_numberOfTrailingZeros_49 (X : Nat → Int32) (Y : Nat → Int64) : Option (Int32) :=
  if (X 0) ≤ 16 then f_Ji_numberOfTrailingZeros_62 X Y else f_Ji_numberOfTrailingZeros_62 (upd (upd X 0 (((X 0)).toUInt32 >>> (((4 : Int32)).toUInt32 &&& Int32.toUInt32 31)).toInt32) 1 ((X 1) + 4)) Y
def f_Ji_numberOfTrailingZeros_34 (X : Nat → Int32) (Y : Nat → Int64) : Option (Int32) :=
  if (X 0) ≤ 256 then f_Ji_numberOfTrailingZeros_49 X Y else f_Ji_numberOfTrailingZeros_49 (upd (upd X 0 (((X 0)).toUInt32 >>> (((8 : Int32)).toUInt32 &&& Int32.toUInt32 31)).toInt32) 1 ((X 1) + 8)) Y
def f_Ji_numberOfTrailingZeros (k0 : Int32) : Option (Int32) :=
  if 0 < ((k0 ^^^ (-1)) &&& (k0 - 1)) then if ((k0 ^^^ (-1)) &&& (k0 - 1)) ≤ 65536 then f_Ji_numberOfTrailingZeros_34 (upd (upd (fun _ => 0) 0 ((k0 ^^^ (-1)) &&& (k0 - 1))) 1 1) (fun _ => 0) else f_Ji_numberOfTrailingZeros_34 (upd (upd (fun _ => 0) 0 ((((k0 ^^^ (-1)) &&& (k0 - 1))).toUInt32 >>> (((16 : Int32)).toUInt32 &&& Int32.toUInt32 31)).toInt32) 1 17) (fun _ => 0) else some (((k0 ^^^ (-1)) &&& (k0 - 1)) &&& 32)
def f_Jl_numberOfTrailingZeros_25 (X : Nat → Int32) (Y : Nat → Int64) (s0 : Int32) : Option (Int32) :=
  some s0
def f_Jl_numberOfTrailingZeros (k0 : Int64) : Option (Int32) :=
  if (k0).toInt32 = 0 then (f_Ji_numberOfTrailingZeros (((k0).toUInt64 >>> (((32 : Int32)).toInt64.toUInt64 &&& Int64.toUInt64 63)).toInt64).toInt32).bind (fun z1 => f_Jl_numberOfTrailingZeros_25 (upd (fun _ => 0) 2 (k0).toInt32) (vp_updL (fun _ => 0) 0 k0) (32 + z1)) else (f_Ji_numberOfTrailingZeros (k0).toInt32).bind (fun z1 => f_Jl_numberOfTrailingZeros_25 (upd (fun _ => 0) 2 (k0).toInt32) (vp_updL (fun _ => 0) 0 k0) z1)
def f_A_asSet_12 (X : Nat → Int32) (Y : Nat → Int64) (s0 : Int64) : Option (Int64) :=
  some s0
def f_A_asSet (k0 : Int32) : Option (Int64) :=
  if k0 = (-1) then f_A_asSet_12 (upd (fun _ => 0) 0 k0) (fun _ => 0) 0 else f_A_asSet_12 (upd (fun _ => 0) 0 k0) (fun _ => 0) ((1 : Int64) <<< ((k0).toInt64 &&& 63))
def f_A_waysOut_73 (I : MI) (A : MA) (L : ML) (X : Nat → Int32) (Y : Nat → Int64) (s0 : Int64) : Option (Int64 × MI × MA × ML) :=
  some (s0, I, A, L)
def f_A_waysOut_91 (I : MI) (A : MA) (L : ML) (X : Nat → Int32) (Y : Nat → Int64) (s0 : Int64) : Option (Int64 × MI × MA × ML) :=
  some (s0, I, A, L)
def f_A_waysOut (I : MI) (A : MA) (L : ML) (k1 : Int32) (k2 : Int32) (k3 : Int32) : Option (Int64 × MI × MA × ML) :=
  if wk_inb k1 50 = true then if (A 0 (k1).toNatClampNeg) = 0 then if wk_inb k1 50 = true then (f_A_asSet (A 1 (k1).toNatClampNeg)).bind (fun z1 => if wk_inb k1 50 = true then (f_A_asSet (A 2 (k1).toNatClampNeg)).bind (fun z2 => some ((z1 ||| z2), I, A, L)) else none) else none else if (A 0 (k1).toNatClampNeg) = 1 then some (0, I, A, L) else if (A 0 (k1).toNatClampNeg) = 2 then if k2 = 0 then f_A_waysOut_73 I A L (upd (upd (upd (fun _ => 0) 1 k1) 2 k2) 3 k3) (fun _ => 0) 0 else if wk_inb k1 50 = true then (f_A_asSet (A 1 (k1).toNatClampNeg)).bind (fun z1 => f_A_waysOut_73 I A L (upd (upd (upd (fun _ => 0) 1 k1) 2 k2) 3 k3) (fun _ => 0) z1) else none else if (A 0 (k1).toNatClampNeg) = 3 then if k3 = 0 then f_A_waysOut_91 I A L (upd (upd (upd (fun _ => 0) 1 k1) 2 k2) 3 k3) (fun _ => 0) 0 else if wk_inb k1 50 = true then (f_A_asSet (A 1 (k1).toNatClampNeg)).bind (fun z1 => f_A_waysOut_91 I A L (upd (upd (upd (fun _ => 0) 1 k1) 2 k2) 3 k3) (fun _ => 0) z1) else none else some (0, I, A, L) else none
def f_A_spread_44 (tn : Nat) (tx : Nat → Int32) (rc : Nat → MI → MA → ML → (Nat → Int32) → (Nat → Int64) → Option (Int64 × MI × MA × ML)) (I : MI) (A : MA) (L : ML) (X : Nat → Int32) (Y : Nat → Int64) (s0 : Int32) : Option (Int64 × MI × MA × ML) :=
  rc 55 I A L (upd (upd X 6 s0) 11 0) (vp_updL (vp_updL Y 7 (Y 1)) 9 (Y 1))
def f_A_spread_39 (tn : Nat) (tx : Nat → Int32) (rc : Nat → MI → MA → ML → (Nat → Int32) → (Nat → Int64) → Option (Int64 × MI × MA × ML)) (I : MI) (A : MA) (L : ML) (X : Nat → Int32) (Y : Nat → Int64) : Option (Int64 × MI × MA × ML) :=
  f_A_spread_44 tn tx rc I A L X Y 1
def f_A_spread_21 (tn : Nat) (tx : Nat → Int32) (rc : Nat → MI → MA → ML → (Nat → Int32) → (Nat → Int64) → Option (Int64 × MI × MA × ML)) (I : MI) (A : MA) (L : ML) (X : Nat → Int32) (Y : Nat → Int64) (s0 : Int32) : Option (Int64 × MI × MA × ML) :=
  if (X 4) = (Int32.ofNat tn) then f_A_spread_39 tn tx rc I A L (upd X 5 s0) Y else if wk_inb (X 4) tn = true then if (tx ((X 4)).toNatClampNeg) = 10 then f_A_spread_39 tn tx rc I A L (upd X 5 s0) Y else f_A_spread_44 tn tx rc I A L (upd X 5 s0) Y 0 else none
def f_A_spread_16 (tn : Nat) (tx : Nat → Int32) (rc : Nat → MI → MA → ML → (Nat → Int32) → (Nat → Int64) → Option (Int64 × MI × MA × ML)) (I : MI) (A : MA) (L : ML) (X : Nat → Int32) (Y : Nat → Int64) : Option (Int64 × MI × MA × ML) :=
  f_A_spread_21 tn tx rc I A L X Y 1
def f_A_spread_126 (tn : Nat) (tx : Nat → Int32) (rc : Nat → MI → MA → ML → (Nat → Int32) → (Nat → Int64) → Option (Int64 × MI × MA × ML)) (I : MI) (A : MA) (L : ML) (X : Nat → Int32) (Y : Nat → Int64) : Option (Int64 × MI × MA × ML) :=
  some ((Y 7), I, A, L)
def f_A_spread_55 (tn : Nat) (tx : Nat → Int32) (rc : Nat → MI → MA → ML → (Nat → Int32) → (Nat → Int64) → Option (Int64 × MI × MA × ML)) (I : MI) (A : MA) (L : ML) (X : Nat → Int32) (Y : Nat → Int64) : Option (Int64 × MI × MA × ML) :=
  if (I 5) ≤ (X 11) then f_A_spread_126 tn tx rc I A L X Y else if (lg_cmp (Y 9) 0) = 0 then f_A_spread_126 tn tx rc I A L X Y else (f_Jl_numberOfTrailingZeros (Y 9)).bind (fun z1 => (f_A_waysOut I A L z1 (X 5) (X 6)).bind (fun z2 => (fun r2 I2 A2 L2 => rc 55 I2 A2 L2 (upd X 11 ((X 11) + 1)) (vp_updL (vp_updL Y 7 ((Y 7) ||| (r2 &&& ((Y 7) ^^^ (-1))))) 9 (((Y 9) &&& ((Y 9) - 1)) ||| (r2 &&& ((Y 7) ^^^ (-1)))))) z2.1 z2.2.1 z2.2.2.1 z2.2.2.2))
def f_A_spread_go (tn : Nat) (tx : Nat → Int32) : Nat → Nat → MI → MA → ML → (Nat → Int32) → (Nat → Int64) → Option (Int64 × MI × MA × ML)
  | 0, _, _, _, _, _, _ => none
  | n + 1, t, I, A, L, X, Y => if t = 55 then f_A_spread_55 tn tx (f_A_spread_go tn tx n) I A L X Y else none
def f_A_spread_e (tn : Nat) (tx : Nat → Int32) (rc : Nat → MI → MA → ML → (Nat → Int32) → (Nat → Int64) → Option (Int64 × MI × MA × ML)) (I : MI) (A : MA) (L : ML) (k1 : Int64) (k4 : Int32) : Option (Int64 × MI × MA × ML) :=
  if k4 = 0 then f_A_spread_16 tn tx rc I A L (upd (fun _ => 0) 4 k4) (vp_updL (fun _ => 0) 1 k1) else if wk_inb (k4 - 1) tn = true then if (tx ((k4 - 1)).toNatClampNeg) = 10 then f_A_spread_16 tn tx rc I A L (upd (fun _ => 0) 4 k4) (vp_updL (fun _ => 0) 1 k1) else f_A_spread_21 tn tx rc I A L (upd (fun _ => 0) 4 k4) (vp_updL (fun _ => 0) 1 k1) 0 else none
def f_A_spread (tn : Nat) (tx : Nat → Int32) (I : MI) (A : MA) (L : ML) (k1 : Int64) (k4 : Int32) : Option (Int64 × MI × MA × ML) := f_A_spread_e tn tx (f_A_spread_go tn tx wk_FUEL) I A L  k1 k4
def f_A_takes_40 (I : MI) (A : MA) (L : ML) (X : Nat → Int32) (Y : Nat → Int64) (s0 : Int32) : Option (Int32 × MI × MA × ML) :=
  if vp_nar .boolean s0 = s0 then some (s0, I, A, L) else none
def f_A_takes_21 (I : MI) (A : MA) (L : ML) (X : Nat → Int32) (Y : Nat → Int64) (s0 : Int64) : Option (Int32 × MI × MA × ML) :=
  if (lg_cmp (((s0).toUInt64 >>> ((((X 2) &&& 63)).toInt64.toUInt64 &&& Int64.toUInt64 63)).toInt64 &&& 1) 0) = 0 then f_A_takes_40 I A L X (vp_updL Y 3 s0) 0 else f_A_takes_40 I A L X (vp_updL Y 3 s0) 1
def f_A_takes (I : MI) (A : MA) (L : ML) (k1 : Int32) (k2 : Int32) : Option (Int32 × MI × MA × ML) :=
  if 64 ≤ k2 then if wk_inb k1 50 = true then f_A_takes_21 I A L (upd (upd (fun _ => 0) 1 k1) 2 k2) (fun _ => 0) (L 4 (k1).toNatClampNeg) else none else if wk_inb k1 50 = true then f_A_takes_21 I A L (upd (upd (fun _ => 0) 1 k1) 2 k2) (fun _ => 0) (L 3 (k1).toNatClampNeg) else none
def f_A_consume_83 (rc : Nat → MI → MA → ML → (Nat → Int32) → (Nat → Int64) → Option (Int64 × MI × MA × ML)) (I : MI) (A : MA) (L : ML) (X : Nat → Int32) (Y : Nat → Int64) : Option (Int64 × MI × MA × ML) :=
  some ((Y 4), I, A, L)
def f_A_consume_77 (rc : Nat → MI → MA → ML → (Nat → Int32) → (Nat → Int64) → Option (Int64 × MI × MA × ML)) (I : MI) (A : MA) (L : ML) (X : Nat → Int32) (Y : Nat → Int64) : Option (Int64 × MI × MA × ML) :=
  rc 9 I A L (upd X 8 ((X 8) + 1)) Y
def f_A_consume_9 (rc : Nat → MI → MA → ML → (Nat → Int32) → (Nat → Int64) → Option (Int64 × MI × MA × ML)) (I : MI) (A : MA) (L : ML) (X : Nat → Int32) (Y : Nat → Int64) : Option (Int64 × MI × MA × ML) :=
  if (I 5) ≤ (X 8) then f_A_consume_83 rc I A L X Y else if (lg_cmp (Y 6) 0) = 0 then f_A_consume_83 rc I A L X Y else (f_Jl_numberOfTrailingZeros (Y 6)).bind (fun z1 => if wk_inb z1 50 = true then if (A 0 (z1).toNatClampNeg) = 1 then (f_A_takes I A L z1 (X 3)).bind (fun z2 => (fun r2 I2 A2 L2 => if r2 = 0 then f_A_consume_77 rc I2 A2 L2 (upd X 9 z1) (vp_updL Y 6 ((Y 6) &&& ((Y 6) - 1))) else if wk_inb z1 50 = true then (f_A_asSet (A2 1 (z1).toNatClampNeg)).bind (fun z3 => f_A_consume_77 rc I2 A2 L2 (upd X 9 z1) (vp_updL (vp_updL Y 4 ((Y 4) ||| z3)) 6 ((Y 6) &&& ((Y 6) - 1)))) else none) z2.1 z2.2.1 z2.2.2.1 z2.2.2.2) else f_A_consume_77 rc I A L (upd X 9 z1) (vp_updL Y 6 ((Y 6) &&& ((Y 6) - 1))) else none)
def f_A_consume_go : Nat → Nat → MI → MA → ML → (Nat → Int32) → (Nat → Int64) → Option (Int64 × MI × MA × ML)
  | 0, _, _, _, _, _, _ => none
  | n + 1, t, I, A, L, X, Y => if t = 9 then f_A_consume_9 (f_A_consume_go n) I A L X Y else none
def f_A_consume_e (rc : Nat → MI → MA → ML → (Nat → Int32) → (Nat → Int64) → Option (Int64 × MI × MA × ML)) (I : MI) (A : MA) (L : ML) (k1 : Int64) (k3 : Int32) : Option (Int64 × MI × MA × ML) :=
  rc 9 I A L (upd (upd (fun _ => 0) 3 k3) 8 0) (vp_updL (vp_updL (vp_updL (fun _ => 0) 1 k1) 4 0) 6 k1)
def f_A_consume (I : MI) (A : MA) (L : ML) (k1 : Int64) (k3 : Int32) : Option (Int64 × MI × MA × ML) := f_A_consume_e (f_A_consume_go wk_FUEL) I A L  k1 k3
def f_A_longestFit_79 (tn : Nat) (tx : Nat → Int32) (rc : Nat → MI → MA → ML → (Nat → Int32) → (Nat → Int64) → Option (Int32 × MI × MA × ML)) (I : MI) (A : MA) (L : ML) (X : Nat → Int32) (Y : Nat → Int64) : Option (Int32 × MI × MA × ML) :=
  some ((X 3), I, A, L)
def f_A_longestFit_73 (tn : Nat) (tx : Nat → Int32) (rc : Nat → MI → MA → ML → (Nat → Int32) → (Nat → Int64) → Option (Int32 × MI × MA × ML)) (I : MI) (A : MA) (L : ML) (X : Nat → Int32) (Y : Nat → Int64) : Option (Int32 × MI × MA × ML) :=
  rc 19 I A L (upd X 6 ((X 6) + 1)) Y
def f_A_longestFit_19 (tn : Nat) (tx : Nat → Int32) (rc : Nat → MI → MA → ML → (Nat → Int32) → (Nat → Int64) → Option (Int32 × MI × MA × ML)) (I : MI) (A : MA) (L : ML) (X : Nat → Int32) (Y : Nat → Int64) : Option (Int32 × MI × MA × ML) :=
  if (Int32.ofNat tn) ≤ (X 6) then f_A_longestFit_79 tn tx rc I A L X Y else if (lg_cmp (Y 4) 0) = 0 then f_A_longestFit_79 tn tx rc I A L X Y else if wk_inb (X 6) tn = true then (f_A_consume I A L (Y 4) (tx ((X 6)).toNatClampNeg)).bind (fun z1 => (fun r1 I1 A1 L1 => (f_A_spread tn tx I1 A1 L1 r1 ((X 6) + 1)).bind (fun z2 => (fun r2 I2 A2 L2 => if (lg_cmp (r2 &&& ((1 : Int64) <<< (((I2 7)).toInt64 &&& 63))) 0) = 0 then f_A_longestFit_73 tn tx rc I2 A2 L2 X (vp_updL Y 4 r2) else f_A_longestFit_73 tn tx rc I2 A2 L2 (upd X 3 ((X 6) + 1)) (vp_updL Y 4 r2)) z2.1 z2.2.1 z2.2.2.1 z2.2.2.2)) z1.1 z1.2.1 z1.2.2.1 z1.2.2.2) else none
def f_A_longestFit_go (tn : Nat) (tx : Nat → Int32) : Nat → Nat → MI → MA → ML → (Nat → Int32) → (Nat → Int64) → Option (Int32 × MI × MA × ML)
  | 0, _, _, _, _, _, _ => none
  | n + 1, t, I, A, L, X, Y => if t = 19 then f_A_longestFit_19 tn tx (f_A_longestFit_go tn tx n) I A L X Y else none
def f_A_longestFit_e (tn : Nat) (tx : Nat → Int32) (rc : Nat → MI → MA → ML → (Nat → Int32) → (Nat → Int64) → Option (Int32 × MI × MA × ML)) (I : MI) (A : MA) (L : ML) (k2 : Int32) : Option (Int32 × MI × MA × ML) :=
  (f_A_spread tn tx I A L ((1 : Int64) <<< (((I 6)).toInt64 &&& 63)) k2).bind (fun z1 => (fun r1 I1 A1 L1 => rc 19 I1 A1 L1 (upd (upd (upd (fun _ => 0) 2 k2) 3 (-1)) 6 k2) (vp_updL (fun _ => 0) 4 r1)) z1.1 z1.2.1 z1.2.2.1 z1.2.2.2)
def f_A_longestFit (tn : Nat) (tx : Nat → Int32) (I : MI) (A : MA) (L : ML) (k2 : Int32) : Option (Int32 × MI × MA × ML) := f_A_longestFit_e tn tx (f_A_longestFit_go tn tx wk_FUEL) I A L  k2
def f_A_seek_2 (tn : Nat) (tx : Nat → Int32) (rc : Nat → MI → MA → ML → (Nat → Int32) → (Nat → Int64) → Option (Int32 × MI × MA × ML)) (I : MI) (A : MA) (L : ML) (X : Nat → Int32) (Y : Nat → Int64) : Option (Int32 × MI × MA × ML) :=
  if (Int32.ofNat tn) ≤ (X 3) then some (0, I, A, L) else (f_A_longestFit tn tx I A L (X 3)).bind (fun z1 => (fun r1 I1 A1 L1 => if r1 = (-1) then rc 2 I1 A1 L1 (upd X 3 ((X 3) + 1)) Y else wk_let (upd I1 8 (X 3)) (fun I2 => wk_let (upd I2 9 r1) (fun I3 => some (1, I3, A1, L1)))) z1.1 z1.2.1 z1.2.2.1 z1.2.2.2)
def f_A_seek_go (tn : Nat) (tx : Nat → Int32) : Nat → Nat → MI → MA → ML → (Nat → Int32) → (Nat → Int64) → Option (Int32 × MI × MA × ML)
  | 0, _, _, _, _, _, _ => none
  | n + 1, t, I, A, L, X, Y => if t = 2 then f_A_seek_2 tn tx (f_A_seek_go tn tx n) I A L X Y else none
def f_A_seek_e (tn : Nat) (tx : Nat → Int32) (rc : Nat → MI → MA → ML → (Nat → Int32) → (Nat → Int64) → Option (Int32 × MI × MA × ML)) (I : MI) (A : MA) (L : ML) (k2 : Int32) : Option (Int32 × MI × MA × ML) :=
  rc 2 I A L (upd (upd (fun _ => 0) 2 k2) 3 k2) (fun _ => 0)
def f_A_seek (tn : Nat) (tx : Nat → Int32) (I : MI) (A : MA) (L : ML) (k2 : Int32) : Option (Int32 × MI × MA × ML) := f_A_seek_e tn tx (f_A_seek_go tn tx wk_FUEL) I A L  k2
def f_D_collectMatches_4 (tn : Nat) (tx : Nat → Int32) (rc : Nat → MI → MA → MI → MA → ML → (Nat → Int32) → (Nat → Int64) → Option (Int32 × MI × MA × MI × MA × ML)) (I : MI) (A : MA) (M : MI) (MB : MA) (L : ML) (X : Nat → Int32) (Y : Nat → Int64) : Option (Int32 × MI × MA × MI × MA × ML) :=
  if 160 ≤ (X 2) then some (160, I, A, M, MB, L) else (f_A_seek tn tx M MB L (X 1)).bind (fun z1 => (fun r1 M1 MB1 L1 => if r1 = 0 then some ((X 2), I, A, M1, MB1, L1) else if wk_inb (X 2) 160 = true then wk_let (va_up A 12 (upd (A 12) ((X 2)).toNatClampNeg (M1 8))) (fun A2 => if wk_inb (X 2) 160 = true then wk_let (va_up A2 13 (upd (A2 13) ((X 2)).toNatClampNeg (M1 9))) (fun A3 => rc 4 I A3 M1 MB1 L1 (upd (upd X 1 (M1 9)) 2 ((X 2) + 1)) Y) else none) else none) z1.1 z1.2.1 z1.2.2.1 z1.2.2.2)
def f_D_collectMatches_go (tn : Nat) (tx : Nat → Int32) : Nat → Nat → MI → MA → MI → MA → ML → (Nat → Int32) → (Nat → Int64) → Option (Int32 × MI × MA × MI × MA × ML)
  | 0, _, _, _, _, _, _, _, _ => none
  | n + 1, t, I, A, M, MB, L, X, Y => if t = 4 then f_D_collectMatches_4 tn tx (f_D_collectMatches_go tn tx n) I A M MB L X Y else none
def f_D_collectMatches_e (tn : Nat) (tx : Nat → Int32) (rc : Nat → MI → MA → MI → MA → ML → (Nat → Int32) → (Nat → Int64) → Option (Int32 × MI × MA × MI × MA × ML)) (I : MI) (A : MA) (M : MI) (MB : MA) (L : ML) : Option (Int32 × MI × MA × MI × MA × ML) :=
  rc 4 I A M MB L (upd (upd (fun _ => 0) 1 0) 2 0) (fun _ => 0)
def f_D_collectMatches (tn : Nat) (tx : Nat → Int32) (I : MI) (A : MA) (M : MI) (MB : MA) (L : ML) : Option (Int32 × MI × MA × MI × MA × ML) := f_D_collectMatches_e tn tx (f_D_collectMatches_go tn tx wk_FUEL) I A M MB L 
def f_A_addNode (I : MI) (A : MA) (L : ML) (k1 : Int32) : Option (Int32 × MI × MA × ML) :=
  if wk_inb (I 5) 50 = true then wk_let (va_up A 0 (upd (A 0) ((I 5)).toNatClampNeg k1)) (fun A1 => if wk_inb (I 5) 50 = true then wk_let (va_up A1 1 (upd (A1 1) ((I 5)).toNatClampNeg (-1))) (fun A2 => if wk_inb (I 5) 50 = true then wk_let (va_up A2 2 (upd (A2 2) ((I 5)).toNatClampNeg (-1))) (fun A3 => if wk_inb (I 5) 50 = true then wk_let (va_up L 3 (vp_updL (L 3) ((I 5)).toNatClampNeg 0)) (fun L4 => if wk_inb (I 5) 50 = true then wk_let (va_up L4 4 (vp_updL (L4 4) ((I 5)).toNatClampNeg 0)) (fun L5 => wk_let (upd I 5 ((I 5) + 1)) (fun I6 => some ((I 5), I6, A3, L5))) else none) else none) else none) else none) else none
def f_P_beginRow (sx : Nat → Int32) (I : MI) (A : MA) (M : MI) (MB : MA) (L : ML) (k1 : Int32) : Option (Int32 × MI × MA × MI × MA × ML) :=
  if wk_inb (I 8) 9 = true then wk_let (va_up A 2 (upd (A 2) ((I 8)).toNatClampNeg k1)) (fun A1 => wk_let (upd I 10 (-1)) (fun I2 => wk_let (upd I2 11 (-1)) (fun I3 => wk_let (upd I3 12 k1) (fun I4 => some (0, I4, A1, M, MB, L))))) else none
def f_P_openChoice (sx : Nat → Int32) (I : MI) (A : MA) (M : MI) (MB : MA) (L : ML) (k1 : Int32) : Option (Int32 × MI × MA × MI × MA × ML) :=
  (f_A_addNode M MB L 0).bind (fun z1 => (fun r1 M1 MB1 L1 => if wk_inb (I 8) 9 = true then wk_let (va_up A 0 (upd (A 0) ((I 8)).toNatClampNeg r1)) (fun A2 => (f_A_addNode M1 MB1 L1 0).bind (fun z3 => (fun r3 M3 MB3 L3 => if wk_inb (I 8) 9 = true then wk_let (va_up A2 1 (upd (A2 1) ((I 8)).toNatClampNeg r3)) (fun A4 => if wk_inb (I 8) 9 = true then wk_let (va_up A4 3 (upd (A4 3) ((I 8)).toNatClampNeg k1)) (fun A5 => (f_P_beginRow sx I A5 M3 MB3 L3 r1).bind (fun z6 => (fun r6 I6 A6 M6 MB6 L6 => some (0, I6, A6, M6, MB6, L6)) z6.1 z6.2.1 z6.2.2.1 z6.2.2.2.1 z6.2.2.2.2.1 z6.2.2.2.2.2)) else none) else none) z3.1 z3.2.1 z3.2.2.1 z3.2.2.2)) else none) z1.1 z1.2.1 z1.2.2.1 z1.2.2.2)
def f_P_openGroup (sx : Nat → Int32) (I : MI) (A : MA) (M : MI) (MB : MA) (L : ML) : Option (Int32 × MI × MA × MI × MA × ML) :=
  if (I 8) = 8 then wk_let (upd I 9 (I 7)) (fun I1 => some (0, I1, A, M, MB, L)) else wk_let (upd I 8 ((I 8) + 1)) (fun I1 => (f_P_openChoice sx I1 A M MB L (I1 12)).bind (fun z2 => (fun r2 I2 A2 M2 MB2 L2 => some (0, I2, A2, M2, MB2, L2)) z2.1 z2.2.1 z2.2.2.1 z2.2.2.2.1 z2.2.2.2.2.1 z2.2.2.2.2.2))
def f_P_addPart (sx : Nat → Int32) (I : MI) (A : MA) (M : MI) (MB : MA) (L : ML) (k1 : Int32) (k2 : Int32) : Option (Int32 × MI × MA × MI × MA × ML) :=
  wk_let (upd I 10 (I 12)) (fun I1 => if wk_inb (I1 10) 50 = true then wk_let (va_up MB 1 (upd (MB 1) ((I1 10)).toNatClampNeg k1)) (fun MB2 => wk_let (upd I1 11 k1) (fun I3 => wk_let (upd I3 12 k2) (fun I4 => some (0, I4, A, M, MB2, L)))) else none)
def f_P_closeGroup (sx : Nat → Int32) (I : MI) (A : MA) (M : MI) (MB : MA) (L : ML) : Option (Int32 × MI × MA × MI × MA × ML) :=
  if (I 8) = 0 then wk_let (upd I 9 (I 7)) (fun I1 => some (0, I1, A, M, MB, L)) else if wk_inb (I 8) 9 = true then if wk_inb (I 8) 9 = true then if wk_inb (I 12) 50 = true then wk_let (va_up MB 1 (upd (MB 1) ((I 12)).toNatClampNeg (A 1 ((I 8)).toNatClampNeg))) (fun MB1 => if wk_inb (I 8) 9 = true then wk_let (upd I 12 (A 3 ((I 8)).toNatClampNeg)) (fun I2 => wk_let (upd I2 8 ((I2 8) - 1)) (fun I3 => (f_P_addPart sx I3 A M MB1 L (A 0 ((I 8)).toNatClampNeg) (A 1 ((I 8)).toNatClampNeg)).bind (fun z4 => (fun r4 I4 A4 M4 MB4 L4 => some (0, I4, A4, M4, MB4, L4)) z4.1 z4.2.1 z4.2.2.1 z4.2.2.2.1 z4.2.2.2.2.1 z4.2.2.2.2.2))) else none) else none else none else none
def f_P_repeatPart_108 (sx : Nat → Int32) (I : MI) (A : MA) (M : MI) (MB : MA) (L : ML) (X : Nat → Int32) (Y : Nat → Int64) : Option (Int32 × MI × MA × MI × MA × ML) :=
  some (0, I, A, M, MB, L)
def f_P_repeatPart_66 (sx : Nat → Int32) (I : MI) (A : MA) (M : MI) (MB : MA) (L : ML) (X : Nat → Int32) (Y : Nat → Int64) : Option (Int32 × MI × MA × MI × MA × ML) :=
  if wk_inb (I 12) 50 = true then wk_let (va_up MB 1 (upd (MB 1) ((I 12)).toNatClampNeg (X 3))) (fun MB1 => wk_let (upd I 12 (X 3)) (fun I2 => if (X 1) = 43 then f_P_repeatPart_108 sx I2 A M MB1 L X Y else if wk_inb (I2 10) 50 = true then wk_let (va_up MB1 1 (upd (MB1 1) ((I2 10)).toNatClampNeg (X 2))) (fun MB3 => wk_let (upd I2 11 (X 2)) (fun I4 => f_P_repeatPart_108 sx I4 A M MB3 L X Y)) else none)) else none
def f_P_repeatPart (sx : Nat → Int32) (I : MI) (A : MA) (M : MI) (MB : MA) (L : ML) (k1 : Int32) : Option (Int32 × MI × MA × MI × MA × ML) :=
  if (I 11) = (-1) then wk_let (upd I 9 (I 7)) (fun I1 => some (0, I1, A, M, MB, L)) else (f_A_addNode M MB L 0).bind (fun z1 => (fun r1 M1 MB1 L1 => if wk_inb r1 50 = true then wk_let (va_up MB1 2 (upd (MB1 2) (r1).toNatClampNeg (I 11))) (fun MB2 => if k1 = 63 then (f_A_addNode M1 MB2 L1 0).bind (fun z3 => (fun r3 M3 MB3 L3 => if wk_inb r1 50 = true then wk_let (va_up MB3 1 (upd (MB3 1) (r1).toNatClampNeg r3)) (fun MB4 => f_P_repeatPart_66 sx I A M3 MB4 L3 (upd (upd (upd (fun _ => 0) 1 k1) 2 r1) 3 r3) (fun _ => 0)) else none) z3.1 z3.2.1 z3.2.2.1 z3.2.2.2) else f_P_repeatPart_66 sx I A M1 MB2 L1 (upd (upd (upd (fun _ => 0) 1 k1) 2 r1) 3 r1) (fun _ => 0)) else none) z1.1 z1.2.1 z1.2.2.1 z1.2.2.2)
def f_P_addNodeAsPart (sx : Nat → Int32) (I : MI) (A : MA) (M : MI) (MB : MA) (L : ML) (k1 : Int32) : Option (Int32 × MI × MA × MI × MA × ML) :=
  (f_A_addNode M MB L k1).bind (fun z1 => (fun r1 M1 MB1 L1 => (f_P_addPart sx I A M1 MB1 L1 r1 r1).bind (fun z2 => (fun r2 I2 A2 M2 MB2 L2 => some (r1, I2, A2, M2, MB2, L2)) z2.1 z2.2.1 z2.2.2.1 z2.2.2.2.1 z2.2.2.2.2.1 z2.2.2.2.2.2)) z1.1 z1.2.1 z1.2.2.1 z1.2.2.2)
def f_A_takeCodes_48 (rc : Nat → MI → MA → ML → (Nat → Int32) → (Nat → Int64) → Option (Int32 × MI × MA × ML)) (I : MI) (A : MA) (L : ML) (X : Nat → Int32) (Y : Nat → Int64) : Option (Int32 × MI × MA × ML) :=
  rc 3 I A L (upd X 4 ((X 4) + 1)) Y
def f_A_takeCodes_3 (rc : Nat → MI → MA → ML → (Nat → Int32) → (Nat → Int64) → Option (Int32 × MI × MA × ML)) (I : MI) (A : MA) (L : ML) (X : Nat → Int32) (Y : Nat → Int64) : Option (Int32 × MI × MA × ML) :=
  if (X 3) < (X 4) then some (0, I, A, L) else if 64 ≤ (X 4) then if wk_inb (X 1) 50 = true then if wk_inb (X 1) 50 = true then wk_let (va_up L 4 (vp_updL (L 4) ((X 1)).toNatClampNeg ((L 4 ((X 1)).toNatClampNeg) ||| ((1 : Int64) <<< ((((X 4) - 64)).toInt64 &&& 63))))) (fun L1 => f_A_takeCodes_48 rc I A L1 X Y) else none else none else if wk_inb (X 1) 50 = true then if wk_inb (X 1) 50 = true then wk_let (va_up L 3 (vp_updL (L 3) ((X 1)).toNatClampNeg ((L 3 ((X 1)).toNatClampNeg) ||| ((1 : Int64) <<< (((X 4)).toInt64 &&& 63))))) (fun L1 => f_A_takeCodes_48 rc I A L1 X Y) else none else none
def f_A_takeCodes_go : Nat → Nat → MI → MA → ML → (Nat → Int32) → (Nat → Int64) → Option (Int32 × MI × MA × ML)
  | 0, _, _, _, _, _, _ => none
  | n + 1, t, I, A, L, X, Y => if t = 3 then f_A_takeCodes_3 (f_A_takeCodes_go n) I A L X Y else none
def f_A_takeCodes_e (rc : Nat → MI → MA → ML → (Nat → Int32) → (Nat → Int64) → Option (Int32 × MI × MA × ML)) (I : MI) (A : MA) (L : ML) (k1 : Int32) (k2 : Int32) (k3 : Int32) : Option (Int32 × MI × MA × ML) :=
  rc 3 I A L (upd (upd (upd (upd (fun _ => 0) 1 k1) 2 k2) 3 k3) 4 k2) (fun _ => 0)
def f_A_takeCodes (I : MI) (A : MA) (L : ML) (k1 : Int32) (k2 : Int32) (k3 : Int32) : Option (Int32 × MI × MA × ML) := f_A_takeCodes_e (f_A_takeCodes_go wk_FUEL) I A L  k1 k2 k3
def f_P_readRange_133 (sx : Nat → Int32) (I : MI) (A : MA) (M : MI) (MB : MA) (L : ML) (X : Nat → Int32) (Y : Nat → Int64) : Option (Int32 × MI × MA × MI × MA × ML) :=
  some (0, I, A, M, MB, L)
def f_P_readRange_75 (sx : Nat → Int32) (I : MI) (A : MA) (M : MI) (MB : MA) (L : ML) (X : Nat → Int32) (Y : Nat → Int64) (s0 : Int32) : Option (Int32 × MI × MA × MI × MA × ML) :=
  if s0 = 0 then (f_A_takeCodes M MB L (X 1) (X 2) (X 2)).bind (fun z1 => (fun r1 M1 MB1 L1 => wk_let (upd I 7 ((I 7) + 1)) (fun I2 => f_P_readRange_133 sx I2 A M1 MB1 L1 (upd X 3 s0) Y)) z1.1 z1.2.1 z1.2.2.1 z1.2.2.2) else if wk_inb ((I 7) + 2) 24 = true then (f_A_takeCodes M MB L (X 1) (X 2) (sx (((I 7) + 2)).toNatClampNeg)).bind (fun z1 => (fun r1 M1 MB1 L1 => wk_let (upd I 7 ((I 7) + 3)) (fun I2 => f_P_readRange_133 sx I2 A M1 MB1 L1 (upd X 3 s0) Y)) z1.1 z1.2.1 z1.2.2.1 z1.2.2.2) else none
def f_P_readRange_74 (sx : Nat → Int32) (I : MI) (A : MA) (M : MI) (MB : MA) (L : ML) (X : Nat → Int32) (Y : Nat → Int64) : Option (Int32 × MI × MA × MI × MA × ML) :=
  f_P_readRange_75 sx I A M MB L X Y 0
def f_P_readRange (sx : Nat → Int32) (I : MI) (A : MA) (M : MI) (MB : MA) (L : ML) (k1 : Int32) : Option (Int32 × MI × MA × MI × MA × ML) :=
  if wk_inb (I 7) 24 = true then if (I 6) ≤ ((I 7) + 2) then f_P_readRange_74 sx I A M MB L (upd (upd (fun _ => 0) 1 k1) 2 (sx ((I 7)).toNatClampNeg)) (fun _ => 0) else if wk_inb ((I 7) + 1) 24 = true then if (sx (((I 7) + 1)).toNatClampNeg) = 45 then if wk_inb ((I 7) + 2) 24 = true then if (sx (((I 7) + 2)).toNatClampNeg) = 93 then f_P_readRange_74 sx I A M MB L (upd (upd (fun _ => 0) 1 k1) 2 (sx ((I 7)).toNatClampNeg)) (fun _ => 0) else if wk_inb ((I 7) + 2) 24 = true then if (sx (((I 7) + 2)).toNatClampNeg) < (sx ((I 7)).toNatClampNeg) then f_P_readRange_74 sx I A M MB L (upd (upd (fun _ => 0) 1 k1) 2 (sx ((I 7)).toNatClampNeg)) (fun _ => 0) else f_P_readRange_75 sx I A M MB L (upd (upd (fun _ => 0) 1 k1) 2 (sx ((I 7)).toNatClampNeg)) (fun _ => 0) 1 else none else none else f_P_readRange_74 sx I A M MB L (upd (upd (fun _ => 0) 1 k1) 2 (sx ((I 7)).toNatClampNeg)) (fun _ => 0) else none else none
def f_A_takeOtherCodes (I : MI) (A : MA) (L : ML) (k1 : Int32) : Option (Int32 × MI × MA × ML) :=
  if wk_inb k1 50 = true then if wk_inb k1 50 = true then wk_let (va_up L 3 (vp_updL (L 3) (k1).toNatClampNeg ((L 3 (k1).toNatClampNeg) ^^^ (-1)))) (fun L1 => if wk_inb k1 50 = true then if wk_inb k1 50 = true then wk_let (va_up L1 4 (vp_updL (L1 4) (k1).toNatClampNeg ((L1 4 (k1).toNatClampNeg) ^^^ (-1)))) (fun L2 => some (0, I, A, L2)) else none else none) else none else none
def f_P_readSet_49 (sx : Nat → Int32) (rc : Nat → MI → MA → MI → MA → ML → (Nat → Int32) → (Nat → Int64) → Option (Int32 × MI × MA × MI × MA × ML)) (I : MI) (A : MA) (M : MI) (MB : MA) (L : ML) (X : Nat → Int32) (Y : Nat → Int64) (s0 : Int32) (s1 : Int32) : Option (Int32 × MI × MA × MI × MA × ML) :=
  wk_let (upd I 7 (s1 + s0)) (fun I1 => (f_P_addNodeAsPart sx I1 A M MB L 1).bind (fun z2 => (fun r2 I2 A2 M2 MB2 L2 => rc 67 I2 A2 M2 MB2 L2 (upd (upd (upd X 2 (I1 7)) 3 r2) 4 0) Y) z2.1 z2.2.1 z2.2.2.1 z2.2.2.2.1 z2.2.2.2.2.1 z2.2.2.2.2.2))
def f_P_readSet_34 (sx : Nat → Int32) (rc : Nat → MI → MA → MI → MA → ML → (Nat → Int32) → (Nat → Int64) → Option (Int32 × MI × MA × MI × MA × ML)) (I : MI) (A : MA) (M : MI) (MB : MA) (L : ML) (X : Nat → Int32) (Y : Nat → Int64) (s0 : Int32) : Option (Int32 × MI × MA × MI × MA × ML) :=
  if s0 = 0 then f_P_readSet_49 sx rc I A M MB L (upd X 1 s0) Y 1 (I 7) else f_P_readSet_49 sx rc I A M MB L (upd X 1 s0) Y 2 (I 7)
def f_P_readSet_33 (sx : Nat → Int32) (rc : Nat → MI → MA → MI → MA → ML → (Nat → Int32) → (Nat → Int64) → Option (Int32 × MI × MA × MI × MA × ML)) (I : MI) (A : MA) (M : MI) (MB : MA) (L : ML) (X : Nat → Int32) (Y : Nat → Int64) : Option (Int32 × MI × MA × MI × MA × ML) :=
  f_P_readSet_34 sx rc I A M MB L X Y 0
def f_P_readSet_131 (sx : Nat → Int32) (rc : Nat → MI → MA → MI → MA → ML → (Nat → Int32) → (Nat → Int64) → Option (Int32 × MI × MA × MI × MA × ML)) (I : MI) (A : MA) (M : MI) (MB : MA) (L : ML) (X : Nat → Int32) (Y : Nat → Int64) : Option (Int32 × MI × MA × MI × MA × ML) :=
  wk_let (upd I 9 (I 7)) (fun I1 => some (0, I1, A, M, MB, L))
def f_P_readSet_152 (sx : Nat → Int32) (rc : Nat → MI → MA → MI → MA → ML → (Nat → Int32) → (Nat → Int64) → Option (Int32 × MI × MA × MI × MA × ML)) (I : MI) (A : MA) (M : MI) (MB : MA) (L : ML) (X : Nat → Int32) (Y : Nat → Int64) : Option (Int32 × MI × MA × MI × MA × ML) :=
  some (0, I, A, M, MB, L)
def f_P_readSet_112 (sx : Nat → Int32) (rc : Nat → MI → MA → MI → MA → ML → (Nat → Int32) → (Nat → Int64) → Option (Int32 × MI × MA × MI × MA × ML)) (I : MI) (A : MA) (M : MI) (MB : MA) (L : ML) (X : Nat → Int32) (Y : Nat → Int64) : Option (Int32 × MI × MA × MI × MA × ML) :=
  if (I 7) = (I 6) then f_P_readSet_131 sx rc I A M MB L X Y else if (I 7) = (X 2) then f_P_readSet_131 sx rc I A M MB L X Y else if (X 1) = 0 then f_P_readSet_152 sx rc I A M MB L X Y else (f_A_takeOtherCodes M MB L (X 3)).bind (fun z1 => (fun r1 M1 MB1 L1 => f_P_readSet_152 sx rc I A M1 MB1 L1 X Y) z1.1 z1.2.1 z1.2.2.1 z1.2.2.2)
def f_P_readSet_67 (sx : Nat → Int32) (rc : Nat → MI → MA → MI → MA → ML → (Nat → Int32) → (Nat → Int64) → Option (Int32 × MI × MA × MI × MA × ML)) (I : MI) (A : MA) (M : MI) (MB : MA) (L : ML) (X : Nat → Int32) (Y : Nat → Int64) : Option (Int32 × MI × MA × MI × MA × ML) :=
  if (I 6) ≤ (X 4) then f_P_readSet_112 sx rc I A M MB L X Y else if (I 6) ≤ (I 7) then f_P_readSet_112 sx rc I A M MB L X Y else if wk_inb (I 7) 24 = true then if (sx ((I 7)).toNatClampNeg) = 93 then f_P_readSet_112 sx rc I A M MB L X Y else (f_P_readRange sx I A M MB L (X 3)).bind (fun z1 => (fun r1 I1 A1 M1 MB1 L1 => rc 67 I1 A1 M1 MB1 L1 (upd X 4 ((X 4) + 1)) Y) z1.1 z1.2.1 z1.2.2.1 z1.2.2.2.1 z1.2.2.2.2.1 z1.2.2.2.2.2) else none
def f_P_readSet_go (sx : Nat → Int32) : Nat → Nat → MI → MA → MI → MA → ML → (Nat → Int32) → (Nat → Int64) → Option (Int32 × MI × MA × MI × MA × ML)
  | 0, _, _, _, _, _, _, _, _ => none
  | n + 1, t, I, A, M, MB, L, X, Y => if t = 67 then f_P_readSet_67 sx (f_P_readSet_go sx n) I A M MB L X Y else none
def f_P_readSet_e (sx : Nat → Int32) (rc : Nat → MI → MA → MI → MA → ML → (Nat → Int32) → (Nat → Int64) → Option (Int32 × MI × MA × MI × MA × ML)) (I : MI) (A : MA) (M : MI) (MB : MA) (L : ML) : Option (Int32 × MI × MA × MI × MA × ML) :=
  if (I 6) ≤ ((I 7) + 1) then f_P_readSet_33 sx rc I A M MB L (fun _ => 0) (fun _ => 0) else if wk_inb ((I 7) + 1) 24 = true then if (sx (((I 7) + 1)).toNatClampNeg) = 94 then f_P_readSet_34 sx rc I A M MB L (fun _ => 0) (fun _ => 0) 1 else f_P_readSet_33 sx rc I A M MB L (fun _ => 0) (fun _ => 0) else none
def f_P_readSet (sx : Nat → Int32) (I : MI) (A : MA) (M : MI) (MB : MA) (L : ML) : Option (Int32 × MI × MA × MI × MA × ML) := f_P_readSet_e sx (f_P_readSet_go sx wk_FUEL) I A M MB L 
def f_P_readLiteral (sx : Nat → Int32) (I : MI) (A : MA) (M : MI) (MB : MA) (L : ML) (k1 : Int32) : Option (Int32 × MI × MA × MI × MA × ML) :=
  (f_P_addNodeAsPart sx I A M MB L 1).bind (fun z1 => (fun r1 I1 A1 M1 MB1 L1 => (f_A_takeCodes M1 MB1 L1 r1 k1 k1).bind (fun z2 => (fun r2 M2 MB2 L2 => some (0, I1, A1, M2, MB2, L2)) z2.1 z2.2.1 z2.2.2.1 z2.2.2.2)) z1.1 z1.2.1 z1.2.2.1 z1.2.2.2.1 z1.2.2.2.2.1 z1.2.2.2.2.2)
def f_P_readEscaped (sx : Nat → Int32) (I : MI) (A : MA) (M : MI) (MB : MA) (L : ML) : Option (Int32 × MI × MA × MI × MA × ML) :=
  wk_let (upd I 7 ((I 7) + 1)) (fun I1 => if (I1 7) = (I1 6) then wk_let (upd I1 9 (I1 7)) (fun I2 => some (0, I2, A, M, MB, L)) else if wk_inb (I1 7) 24 = true then (f_P_readLiteral sx I1 A M MB L (sx ((I1 7)).toNatClampNeg)).bind (fun z2 => (fun r2 I2 A2 M2 MB2 L2 => some (0, I2, A2, M2, MB2, L2)) z2.1 z2.2.1 z2.2.2.1 z2.2.2.2.1 z2.2.2.2.2.1 z2.2.2.2.2.2) else none)
def f_P_openRow (sx : Nat → Int32) (I : MI) (A : MA) (M : MI) (MB : MA) (L : ML) : Option (Int32 × MI × MA × MI × MA × ML) :=
  if wk_inb (I 8) 9 = true then if wk_inb (I 12) 50 = true then wk_let (va_up MB 1 (upd (MB 1) ((I 12)).toNatClampNeg (A 1 ((I 8)).toNatClampNeg))) (fun MB1 => (f_A_addNode M MB1 L 0).bind (fun z2 => (fun r2 M2 MB2 L2 => if wk_inb (I 8) 9 = true then if wk_inb (A 2 ((I 8)).toNatClampNeg) 50 = true then wk_let (va_up MB2 2 (upd (MB2 2) ((A 2 ((I 8)).toNatClampNeg)).toNatClampNeg r2)) (fun MB3 => (f_P_beginRow sx I A M2 MB3 L2 r2).bind (fun z4 => (fun r4 I4 A4 M4 MB4 L4 => some (0, I4, A4, M4, MB4, L4)) z4.1 z4.2.1 z4.2.2.1 z4.2.2.2.1 z4.2.2.2.2.1 z4.2.2.2.2.2)) else none else none) z2.1 z2.2.1 z2.2.2.1 z2.2.2.2)) else none else none
def f_P_readDot (sx : Nat → Int32) (I : MI) (A : MA) (M : MI) (MB : MA) (L : ML) : Option (Int32 × MI × MA × MI × MA × ML) :=
  (f_P_addNodeAsPart sx I A M MB L 1).bind (fun z1 => (fun r1 I1 A1 M1 MB1 L1 => (f_A_takeCodes M1 MB1 L1 r1 10 10).bind (fun z2 => (fun r2 M2 MB2 L2 => (f_A_takeOtherCodes M2 MB2 L2 r1).bind (fun z3 => (fun r3 M3 MB3 L3 => some (0, I1, A1, M3, MB3, L3)) z3.1 z3.2.1 z3.2.2.1 z3.2.2.2)) z2.1 z2.2.1 z2.2.2.1 z2.2.2.2)) z1.1 z1.2.1 z1.2.2.1 z1.2.2.2.1 z1.2.2.2.2.1 z1.2.2.2.2.2)
def f_P_readSingle_66 (sx : Nat → Int32) (I : MI) (A : MA) (M : MI) (MB : MA) (L : ML) (X : Nat → Int32) (Y : Nat → Int64) : Option (Int32 × MI × MA × MI × MA × ML) :=
  some (0, I, A, M, MB, L)
def f_P_readSingle (sx : Nat → Int32) (I : MI) (A : MA) (M : MI) (MB : MA) (L : ML) (k1 : Int32) : Option (Int32 × MI × MA × MI × MA × ML) :=
  if k1 = 36 then (f_P_addNodeAsPart sx I A M MB L 3).bind (fun z1 => (fun r1 I1 A1 M1 MB1 L1 => f_P_readSingle_66 sx I1 A1 M1 MB1 L1 (upd (fun _ => 0) 1 k1) (fun _ => 0)) z1.1 z1.2.1 z1.2.2.1 z1.2.2.2.1 z1.2.2.2.2.1 z1.2.2.2.2.2) else if k1 = 46 then (f_P_readDot sx I A M MB L).bind (fun z1 => (fun r1 I1 A1 M1 MB1 L1 => f_P_readSingle_66 sx I1 A1 M1 MB1 L1 (upd (fun _ => 0) 1 k1) (fun _ => 0)) z1.1 z1.2.1 z1.2.2.1 z1.2.2.2.1 z1.2.2.2.2.1 z1.2.2.2.2.2) else if k1 = 94 then (f_P_addNodeAsPart sx I A M MB L 2).bind (fun z1 => (fun r1 I1 A1 M1 MB1 L1 => f_P_readSingle_66 sx I1 A1 M1 MB1 L1 (upd (fun _ => 0) 1 k1) (fun _ => 0)) z1.1 z1.2.1 z1.2.2.1 z1.2.2.2.1 z1.2.2.2.2.1 z1.2.2.2.2.2) else (f_P_readLiteral sx I A M MB L k1).bind (fun z1 => (fun r1 I1 A1 M1 MB1 L1 => f_P_readSingle_66 sx I1 A1 M1 MB1 L1 (upd (fun _ => 0) 1 k1) (fun _ => 0)) z1.1 z1.2.1 z1.2.2.1 z1.2.2.2.1 z1.2.2.2.2.1 z1.2.2.2.2.2)
def f_P_readNext_151 (sx : Nat → Int32) (I : MI) (A : MA) (M : MI) (MB : MA) (L : ML) (X : Nat → Int32) (Y : Nat → Int64) : Option (Int32 × MI × MA × MI × MA × ML) :=
  wk_let (upd I 7 ((I 7) + 1)) (fun I1 => some (0, I1, A, M, MB, L))
def f_P_readNext (sx : Nat → Int32) (I : MI) (A : MA) (M : MI) (MB : MA) (L : ML) : Option (Int32 × MI × MA × MI × MA × ML) :=
  if wk_inb (I 7) 24 = true then if (sx ((I 7)).toNatClampNeg) = 40 then (f_P_openGroup sx I A M MB L).bind (fun z1 => (fun r1 I1 A1 M1 MB1 L1 => f_P_readNext_151 sx I1 A1 M1 MB1 L1 (upd (fun _ => 0) 1 (sx ((I 7)).toNatClampNeg)) (fun _ => 0)) z1.1 z1.2.1 z1.2.2.1 z1.2.2.2.1 z1.2.2.2.2.1 z1.2.2.2.2.2) else if (sx ((I 7)).toNatClampNeg) = 41 then (f_P_closeGroup sx I A M MB L).bind (fun z1 => (fun r1 I1 A1 M1 MB1 L1 => f_P_readNext_151 sx I1 A1 M1 MB1 L1 (upd (fun _ => 0) 1 (sx ((I 7)).toNatClampNeg)) (fun _ => 0)) z1.1 z1.2.1 z1.2.2.1 z1.2.2.2.1 z1.2.2.2.2.1 z1.2.2.2.2.2) else if (sx ((I 7)).toNatClampNeg) = 42 then (f_P_repeatPart sx I A M MB L (sx ((I 7)).toNatClampNeg)).bind (fun z1 => (fun r1 I1 A1 M1 MB1 L1 => f_P_readNext_151 sx I1 A1 M1 MB1 L1 (upd (fun _ => 0) 1 (sx ((I 7)).toNatClampNeg)) (fun _ => 0)) z1.1 z1.2.1 z1.2.2.1 z1.2.2.2.1 z1.2.2.2.2.1 z1.2.2.2.2.2) else if (sx ((I 7)).toNatClampNeg) = 43 then (f_P_repeatPart sx I A M MB L (sx ((I 7)).toNatClampNeg)).bind (fun z1 => (fun r1 I1 A1 M1 MB1 L1 => f_P_readNext_151 sx I1 A1 M1 MB1 L1 (upd (fun _ => 0) 1 (sx ((I 7)).toNatClampNeg)) (fun _ => 0)) z1.1 z1.2.1 z1.2.2.1 z1.2.2.2.1 z1.2.2.2.2.1 z1.2.2.2.2.2) else if (sx ((I 7)).toNatClampNeg) = 63 then (f_P_repeatPart sx I A M MB L (sx ((I 7)).toNatClampNeg)).bind (fun z1 => (fun r1 I1 A1 M1 MB1 L1 => f_P_readNext_151 sx I1 A1 M1 MB1 L1 (upd (fun _ => 0) 1 (sx ((I 7)).toNatClampNeg)) (fun _ => 0)) z1.1 z1.2.1 z1.2.2.1 z1.2.2.2.1 z1.2.2.2.2.1 z1.2.2.2.2.2) else if (sx ((I 7)).toNatClampNeg) = 91 then (f_P_readSet sx I A M MB L).bind (fun z1 => (fun r1 I1 A1 M1 MB1 L1 => f_P_readNext_151 sx I1 A1 M1 MB1 L1 (upd (fun _ => 0) 1 (sx ((I 7)).toNatClampNeg)) (fun _ => 0)) z1.1 z1.2.1 z1.2.2.1 z1.2.2.2.1 z1.2.2.2.2.1 z1.2.2.2.2.2) else if (sx ((I 7)).toNatClampNeg) = 92 then (f_P_readEscaped sx I A M MB L).bind (fun z1 => (fun r1 I1 A1 M1 MB1 L1 => f_P_readNext_151 sx I1 A1 M1 MB1 L1 (upd (fun _ => 0) 1 (sx ((I 7)).toNatClampNeg)) (fun _ => 0)) z1.1 z1.2.1 z1.2.2.1 z1.2.2.2.1 z1.2.2.2.2.1 z1.2.2.2.2.2) else if (sx ((I 7)).toNatClampNeg) = 93 then wk_let (upd I 9 (I 7)) (fun I1 => f_P_readNext_151 sx I1 A M MB L (upd (fun _ => 0) 1 (sx ((I 7)).toNatClampNeg)) (fun _ => 0)) else if (sx ((I 7)).toNatClampNeg) = 124 then (f_P_openRow sx I A M MB L).bind (fun z1 => (fun r1 I1 A1 M1 MB1 L1 => f_P_readNext_151 sx I1 A1 M1 MB1 L1 (upd (fun _ => 0) 1 (sx ((I 7)).toNatClampNeg)) (fun _ => 0)) z1.1 z1.2.1 z1.2.2.1 z1.2.2.2.1 z1.2.2.2.2.1 z1.2.2.2.2.2) else (f_P_readSingle sx I A M MB L (sx ((I 7)).toNatClampNeg)).bind (fun z1 => (fun r1 I1 A1 M1 MB1 L1 => f_P_readNext_151 sx I1 A1 M1 MB1 L1 (upd (fun _ => 0) 1 (sx ((I 7)).toNatClampNeg)) (fun _ => 0)) z1.1 z1.2.1 z1.2.2.1 z1.2.2.2.1 z1.2.2.2.2.1 z1.2.2.2.2.2) else none
def f_P_finish (sx : Nat → Int32) (I : MI) (A : MA) (M : MI) (MB : MA) (L : ML) : Option (Int32 × MI × MA × MI × MA × ML) :=
  if wk_inb 0 9 = true then if wk_inb (I 12) 50 = true then wk_let (va_up MB 1 (upd (MB 1) ((I 12)).toNatClampNeg (A 1 (0 : Int32).toNatClampNeg))) (fun MB1 => if wk_inb 0 9 = true then wk_let (upd M 6 (A 0 (0 : Int32).toNatClampNeg)) (fun M2 => if wk_inb 0 9 = true then wk_let (upd M2 7 (A 1 (0 : Int32).toNatClampNeg)) (fun M3 => some (0, I, A, M3, MB1, L)) else none) else none) else none else none
def f_P_read_112 (sx : Nat → Int32) (rc : Nat → MI → MA → MI → MA → ML → (Nat → Int32) → (Nat → Int64) → Option (Int32 × MI × MA × MI × MA × ML)) (I : MI) (A : MA) (M : MI) (MB : MA) (L : ML) (X : Nat → Int32) (Y : Nat → Int64) : Option (Int32 × MI × MA × MI × MA × ML) :=
  some ((I 9), I, A, M, MB, L)
def f_P_read_100 (sx : Nat → Int32) (rc : Nat → MI → MA → MI → MA → ML → (Nat → Int32) → (Nat → Int64) → Option (Int32 × MI × MA × MI × MA × ML)) (I : MI) (A : MA) (M : MI) (MB : MA) (L : ML) (X : Nat → Int32) (Y : Nat → Int64) : Option (Int32 × MI × MA × MI × MA × ML) :=
  if (I 9) = (-1) then (f_P_finish sx I A M MB L).bind (fun z1 => (fun r1 I1 A1 M1 MB1 L1 => f_P_read_112 sx rc I1 A1 M1 MB1 L1 X Y) z1.1 z1.2.1 z1.2.2.1 z1.2.2.2.1 z1.2.2.2.2.1 z1.2.2.2.2.2) else f_P_read_112 sx rc I A M MB L X Y
def f_P_read_77 (sx : Nat → Int32) (rc : Nat → MI → MA → MI → MA → ML → (Nat → Int32) → (Nat → Int64) → Option (Int32 × MI × MA × MI × MA × ML)) (I : MI) (A : MA) (M : MI) (MB : MA) (L : ML) (X : Nat → Int32) (Y : Nat → Int64) : Option (Int32 × MI × MA × MI × MA × ML) :=
  if (I 9) = (-1) then if (I 8) ≤ 0 then f_P_read_100 sx rc I A M MB L X Y else wk_let (upd I 9 (I 6)) (fun I1 => f_P_read_100 sx rc I1 A M MB L X Y) else f_P_read_100 sx rc I A M MB L X Y
def f_P_read_40 (sx : Nat → Int32) (rc : Nat → MI → MA → MI → MA → ML → (Nat → Int32) → (Nat → Int64) → Option (Int32 × MI × MA × MI × MA × ML)) (I : MI) (A : MA) (M : MI) (MB : MA) (L : ML) (X : Nat → Int32) (Y : Nat → Int64) : Option (Int32 × MI × MA × MI × MA × ML) :=
  if (I 6) ≤ (X 3) then f_P_read_77 sx rc I A M MB L X Y else if (I 6) ≤ (I 7) then f_P_read_77 sx rc I A M MB L X Y else if (I 9) = (-1) then (f_P_readNext sx I A M MB L).bind (fun z1 => (fun r1 I1 A1 M1 MB1 L1 => rc 40 I1 A1 M1 MB1 L1 (upd X 3 ((X 3) + 1)) Y) z1.1 z1.2.1 z1.2.2.1 z1.2.2.2.1 z1.2.2.2.2.1 z1.2.2.2.2.2) else f_P_read_77 sx rc I A M MB L X Y
def f_P_read_go (sx : Nat → Int32) : Nat → Nat → MI → MA → MI → MA → ML → (Nat → Int32) → (Nat → Int64) → Option (Int32 × MI × MA × MI × MA × ML)
  | 0, _, _, _, _, _, _, _, _ => none
  | n + 1, t, I, A, M, MB, L, X, Y => if t = 40 then f_P_read_40 sx (f_P_read_go sx n) I A M MB L X Y else none
def f_P_read_e (sx : Nat → Int32) (rc : Nat → MI → MA → MI → MA → ML → (Nat → Int32) → (Nat → Int64) → Option (Int32 × MI × MA × MI × MA × ML)) (I : MI) (A : MA) (M : MI) (MB : MA) (L : ML) (k2 : Int32) : Option (Int32 × MI × MA × MI × MA × ML) :=
  wk_let (upd I 6 k2) (fun I1 => wk_let (upd I1 7 0) (fun I2 => wk_let (upd I2 9 (-1)) (fun I3 => wk_let (upd M 5 0) (fun M4 => wk_let (upd I3 8 0) (fun I5 => (f_P_openChoice sx I5 A M4 MB L (-1)).bind (fun z6 => (fun r6 I6 A6 M6 MB6 L6 => rc 40 I6 A6 M6 MB6 L6 (upd (upd (fun _ => 0) 2 k2) 3 0) (fun _ => 0)) z6.1 z6.2.1 z6.2.2.1 z6.2.2.2.1 z6.2.2.2.2.1 z6.2.2.2.2.2))))))
def f_P_read (sx : Nat → Int32) (I : MI) (A : MA) (M : MI) (MB : MA) (L : ML) (k2 : Int32) : Option (Int32 × MI × MA × MI × MA × ML) := f_P_read_e sx (f_P_read_go sx wk_FUEL) I A M MB L  k2
def f_P_handOver (I : MI) : Option (Int32 × MI) :=
  some (0, I)
def f_D_compile (I : MI) (A : MA) (M : MI) (MB : MA) (L : ML) (RI : MI) (RA : MA) (N : MI) (NB : MA) (NL : ML) : Option (Nat × Int32 × MI × MA × MI × MA × ML × MI × MA × MI × MA × ML) :=
  (f_P_read (A 0) RI RA N NB NL (I 1)).bind (fun z1 => (fun r1 RI1 RA1 N1 NB1 NL1 => wk_let (upd I 11 r1) (fun I2 => if (I2 11) = (-1) then (f_P_handOver RI1).bind (fun z3 => (fun r3 RI3 => wk_let (upd I2 10 1) (fun I4 => wk_let (upd I4 1 0) (fun I5 => some (0, 0, I5, A, M, MB, L, RI3, RA1, N1, NB1, NL1)))) z3.1 z3.2) else some (3, 0, I2, A, M, MB, L, RI1, RA1, N1, NB1, NL1))) z1.1 z1.2.1 z1.2.2.1 z1.2.2.2.1 z1.2.2.2.2.1 z1.2.2.2.2.2)
def f_D_fault (tn : Nat) (tx : Nat → Int32) (I : MI) (A : MA) (M : MI) (MB : MA) (L : ML) : Option (Int32 × MI × MA × MI × MA × ML) :=
  some ((I 11), I, A, M, MB, L)
def f_D_figure (tn : Nat) (tx : Nat → Int32) (I : MI) (A : MA) (M : MI) (MB : MA) (L : ML) (k1 : Int32) : Option (Nat × Int32 × MI × MA × MI × MA × ML) :=
  if k1 = 0 then some (0, (I 4), I, A, M, MB, L) else if k1 = 1 then some (0, (I 3), I, A, M, MB, L) else if k1 = 2 then some (0, (I 6), I, A, M, MB, L) else if k1 = 3 then some (0, (I 7), I, A, M, MB, L) else if k1 = 4 then some (0, (I 1), I, A, M, MB, L) else some (3, 0, I, A, M, MB, L)
def f_D_requirePlace_13 (tn : Nat) (tx : Nat → Int32) (I : MI) (A : MA) (M : MI) (MB : MA) (L : ML) (X : Nat → Int32) (Y : Nat → Int64) : Option (Nat × Int32 × MI × MA × MI × MA × ML) :=
  some (2, 0, I, A, M, MB, L)
def f_D_requirePlace (tn : Nat) (tx : Nat → Int32) (I : MI) (A : MA) (M : MI) (MB : MA) (L : ML) (k1 : Int32) : Option (Nat × Int32 × MI × MA × MI × MA × ML) :=
  if k1 < 0 then f_D_requirePlace_13 tn tx I A M MB L (upd (fun _ => 0) 1 k1) (fun _ => 0) else if k1 ≤ (Int32.ofNat tn) then some (0, 0, I, A, M, MB, L) else f_D_requirePlace_13 tn tx I A M MB L (upd (fun _ => 0) 1 k1) (fun _ => 0)
def f_D_find (tn : Nat) (tx : Nat → Int32) (I : MI) (A : MA) (M : MI) (MB : MA) (L : ML) (k1 : Int32) : Option (Nat × Int32 × MI × MA × MI × MA × ML) :=
  if (I 10) = 0 then some (1, 0, I, A, M, MB, L) else (f_D_requirePlace tn tx I A M MB L k1).bind (fun z1 => (fun tg1 r1 I1 A1 M1 MB1 L1 => if tg1 = 0 then (f_A_seek tn tx M1 MB1 L1 k1).bind (fun z2 => (fun r2 M2 MB2 L2 => if r2 = 0 then some (4, 0, I1, A1, M2, MB2, L2) else wk_let (upd I1 7 (M2 8)) (fun I3 => wk_let (upd I3 6 (M2 9)) (fun I4 => some (0, (I4 7), I4, A1, M2, MB2, L2)))) z2.1 z2.2.1 z2.2.2.1 z2.2.2.2) else if tg1 = 2 then some (2, 0, I1, A1, M1, MB1, L1) else none) z1.1 z1.2.1 z1.2.2.1 z1.2.2.2.1 z1.2.2.2.2.1 z1.2.2.2.2.2.1 z1.2.2.2.2.2.2)
def f_D_go_54 (tn : Nat) (tx : Nat → Int32) (I : MI) (A : MA) (M : MI) (MB : MA) (L : ML) (X : Nat → Int32) (Y : Nat → Int64) : Option (Nat × Int32 × MI × MA × MI × MA × ML) :=
  some (0, 0, I, A, M, MB, L)
def f_D_go_33 (tn : Nat) (tx : Nat → Int32) (I : MI) (A : MA) (M : MI) (MB : MA) (L : ML) (X : Nat → Int32) (Y : Nat → Int64) : Option (Nat × Int32 × MI × MA × MI × MA × ML) :=
  wk_let (upd I 6 (X 1)) (fun I1 => if (I1 7) = (I1 6) then wk_let (upd I1 7 (-1)) (fun I2 => f_D_go_54 tn tx I2 A M MB L X Y) else f_D_go_54 tn tx I1 A M MB L X Y)
def f_D_go (tn : Nat) (tx : Nat → Int32) (I : MI) (A : MA) (M : MI) (MB : MA) (L : ML) (k1 : Int32) (k2 : Int32) : Option (Nat × Int32 × MI × MA × MI × MA × ML) :=
  (f_D_requirePlace tn tx I A M MB L k1).bind (fun z1 => (fun tg1 r1 I1 A1 M1 MB1 L1 => if tg1 = 0 then if k2 = 0 then wk_let (upd I1 7 (-1)) (fun I2 => f_D_go_33 tn tx I2 A1 M1 MB1 L1 (upd (upd (fun _ => 0) 1 k1) 2 k2) (fun _ => 0)) else if (I1 7) = (-1) then wk_let (upd I1 7 (I1 6)) (fun I2 => f_D_go_33 tn tx I2 A1 M1 MB1 L1 (upd (upd (fun _ => 0) 1 k1) 2 k2) (fun _ => 0)) else f_D_go_33 tn tx I1 A1 M1 MB1 L1 (upd (upd (fun _ => 0) 1 k1) 2 k2) (fun _ => 0) else if tg1 = 2 then some (2, 0, I1, A1, M1, MB1, L1) else none) z1.1 z1.2.1 z1.2.2.1 z1.2.2.2.1 z1.2.2.2.2.1 z1.2.2.2.2.2.1 z1.2.2.2.2.2.2)
def f_D_requireState_12 (n : Nat) (SO : Nat → Int32) (I : MI) (cx : Nat) (SP : MI) (SL : MI) (X : Nat → Int32) (Y : Nat → Int64) : Option (Nat × Int32 × MI × Nat × MI × MI) :=
  some (3, 0, I, cx, SP, SL)
def f_D_requireState (n : Nat) (SO : Nat → Int32) (I : MI) (cx : Nat) (SP : MI) (SL : MI) (k1 : Int32) : Option (Nat × Int32 × MI × Nat × MI × MI) :=
  if k1 < 0 then f_D_requireState_12 n SO I cx SP SL (upd (fun _ => 0) 1 k1) (fun _ => 0) else if k1 < (I 3) then some (0, 0, I, cx, SP, SL) else f_D_requireState_12 n SO I cx SP SL (upd (fun _ => 0) 1 k1) (fun _ => 0)
def f_D_moveTo_70 (n : Nat) (SO : Nat → Int32) (I : MI) (cx : Nat) (SP : MI) (SL : MI) (X : Nat → Int32) (Y : Nat → Int64) : Option (Int32 × MI × Nat × MI × MI) :=
  some (0, I, cx, SP, SL)
def f_D_moveTo (n : Nat) (SO : Nat → Int32) (I : MI) (cx : Nat) (SP : MI) (SL : MI) (k1 : Int32) : Option (Int32 × MI × Nat × MI × MI) :=
  if wk_inb (I 4) 40 = true then if wk_inb (I 4) n = true then wk_let (upd SP ((I 4)).toNatClampNeg (I 6)) (fun SP1 => if wk_inb k1 40 = true then if wk_inb k1 n = true then wk_let (upd I 4 k1) (fun I2 => wk_let (upd I2 6 (SP1 (k1).toNatClampNeg)) (fun I3 => wk_let (upd I3 7 (-1)) (fun I4 => if (SO (k1).toNatClampNeg) = (-1) then f_D_moveTo_70 n SO I4 (k1).toNatClampNeg SP1 SL (upd (fun _ => 0) 1 k1) (fun _ => 0) else if wk_inb (SO (k1).toNatClampNeg) 40 = true then if wk_inb (SO (k1).toNatClampNeg) n = true then wk_let (upd SL ((SO (k1).toNatClampNeg)).toNatClampNeg k1) (fun SL5 => f_D_moveTo_70 n SO I4 (k1).toNatClampNeg SP1 SL5 (upd (fun _ => 0) 1 k1) (fun _ => 0)) else none else none))) else none else none) else none else none
def f_D_jump (n : Nat) (SO : Nat → Int32) (I : MI) (cx : Nat) (SP : MI) (SL : MI) (k1 : Int32) : Option (Nat × Int32 × MI × Nat × MI × MI) :=
  (f_D_requireState n SO I cx SP SL k1).bind (fun z1 => (fun tg1 r1 I1 cx1 SP1 SL1 => if tg1 = 0 then (f_D_moveTo n SO I1 cx1 SP1 SL1 k1).bind (fun z2 => (fun r2 I2 cx2 SP2 SL2 => some (0, 0, I2, cx2, SP2, SL2)) z2.1 z2.2.1 z2.2.2.1 z2.2.2.2.1 z2.2.2.2.2) else if tg1 = 3 then some (3, 0, I1, cx1, SP1, SL1) else none) z1.1 z1.2.1 z1.2.2.1 z1.2.2.2.1 z1.2.2.2.2.1 z1.2.2.2.2.2)
def f_D_length (tn : Nat) (tx : Nat → Int32) (I : MI) (A : MA) (M : MI) (MB : MA) (L : ML) : Option (Int32 × MI × MA × MI × MA × ML) :=
  some ((Int32.ofNat tn), I, A, M, MB, L)
def f_D_lineBegin_42 (tn : Nat) (tx : Nat → Int32) (rc : Nat → MI → MA → MI → MA → ML → (Nat → Int32) → (Nat → Int64) → Option (Nat × Int32 × MI × MA × MI × MA × ML)) (I : MI) (A : MA) (M : MI) (MB : MA) (L : ML) (X : Nat → Int32) (Y : Nat → Int64) : Option (Nat × Int32 × MI × MA × MI × MA × ML) :=
  rc 10 I A M MB L (upd X 3 ((X 3) + 1)) Y
def f_D_lineBegin_10 (tn : Nat) (tx : Nat → Int32) (rc : Nat → MI → MA → MI → MA → ML → (Nat → Int32) → (Nat → Int64) → Option (Nat × Int32 × MI × MA × MI × MA × ML)) (I : MI) (A : MA) (M : MI) (MB : MA) (L : ML) (X : Nat → Int32) (Y : Nat → Int64) : Option (Nat × Int32 × MI × MA × MI × MA × ML) :=
  if (Int32.ofNat tn) ≤ (X 3) then some (2, 0, I, A, M, MB, L) else if wk_inb (X 3) tn = true then if (tx ((X 3)).toNatClampNeg) = 10 then if ((X 2) + 1) = (X 1) then some (0, ((X 3) + 1), I, A, M, MB, L) else f_D_lineBegin_42 tn tx rc I A M MB L (upd X 2 ((X 2) + 1)) Y else f_D_lineBegin_42 tn tx rc I A M MB L X Y else none
def f_D_lineBegin_go (tn : Nat) (tx : Nat → Int32) : Nat → Nat → MI → MA → MI → MA → ML → (Nat → Int32) → (Nat → Int64) → Option (Nat × Int32 × MI × MA × MI × MA × ML)
  | 0, _, _, _, _, _, _, _, _ => none
  | n + 1, t, I, A, M, MB, L, X, Y => if t = 10 then f_D_lineBegin_10 tn tx (f_D_lineBegin_go tn tx n) I A M MB L X Y else none
def f_D_lineBegin_e (tn : Nat) (tx : Nat → Int32) (rc : Nat → MI → MA → MI → MA → ML → (Nat → Int32) → (Nat → Int64) → Option (Nat × Int32 × MI × MA × MI × MA × ML)) (I : MI) (A : MA) (M : MI) (MB : MA) (L : ML) (k1 : Int32) : Option (Nat × Int32 × MI × MA × MI × MA × ML) :=
  if k1 = 0 then some (0, 0, I, A, M, MB, L) else rc 10 I A M MB L (upd (upd (upd (fun _ => 0) 1 k1) 2 0) 3 0) (fun _ => 0)
def f_D_lineBegin (tn : Nat) (tx : Nat → Int32) (I : MI) (A : MA) (M : MI) (MB : MA) (L : ML) (k1 : Int32) : Option (Nat × Int32 × MI × MA × MI × MA × ML) := f_D_lineBegin_e tn tx (f_D_lineBegin_go tn tx wk_FUEL) I A M MB L  k1
def f_D_lineSize_33 (tn : Nat) (tx : Nat → Int32) (rc : Nat → MI → MA → MI → MA → ML → (Nat → Int32) → (Nat → Int64) → Option (Int32 × MI × MA × MI × MA × ML)) (I : MI) (A : MA) (M : MI) (MB : MA) (L : ML) (X : Nat → Int32) (Y : Nat → Int64) : Option (Int32 × MI × MA × MI × MA × ML) :=
  some ((X 2), I, A, M, MB, L)
def f_D_lineSize_4 (tn : Nat) (tx : Nat → Int32) (rc : Nat → MI → MA → MI → MA → ML → (Nat → Int32) → (Nat → Int64) → Option (Int32 × MI × MA × MI × MA × ML)) (I : MI) (A : MA) (M : MI) (MB : MA) (L : ML) (X : Nat → Int32) (Y : Nat → Int64) : Option (Int32 × MI × MA × MI × MA × ML) :=
  if (Int32.ofNat tn) ≤ (X 3) then f_D_lineSize_33 tn tx rc I A M MB L X Y else if wk_inb (X 3) tn = true then if (tx ((X 3)).toNatClampNeg) = 10 then f_D_lineSize_33 tn tx rc I A M MB L X Y else rc 4 I A M MB L (upd (upd X 2 ((X 2) + 1)) 3 ((X 3) + 1)) Y else none
def f_D_lineSize_go (tn : Nat) (tx : Nat → Int32) : Nat → Nat → MI → MA → MI → MA → ML → (Nat → Int32) → (Nat → Int64) → Option (Int32 × MI × MA × MI × MA × ML)
  | 0, _, _, _, _, _, _, _, _ => none
  | n + 1, t, I, A, M, MB, L, X, Y => if t = 4 then f_D_lineSize_4 tn tx (f_D_lineSize_go tn tx n) I A M MB L X Y else none
def f_D_lineSize_e (tn : Nat) (tx : Nat → Int32) (rc : Nat → MI → MA → MI → MA → ML → (Nat → Int32) → (Nat → Int64) → Option (Int32 × MI × MA × MI × MA × ML)) (I : MI) (A : MA) (M : MI) (MB : MA) (L : ML) (k1 : Int32) : Option (Int32 × MI × MA × MI × MA × ML) :=
  rc 4 I A M MB L (upd (upd (upd (fun _ => 0) 1 k1) 2 0) 3 k1) (fun _ => 0)
def f_D_lineSize (tn : Nat) (tx : Nat → Int32) (I : MI) (A : MA) (M : MI) (MB : MA) (L : ML) (k1 : Int32) : Option (Int32 × MI × MA × MI × MA × ML) := f_D_lineSize_e tn tx (f_D_lineSize_go tn tx wk_FUEL) I A M MB L  k1
def f_D_line (tn : Nat) (tx : Nat → Int32) (I : MI) (A : MA) (M : MI) (MB : MA) (L : ML) (k1 : Int32) (k2 : Int32) : Option (Nat × Int32 × MI × MA × MI × MA × ML) :=
  if k1 = 0 then (f_D_breaksBefore tn tx I A M MB L (Int32.ofNat tn)).bind (fun z1 => (fun r1 I1 A1 M1 MB1 L1 => some (0, (r1 + 1), I1, A1, M1, MB1, L1)) z1.1 z1.2.1 z1.2.2.1 z1.2.2.2.1 z1.2.2.2.2.1 z1.2.2.2.2.2) else if k1 = 1 then (f_D_requirePlace tn tx I A M MB L k2).bind (fun z1 => (fun tg1 r1 I1 A1 M1 MB1 L1 => if tg1 = 0 then (f_D_breaksBefore tn tx I1 A1 M1 MB1 L1 k2).bind (fun z2 => (fun r2 I2 A2 M2 MB2 L2 => some (0, r2, I2, A2, M2, MB2, L2)) z2.1 z2.2.1 z2.2.2.1 z2.2.2.2.1 z2.2.2.2.2.1 z2.2.2.2.2.2) else if tg1 = 2 then some (2, 0, I1, A1, M1, MB1, L1) else none) z1.1 z1.2.1 z1.2.2.1 z1.2.2.2.1 z1.2.2.2.2.1 z1.2.2.2.2.2.1 z1.2.2.2.2.2.2) else if k1 = 2 then (f_D_lineBegin tn tx I A M MB L k2).bind (fun z1 => (fun tg1 r1 I1 A1 M1 MB1 L1 => if tg1 = 0 then some (0, r1, I1, A1, M1, MB1, L1) else if tg1 = 2 then some (2, 0, I1, A1, M1, MB1, L1) else none) z1.1 z1.2.1 z1.2.2.1 z1.2.2.2.1 z1.2.2.2.2.1 z1.2.2.2.2.2.1 z1.2.2.2.2.2.2) else if k1 = 3 then (f_D_lineBegin tn tx I A M MB L k2).bind (fun z1 => (fun tg1 r1 I1 A1 M1 MB1 L1 => if tg1 = 0 then (f_D_lineSize tn tx I1 A1 M1 MB1 L1 r1).bind (fun z2 => (fun r2 I2 A2 M2 MB2 L2 => some (0, r2, I2, A2, M2, MB2, L2)) z2.1 z2.2.1 z2.2.2.1 z2.2.2.2.1 z2.2.2.2.2.1 z2.2.2.2.2.2) else if tg1 = 2 then some (2, 0, I1, A1, M1, MB1, L1) else none) z1.1 z1.2.1 z1.2.2.1 z1.2.2.2.1 z1.2.2.2.2.1 z1.2.2.2.2.2.1 z1.2.2.2.2.2.2) else some (3, 0, I, A, M, MB, L)
def f_D_parent (n : Nat) (SO : Nat → Int32) (I : MI) (cx : Nat) (SP : MI) (SL : MI) (k1 : Int32) : Option (Nat × Int32 × MI × Nat × MI × MI) :=
  (f_D_requireState n SO I cx SP SL k1).bind (fun z1 => (fun tg1 r1 I1 cx1 SP1 SL1 => if tg1 = 0 then if wk_inb k1 40 = true then if wk_inb k1 n = true then some (0, (SO (k1).toNatClampNeg), I1, cx1, SP1, SL1) else none else none else if tg1 = 3 then some (3, 0, I1, cx1, SP1, SL1) else none) z1.1 z1.2.1 z1.2.2.1 z1.2.2.2.1 z1.2.2.2.2.1 z1.2.2.2.2.2)
def f_D_redo (n : Nat) (SO : Nat → Int32) (I : MI) (cx : Nat) (SP : MI) (SL : MI) : Option (Nat × Int32 × MI × Nat × MI × MI) :=
  if wk_inb (I 4) 40 = true then if wk_inb (I 4) n = true then if (SL ((I 4)).toNatClampNeg) = (-1) then some (4, 0, I, cx, SP, SL) else (f_D_moveTo n SO I cx SP SL (SL ((I 4)).toNatClampNeg)).bind (fun z1 => (fun r1 I1 cx1 SP1 SL1 => some (0, (I1 4), I1, cx1, SP1, SL1)) z1.1 z1.2.1 z1.2.2.1 z1.2.2.2.1 z1.2.2.2.2) else none else none
def f_D_selectionEnd_26 (tn : Nat) (tx : Nat → Int32) (I : MI) (A : MA) (M : MI) (MB : MA) (L : ML) (X : Nat → Int32) (Y : Nat → Int64) (s0 : Int32) : Option (Int32 × MI × MA × MI × MA × ML) :=
  some (s0, I, A, M, MB, L)
def f_D_selectionEnd (tn : Nat) (tx : Nat → Int32) (I : MI) (A : MA) (M : MI) (MB : MA) (L : ML) : Option (Int32 × MI × MA × MI × MA × ML) :=
  if (I 7) = (-1) then f_D_selectionEnd_26 tn tx I A M MB L (fun _ => 0) (fun _ => 0) (I 6) else f_D_selectionEnd_26 tn tx I A M MB L (fun _ => 0) (fun _ => 0) (if (I 7) < (I 6) then (I 6) else (I 7))
def f_D_selectionStart_26 (tn : Nat) (tx : Nat → Int32) (I : MI) (A : MA) (M : MI) (MB : MA) (L : ML) (X : Nat → Int32) (Y : Nat → Int64) (s0 : Int32) : Option (Int32 × MI × MA × MI × MA × ML) :=
  some (s0, I, A, M, MB, L)
def f_D_selectionStart (tn : Nat) (tx : Nat → Int32) (I : MI) (A : MA) (M : MI) (MB : MA) (L : ML) : Option (Int32 × MI × MA × MI × MA × ML) :=
  if (I 7) = (-1) then f_D_selectionStart_26 tn tx I A M MB L (fun _ => 0) (fun _ => 0) (I 6) else f_D_selectionStart_26 tn tx I A M MB L (fun _ => 0) (fun _ => 0) (if (I 6) < (I 7) then (I 6) else (I 7))
def f_D_sizeWithSlipIn_15 (tn : Nat) (tx : Nat → Int32) (rc : Nat → MI → MA → MI → MA → ML → (Nat → Int32) → (Nat → Int64) → Option (Int32 × MI × MA × MI × MA × ML)) (I : MI) (A : MA) (M : MI) (MB : MA) (L : ML) (X : Nat → Int32) (Y : Nat → Int64) : Option (Int32 × MI × MA × MI × MA × ML) :=
  if (X 1) ≤ (X 3) then some ((X 2), I, A, M, MB, L) else if wk_inb (X 3) 160 = true then if wk_inb (X 3) 160 = true then rc 15 I A M MB L (upd (upd X 2 ((X 2) - ((A 13 ((X 3)).toNatClampNeg) - (A 12 ((X 3)).toNatClampNeg)))) 3 ((X 3) + 1)) Y else none else none
def f_D_sizeWithSlipIn_go (tn : Nat) (tx : Nat → Int32) : Nat → Nat → MI → MA → MI → MA → ML → (Nat → Int32) → (Nat → Int64) → Option (Int32 × MI × MA × MI × MA × ML)
  | 0, _, _, _, _, _, _, _, _ => none
  | n + 1, t, I, A, M, MB, L, X, Y => if t = 15 then f_D_sizeWithSlipIn_15 tn tx (f_D_sizeWithSlipIn_go tn tx n) I A M MB L X Y else none
def f_D_sizeWithSlipIn_e (tn : Nat) (tx : Nat → Int32) (rc : Nat → MI → MA → MI → MA → ML → (Nat → Int32) → (Nat → Int64) → Option (Int32 × MI × MA × MI × MA × ML)) (I : MI) (A : MA) (M : MI) (MB : MA) (L : ML) (k1 : Int32) : Option (Int32 × MI × MA × MI × MA × ML) :=
  rc 15 I A M MB L (upd (upd (upd (fun _ => 0) 1 k1) 2 ((Int32.ofNat tn) + (k1 * (I 1)))) 3 0) (fun _ => 0)
def f_D_sizeWithSlipIn (tn : Nat) (tx : Nat → Int32) (I : MI) (A : MA) (M : MI) (MB : MA) (L : ML) (k1 : Int32) : Option (Int32 × MI × MA × MI × MA × ML) := f_D_sizeWithSlipIn_e tn tx (f_D_sizeWithSlipIn_go tn tx wk_FUEL) I A M MB L  k1
def f_D_type_37 (tn : Nat) (tx : Nat → Int32) (I : MI) (A : MA) (M : MI) (MB : MA) (L : ML) (X : Nat → Int32) (Y : Nat → Int64) : Option (Int32 × MI × MA × MI × MA × ML) :=
  some (0, I, A, M, MB, L)
def f_D_type_23 (tn : Nat) (tx : Nat → Int32) (I : MI) (A : MA) (M : MI) (MB : MA) (L : ML) (X : Nat → Int32) (Y : Nat → Int64) (s0 : Int32) : Option (Int32 × MI × MA × MI × MA × ML) :=
  if s0 = 0 then f_D_type_37 tn tx I A M MB L (upd X 2 s0) Y else if (I 1) = 24 then f_D_type_37 tn tx I A M MB L (upd X 2 s0) Y else if wk_inb (I 1) 24 = true then wk_let (va_up A 0 (upd (A 0) ((I 1)).toNatClampNeg (vp_nar .char (X 1)))) (fun A1 => wk_let (upd I 1 ((I 1) + 1)) (fun I2 => some (1, I2, A1, M, MB, L))) else none
def f_D_type_18 (tn : Nat) (tx : Nat → Int32) (I : MI) (A : MA) (M : MI) (MB : MA) (L : ML) (X : Nat → Int32) (Y : Nat → Int64) : Option (Int32 × MI × MA × MI × MA × ML) :=
  f_D_type_23 tn tx I A M MB L X Y 1
def f_D_type_22 (tn : Nat) (tx : Nat → Int32) (I : MI) (A : MA) (M : MI) (MB : MA) (L : ML) (X : Nat → Int32) (Y : Nat → Int64) : Option (Int32 × MI × MA × MI × MA × ML) :=
  f_D_type_23 tn tx I A M MB L X Y 0
def f_D_type (tn : Nat) (tx : Nat → Int32) (I : MI) (A : MA) (M : MI) (MB : MA) (L : ML) (k1 : Int32) : Option (Int32 × MI × MA × MI × MA × ML) :=
  if k1 = 10 then f_D_type_18 tn tx I A M MB L (upd (fun _ => 0) 1 k1) (fun _ => 0) else if k1 < 32 then f_D_type_22 tn tx I A M MB L (upd (fun _ => 0) 1 k1) (fun _ => 0) else if 126 < k1 then f_D_type_22 tn tx I A M MB L (upd (fun _ => 0) 1 k1) (fun _ => 0) else f_D_type_18 tn tx I A M MB L (upd (fun _ => 0) 1 k1) (fun _ => 0)
def f_D_undo (n : Nat) (SO : Nat → Int32) (I : MI) (cx : Nat) (SP : MI) (SL : MI) : Option (Nat × Int32 × MI × Nat × MI × MI) :=
  if wk_inb (I 4) 40 = true then if wk_inb (I 4) n = true then if (SO ((I 4)).toNatClampNeg) = (-1) then some (4, 0, I, cx, SP, SL) else (f_D_moveTo n SO I cx SP SL (SO ((I 4)).toNatClampNeg)).bind (fun z1 => (fun r1 I1 cx1 SP1 SL1 => some (0, (I1 4), I1, cx1, SP1, SL1)) z1.1 z1.2.1 z1.2.2.1 z1.2.2.2.1 z1.2.2.2.2) else none else none
def f_D_wipe (tn : Nat) (tx : Nat → Int32) (I : MI) (A : MA) (M : MI) (MB : MA) (L : ML) : Option (Int32 × MI × MA × MI × MA × ML) :=
  wk_let (upd I 1 0) (fun I1 => some ((I 1), I1, A, M, MB, L))
def f_S_init (I : MI) (k2 : Int32) (k3 : Int32) : Option (Int32 × MI) :=
  wk_let (upd I 2 k2) (fun I1 => wk_let (upd I1 1 k3) (fun I2 => wk_let (upd I2 3 (-1)) (fun I3 => some (0, I3))))
-- 18.ccon00
set_option maxHeartbeats 8000000 in
set_option maxRecDepth 100000 in
theorem cm_D_at (l : Launch) (dC : Nat → ClassId) (dI : Nat → Nat → Nat) (h : Nat) (q : Nat → Nat) (g : Nat → ClassId) (hp : Nat) (qp : Nat → Nat) (gp : Nat → ClassId) (tq : Nat) (tg : ClassId) (tn : Nat) (tx : Nat → Int32) (sz : Nat) (I : MI) (A : MA) (M : MI) (MB : MA) (L : ML) (k1 : Int32) (r : Int32) (I' : MI) (A' : MA) (M' : MI) (MB' : MA) (L' : ML) (hf : f_D_at tn tx I A M MB L  k1 = some (0, r, I', A', M', MB', L')) : Met l y_D_at w_D_at ({ frames := 0, cells := 0, slots := 0, locals := 0 }) (va_Pc [.ref h, .int k1] (fun U => U.heap.size = sz ∧ va_P (dC, dI) vwCl (dw_W h q g hp qp gp tq tg tn tx I A M MB L) U.heap ∧ va_K (dC, dI) vwCl (dw_T h q g hp qp gp tq tg tn tx) U ∧ va_D (fun _ => True) (dw_W h q g hp qp gp tq tg tn tx I A M MB L))) (va_Qi (fun (r9 : Int32) (_ : Unit) => r9 = r) (fun (_ : Unit) t => va_P (dC, dI) vwCl (dw_W h q g hp qp gp tq tg tn tx I' A' M' MB' L') t.heap ∧ va_K (dC, dI) vwCl (dw_T h q g hp qp gp tq tg tn tx) t ∧ va_D (va_A (dw_W h q g hp qp gp tq tg tn tx I A M MB L) sz) (dw_W h q g hp qp gp tq tg tn tx I' A' M' MB' L')) (va_A (dw_W h q g hp qp gp tq tg tn tx I A M MB L) sz)) 0 0 (va_A (dw_W h q g hp qp gp tq tg tn tx I A M MB L) sz) := by
  refine Met.ofW (cc := prog_1_method_15_code) (maxL := 2) (ret := (some .char)) (by decide) rfl ?_
  intro p e s m args below meth c s₁ B hml hv
  obtain ⟨rfl, hsz, hP, hK, hD0⟩ := hv
  have hx := B.exec
  have hb := B.bytes
  have hr := B.returns
  have hts := atoms_spec (ws := w_D_at) B.pre
  have hown : s.vm.findClass "DraftTree" = some m.cls := findClass_of_methodNamed B.named
  have hlocks := B.notSynchronized
  subst hsz
  have hD := hD0.self (sz := s.heap.size)
  generalize hAe : va_A (dw_W h q g hp qp gp tq tg tn tx I A M MB L) s.heap.size = B9 at hD ⊢
  have hA : ∀ q : Nat, s.heap.size ≤ q → B9 q := fun q h => by rw [← hAe]; exact Or.inr h
  clear hAe
  have hS : va_S B9 s.heap s.heap [] := va_S.rf
  have hl := lv_entry ([.ref h, .int k1]) (n := 2) (Nat.le_of_ble_eq_true rfl)
  rw [lg_entry_eq]
  generalize (lg_sl ([.ref h, .int k1]) ++ List.replicate (2 - (lg_sl ([.ref h, .int k1])).length) Slot.unset).toArray = ls at hl ⊢
  have hl : lv_has ls 2 [(0, .ref h), (1, .int k1)] := hl
  have blk13 : ∀ (I : MI) (A : MA) (M : MI) (MB : MA) (L : ML) (X : Nat → Int32) (Y : Nat → Int64) (ls : Array Slot) (H : Heap) (locs : List Loc), f_D_at_13 tn tx I A M MB L X Y = some (0, r, I', A', M', MB', L') → lv_has ls 2 [(0, .ref h), (1, .int (X 1))] → va_P (dC, dI) vwCl (dw_W h q g hp qp gp tq tg tn tx I A M MB L) H → va_D B9 (dw_W h q g hp qp gp tq tg tn tx I A M MB L) → va_S B9 s.heap H locs → W p l e (headSpec w_D_at ({ frames := 0, cells := 0, slots := 0, locals := 0 })).room s m ([.ref h, .int k1] : List Value).toArray below meth c H locs 0 0 (MQ below (va_Qi (fun (r9 : Int32) (_ : Unit) => r9 = r) (fun (_ : Unit) t => va_P (dC, dI) vwCl (dw_W h q g hp qp gp tq tg tn tx I' A' M' MB' L') t.heap ∧ va_K (dC, dI) vwCl (dw_T h q g hp qp gp tq tg tn tx) t ∧ va_D B9 (dw_W h q g hp qp gp tq tg tn tx I' A' M' MB' L')) B9) ([.ref h, .int k1] : List Value).toArray s 0 0 B9) (F0 m 13 ls []) := by
    intro I A M MB L X Y ls H locs hf hl hP hD hS
    unfold f_D_at_13 at hf
    exact (wk_tag (by decide) hf).elim
  unfold f_D_at at hf
  refine lv_iload_n hx hb d_D_at_0 rfl (lv_at hl 1 rfl) ?_
  refine lv_if_lt (tgt := 13) hx hb d_D_at_1 (by decide) (fun hc1 => ?_) (fun hc1 => ?_)
  ·
    have hf := wk_ift hc1 hf
    exact blk13 I A M MB L (upd (fun _ => 0) 1 k1) (fun _ => 0) _ _ _ hf (lv_sub hl [0, 1] rfl) hP hD hS
  ·
    have hf := wk_iff hc1 hf
    refine lv_iload_n hx hb d_D_at_4 rfl (lv_at hl 1 rfl) ?_
    refine lv_aload_n hx hb d_D_at_5 rfl (lv_at hl 0 rfl) ?_
    refine va_get (D := (dC, dI)) (ci := 0) (v := .ref tq) (C := R_D) (T := F_D) (N := 14) hx hb hts (fun w h => List.mem_cons_of_mem _ (in_D w h)) hown hK hP 0 rfl rfl 5 (by decide) (hts _ (List.mem_cons_of_mem _ lk_242)) (fun _ h9 => h9) rfl d_D_at_6 ?_
    refine va_alen (v := (Int32.ofNat tn)) hx hb hK hP 10 8 rfl rfl rfl d_D_at_9 ?_
    refine lv_icmp_lt (tgt := 21) hx hb d_D_at_10 (by decide) (fun hc2 => ?_) (fun hc2 => ?_)
    ·
      have hf := wk_ift hc2 hf
      refine lv_aload_n hx hb d_D_at_21 rfl (lv_at hl 0 rfl) ?_
      refine va_get (D := (dC, dI)) (ci := 0) (v := .ref tq) (C := R_D) (T := F_D) (N := 14) hx hb hts (fun w h => List.mem_cons_of_mem _ (in_D w h)) hown hK hP 0 rfl rfl 5 (by decide) (hts _ (List.mem_cons_of_mem _ lk_242)) (fun _ h9 => h9) rfl d_D_at_22 ?_
      refine lv_iload_n hx hb d_D_at_25 rfl (lv_at hl 1 rfl) ?_
      obtain ⟨hc3, hf⟩ := wk_if hf
      refine va_cald hx hb hK hP 10 8 rfl rfl (wk_inb_ok hc3) d_D_at_26 ?_
      obtain ⟨hn9, hf⟩ := wk_if hf
      obtain ⟨e0, e1, e2, e3, e4, e5, e6⟩ := wk_inj6 hf
      subst e1
      subst e2
      subst e3
      subst e4
      subst e5
      subst e6
      exact W.zret (v := (tx (k1).toNatClampNeg)) hx hb hr (congrArg Value.int hn9) (fun t ht hW => ⟨⟨(tx (k1).toNatClampNeg), (), rfl, rfl, by rw [ht]; exact hP, va_K.moved hW.alike hK, hD⟩, hS.F ht⟩) hS.2.2 d_D_at_27
    ·
      have hf := wk_iff hc2 hf
      exact blk13 I A M MB L (upd (fun _ => 0) 1 k1) (fun _ => 0) _ _ _ hf (lv_sub hl [0, 1] rfl) hP hD hS
set_option maxHeartbeats 8000000 in
set_option maxRecDepth 100000 in
theorem ct_D_at_2 (l : Launch) (hfl : l.flags = flags0) (dC : Nat → ClassId) (dI : Nat → Nat → Nat) (h : Nat) (q : Nat → Nat) (g : Nat → ClassId) (hp : Nat) (qp : Nat → Nat) (gp : Nat → ClassId) (tq : Nat) (tg : ClassId) (tn : Nat) (tx : Nat → Int32) (sz : Nat) (I : MI) (A : MA) (M : MI) (MB : MA) (L : ML) (k1 : Int32) (r : Int32) (I' : MI) (A' : MA) (M' : MI) (MB' : MA) (L' : ML) (hf : f_D_at tn tx I A M MB L  k1 = some (2, r, I', A', M', MB', L')) : th_Met l y_D_at w_D_at ({ frames := 6, cells := 1, slots := 6, locals := 81 }) (va_Pc [.ref h, .int k1] (fun U => U.heap.size = sz ∧ va_P (dC, dI) vwCl (dw_W h q g hp qp gp tq tg tn tx I A M MB L) U.heap ∧ va_K (dC, dI) vwCl (dw_T h q g hp qp gp tq tg tn tx) U ∧ va_D (fun _ => True) (dw_W h q g hp qp gp tq tg tn tx I A M MB L) ∧ th_ZA (va_A (dw_W h q g hp qp gp tq tg tn tx I A M MB L) sz) U)) (th_Qw "java/lang/IndexOutOfBoundsException" (fun t => va_P (dC, dI) vwCl (dw_W h q g hp qp gp tq tg tn tx I' A' M' MB' L') t.heap ∧ va_K (dC, dI) vwCl (dw_T h q g hp qp gp tq tg tn tx) t ∧ va_D (va_A (dw_W h q g hp qp gp tq tg tn tx I A M MB L) sz) (dw_W h q g hp qp gp tq tg tn tx I' A' M' MB' L')) (va_A (dw_W h q g hp qp gp tq tg tn tx I A M MB L) sz)) 1 6 (va_A (dw_W h q g hp qp gp tq tg tn tx I A M MB L) sz) := by
  refine th_Met.ofW (cc := prog_1_method_15_code) (maxL := 2) (ret := (some .char)) (by decide) rfl ?_
  intro p e s m args below meth c s₁ B hml hnh hv
  obtain ⟨rfl, hsz, hP, hK, hD0, hZ⟩ := hv
  have hx := B.exec
  have hb := B.bytes
  have hr := B.returns
  have hts := atoms_spec (ws := w_D_at) B.pre
  have hown : s.vm.findClass "DraftTree" = some m.cls := findClass_of_methodNamed B.named
  have hlocks := B.notSynchronized
  have htr := Launch.traces_off hfl B.admits
  subst hsz
  have hD := hD0.self (sz := s.heap.size)
  generalize hAe : va_A (dw_W h q g hp qp gp tq tg tn tx I A M MB L) s.heap.size = B9 at hD hZ ⊢
  have hA : ∀ q : Nat, s.heap.size ≤ q → B9 q := fun q h => by rw [← hAe]; exact Or.inr h
  clear hAe
  have hS : va_S B9 s.heap s.heap [] := va_S.rf
  have hl := lv_entry ([.ref h, .int k1]) (n := 2) (Nat.le_of_ble_eq_true rfl)
  rw [lg_entry_eq]
  generalize (lg_sl ([.ref h, .int k1]) ++ List.replicate (2 - (lg_sl ([.ref h, .int k1])).length) Slot.unset).toArray = ls at hl ⊢
  have hl : lv_has ls 2 [(0, .ref h), (1, .int k1)] := hl
  have blk13 : ∀ (I : MI) (A : MA) (M : MI) (MB : MA) (L : ML) (X : Nat → Int32) (Y : Nat → Int64) (ls : Array Slot) (H : Heap) (locs : List Loc), f_D_at_13 tn tx I A M MB L X Y = some (2, r, I', A', M', MB', L') → lv_has ls 2 [(0, .ref h), (1, .int (X 1))] → va_P (dC, dI) vwCl (dw_W h q g hp qp gp tq tg tn tx I A M MB L) H → va_D B9 (dw_W h q g hp qp gp tq tg tn tx I A M MB L) → va_S B9 s.heap H locs → W p l e (headSpec w_D_at ({ frames := 6, cells := 1, slots := 6, locals := 81 })).room s m ([.ref h, .int k1] : List Value).toArray below meth c H locs 0 0 (th_Q below (th_Qw "java/lang/IndexOutOfBoundsException" (fun t => va_P (dC, dI) vwCl (dw_W h q g hp qp gp tq tg tn tx I' A' M' MB' L') t.heap ∧ va_K (dC, dI) vwCl (dw_T h q g hp qp gp tq tg tn tx) t ∧ va_D B9 (dw_W h q g hp qp gp tq tg tn tx I' A' M' MB' L')) B9) ([.ref h, .int k1] : List Value).toArray s 1 6 B9) (F0 m 13 ls []) := by
    intro I A M MB L X Y ls H locs hf hl hP hD hS
    unfold f_D_at_13 at hf
    obtain ⟨e0, e1, e2, e3, e4, e5, e6⟩ := wk_inj6 hf
    subst e1
    subst e2
    subst e3
    subst e4
    subst e5
    subst e6
    exact th_newG hx hb htr hown (by decide) (by decide) (wk_thr hts hZ hS lk_243 lk_244 (fun _ a9 b9 => oa_0 a9 b9)) hnh (by rw [hl.1, hml]) hS (Nat.le_of_ble_eq_true rfl) (Nat.le_of_ble_eq_true rfl) (Nat.le_of_ble_eq_true rfl) (Nat.le_of_ble_eq_true rfl) (Nat.le_of_ble_eq_true rfl) (Nat.le_of_ble_eq_true rfl) hlocks (fun t hal hk => ⟨hP.kept (fun k q hq => hk _ (hP k q hq).lt), va_K.moved hal hK, hD⟩) d_D_at_13 d_D_at_16 d_D_at_17 d_D_at_20
  unfold f_D_at at hf
  refine lv_iload_n hx hb d_D_at_0 rfl (lv_at hl 1 rfl) ?_
  refine lv_if_lt (tgt := 13) hx hb d_D_at_1 (by decide) (fun hc1 => ?_) (fun hc1 => ?_)
  ·
    have hf := wk_ift hc1 hf
    exact blk13 I A M MB L (upd (fun _ => 0) 1 k1) (fun _ => 0) _ _ _ hf (lv_sub hl [0, 1] rfl) hP hD hS
  ·
    have hf := wk_iff hc1 hf
    refine lv_iload_n hx hb d_D_at_4 rfl (lv_at hl 1 rfl) ?_
    refine lv_aload_n hx hb d_D_at_5 rfl (lv_at hl 0 rfl) ?_
    refine va_get (D := (dC, dI)) (ci := 0) (v := .ref tq) (C := R_D) (T := F_D) (N := 14) hx hb hts (fun w h => List.mem_cons_of_mem _ (in_D w h)) hown hK hP 0 rfl rfl 5 (by decide) (hts _ (List.mem_cons_of_mem _ lk_242)) (fun _ h9 => h9) rfl d_D_at_6 ?_
    refine va_alen (v := (Int32.ofNat tn)) hx hb hK hP 10 8 rfl rfl rfl d_D_at_9 ?_
    refine lv_icmp_lt (tgt := 21) hx hb d_D_at_10 (by decide) (fun hc2 => ?_) (fun hc2 => ?_)
    ·
      have hf := wk_ift hc2 hf
      refine lv_aload_n hx hb d_D_at_21 rfl (lv_at hl 0 rfl) ?_
      refine va_get (D := (dC, dI)) (ci := 0) (v := .ref tq) (C := R_D) (T := F_D) (N := 14) hx hb hts (fun w h => List.mem_cons_of_mem _ (in_D w h)) hown hK hP 0 rfl rfl 5 (by decide) (hts _ (List.mem_cons_of_mem _ lk_242)) (fun _ h9 => h9) rfl d_D_at_22 ?_
      refine lv_iload_n hx hb d_D_at_25 rfl (lv_at hl 1 rfl) ?_
      obtain ⟨hc3, hf⟩ := wk_if hf
      refine va_cald hx hb hK hP 10 8 rfl rfl (wk_inb_ok hc3) d_D_at_26 ?_
      obtain ⟨hn9, hf⟩ := wk_if hf
      exact (wk_tag (by decide) hf).elim
    ·
      have hf := wk_iff hc2 hf
      exact blk13 I A M MB L (upd (fun _ => 0) 1 k1) (fun _ => 0) _ _ _ hf (lv_sub hl [0, 1] rfl) hP hD hS

set_option maxHeartbeats 8000000 in
set_option maxRecDepth 100000 in
theorem cm_D_breaksBefore (l : Launch) (dC : Nat → ClassId) (dI : Nat → Nat → Nat) (h : Nat) (q : Nat → Nat) (g : Nat → ClassId) (hp : Nat) (qp : Nat → Nat) (gp : Nat → ClassId) (tq : Nat) (tg : ClassId) (tn : Nat) (tx : Nat → Int32) (sz : Nat) (I : MI) (A : MA) (M : MI) (MB : MA) (L : ML) (k1 : Int32) (r : Int32) (I' : MI) (A' : MA) (M' : MI) (MB' : MA) (L' : ML) (hf : f_D_breaksBefore tn tx I A M MB L  k1 = some (r, I', A', M', MB', L')) : Met l y_D_breaksBefore w_D_breaksBefore ({ frames := 0, cells := 0, slots := 0, locals := 0 }) (va_Pc [.ref h, .int k1] (fun U => U.heap.size = sz ∧ va_P (dC, dI) vwCl (dw_W h q g hp qp gp tq tg tn tx I A M MB L) U.heap ∧ va_K (dC, dI) vwCl (dw_T h q g hp qp gp tq tg tn tx) U ∧ va_D (fun _ => True) (dw_W h q g hp qp gp tq tg tn tx I A M MB L))) (va_Qi (fun (r9 : Int32) (_ : Unit) => r9 = r) (fun (_ : Unit) t => va_P (dC, dI) vwCl (dw_W h q g hp qp gp tq tg tn tx I' A' M' MB' L') t.heap ∧ va_K (dC, dI) vwCl (dw_T h q g hp qp gp tq tg tn tx) t ∧ va_D (va_A (dw_W h q g hp qp gp tq tg tn tx I A M MB L) sz) (dw_W h q g hp qp gp tq tg tn tx I' A' M' MB' L')) (va_A (dw_W h q g hp qp gp tq tg tn tx I A M MB L) sz)) 0 0 (va_A (dw_W h q g hp qp gp tq tg tn tx I A M MB L) sz) := by
  refine Met.ofW (cc := prog_1_method_29_code) (maxL := 4) (ret := (some .int)) (by decide) rfl ?_
  intro p e s m args below meth c s₁ B hml hv
  obtain ⟨rfl, hsz, hP, hK, hD0⟩ := hv
  have hx := B.exec
  have hb := B.bytes
  have hr := B.returns
  have hts := atoms_spec (ws := w_D_breaksBefore) B.pre
  have hown : s.vm.findClass "DraftTree" = some m.cls := findClass_of_methodNamed B.named
  have hlocks := B.notSynchronized
  subst hsz
  have hD := hD0.self (sz := s.heap.size)
  generalize hAe : va_A (dw_W h q g hp qp gp tq tg tn tx I A M MB L) s.heap.size = B9 at hD ⊢
  have hA : ∀ q : Nat, s.heap.size ≤ q → B9 q := fun q h => by rw [← hAe]; exact Or.inr h
  clear hAe
  have hS : va_S B9 s.heap s.heap [] := va_S.rf
  have hl := lv_entry ([.ref h, .int k1]) (n := 4) (Nat.le_of_ble_eq_true rfl)
  rw [lg_entry_eq]
  generalize (lg_sl ([.ref h, .int k1]) ++ List.replicate (4 - (lg_sl ([.ref h, .int k1])).length) Slot.unset).toArray = ls at hl ⊢
  have hl : lv_has ls 4 [(0, .ref h), (1, .int k1)] := hl
  have blk23 : ∀ (rc : Nat → MI → MA → MI → MA → ML → (Nat → Int32) → (Nat → Int64) → Option (Int32 × MI × MA × MI × MA × ML)) (hrc4 : ∀ (I : MI) (A : MA) (M : MI) (MB : MA) (L : ML) (X : Nat → Int32) (Y : Nat → Int64) (ls : Array Slot) (H : Heap) (locs : List Loc), rc 4 I A M MB L X Y = some (r, I', A', M', MB', L') → lv_has ls 4 [(0, .ref h), (1, .int (X 1)), (2, .int (X 2)), (3, .int (X 3))] → va_P (dC, dI) vwCl (dw_W h q g hp qp gp tq tg tn tx I A M MB L) H → va_D B9 (dw_W h q g hp qp gp tq tg tn tx I A M MB L) → va_S B9 s.heap H locs → W p l e (headSpec w_D_breaksBefore ({ frames := 0, cells := 0, slots := 0, locals := 0 })).room s m ([.ref h, .int k1] : List Value).toArray below meth c H locs 0 0 (MQ below (va_Qi (fun (r9 : Int32) (_ : Unit) => r9 = r) (fun (_ : Unit) t => va_P (dC, dI) vwCl (dw_W h q g hp qp gp tq tg tn tx I' A' M' MB' L') t.heap ∧ va_K (dC, dI) vwCl (dw_T h q g hp qp gp tq tg tn tx) t ∧ va_D B9 (dw_W h q g hp qp gp tq tg tn tx I' A' M' MB' L')) B9) ([.ref h, .int k1] : List Value).toArray s 0 0 B9) (F0 m 4 ls [])), ∀ (I : MI) (A : MA) (M : MI) (MB : MA) (L : ML) (X : Nat → Int32) (Y : Nat → Int64) (ls : Array Slot) (H : Heap) (locs : List Loc), f_D_breaksBefore_23 tn tx rc I A M MB L X Y = some (r, I', A', M', MB', L') → lv_has ls 4 [(0, .ref h), (1, .int (X 1)), (2, .int (X 2)), (3, .int (X 3))] → va_P (dC, dI) vwCl (dw_W h q g hp qp gp tq tg tn tx I A M MB L) H → va_D B9 (dw_W h q g hp qp gp tq tg tn tx I A M MB L) → va_S B9 s.heap H locs → W p l e (headSpec w_D_breaksBefore ({ frames := 0, cells := 0, slots := 0, locals := 0 })).room s m ([.ref h, .int k1] : List Value).toArray below meth c H locs 0 0 (MQ below (va_Qi (fun (r9 : Int32) (_ : Unit) => r9 = r) (fun (_ : Unit) t => va_P (dC, dI) vwCl (dw_W h q g hp qp gp tq tg tn tx I' A' M' MB' L') t.heap ∧ va_K (dC, dI) vwCl (dw_T h q g hp qp gp tq tg tn tx) t ∧ va_D B9 (dw_W h q g hp qp gp tq tg tn tx I' A' M' MB' L')) B9) ([.ref h, .int k1] : List Value).toArray s 0 0 B9) (F0 m 23 ls []) := by
    intro rc hrc4 I A M MB L X Y ls H locs hf hl hP hD hS
    unfold f_D_breaksBefore_23 at hf
    refine lv_iinc (k := 3) (v := ((X 3) + 1)) (lv' := [(3, .int ((X 3) + 1)), (0, .ref h), (1, .int (X 1)), (2, .int (X 2))]) hx hb d_D_breaksBefore_23 hl rfl (wk_inc (by decide)) (by decide) rfl (fun ls hl => ?_)
    have hl : lv_has ls 4 [(3, .int ((X 3) + 1)), (0, .ref h), (1, .int (X 1)), (2, .int (X 2))] := hl
    refine lv_goto (tgt := 4) hx hb d_D_breaksBefore_26 (by decide) ?_
    exact hrc4 I A M MB L (upd X 3 ((X 3) + 1)) Y _ _ _ hf (lv_sub hl [1, 2, 3, 0] rfl) hP hD hS
  have stp4 : ∀ (rc : Nat → MI → MA → MI → MA → ML → (Nat → Int32) → (Nat → Int64) → Option (Int32 × MI × MA × MI × MA × ML)) (hrc4 : ∀ (I : MI) (A : MA) (M : MI) (MB : MA) (L : ML) (X : Nat → Int32) (Y : Nat → Int64) (ls : Array Slot) (H : Heap) (locs : List Loc), rc 4 I A M MB L X Y = some (r, I', A', M', MB', L') → lv_has ls 4 [(0, .ref h), (1, .int (X 1)), (2, .int (X 2)), (3, .int (X 3))] → va_P (dC, dI) vwCl (dw_W h q g hp qp gp tq tg tn tx I A M MB L) H → va_D B9 (dw_W h q g hp qp gp tq tg tn tx I A M MB L) → va_S B9 s.heap H locs → W p l e (headSpec w_D_breaksBefore ({ frames := 0, cells := 0, slots := 0, locals := 0 })).room s m ([.ref h, .int k1] : List Value).toArray below meth c H locs 0 0 (MQ below (va_Qi (fun (r9 : Int32) (_ : Unit) => r9 = r) (fun (_ : Unit) t => va_P (dC, dI) vwCl (dw_W h q g hp qp gp tq tg tn tx I' A' M' MB' L') t.heap ∧ va_K (dC, dI) vwCl (dw_T h q g hp qp gp tq tg tn tx) t ∧ va_D B9 (dw_W h q g hp qp gp tq tg tn tx I' A' M' MB' L')) B9) ([.ref h, .int k1] : List Value).toArray s 0 0 B9) (F0 m 4 ls [])), ∀ (I : MI) (A : MA) (M : MI) (MB : MA) (L : ML) (X : Nat → Int32) (Y : Nat → Int64) (ls : Array Slot) (H : Heap) (locs : List Loc), f_D_breaksBefore_4 tn tx rc I A M MB L X Y = some (r, I', A', M', MB', L') → lv_has ls 4 [(0, .ref h), (1, .int (X 1)), (2, .int (X 2)), (3, .int (X 3))] → va_P (dC, dI) vwCl (dw_W h q g hp qp gp tq tg tn tx I A M MB L) H → va_D B9 (dw_W h q g hp qp gp tq tg tn tx I A M MB L) → va_S B9 s.heap H locs → W p l e (headSpec w_D_breaksBefore ({ frames := 0, cells := 0, slots := 0, locals := 0 })).room s m ([.ref h, .int k1] : List Value).toArray below meth c H locs 0 0 (MQ below (va_Qi (fun (r9 : Int32) (_ : Unit) => r9 = r) (fun (_ : Unit) t => va_P (dC, dI) vwCl (dw_W h q g hp qp gp tq tg tn tx I' A' M' MB' L') t.heap ∧ va_K (dC, dI) vwCl (dw_T h q g hp qp gp tq tg tn tx) t ∧ va_D B9 (dw_W h q g hp qp gp tq tg tn tx I' A' M' MB' L')) B9) ([.ref h, .int k1] : List Value).toArray s 0 0 B9) (F0 m 4 ls []) := by
    intro rc hrc4 I A M MB L X Y ls H locs hf hl hP hD hS
    unfold f_D_breaksBefore_4 at hf
    refine lv_iload_n hx hb d_D_breaksBefore_4 rfl (lv_at hl 3 rfl) ?_
    refine lv_iload_n hx hb d_D_breaksBefore_5 rfl (lv_at hl 1 rfl) ?_
    refine lv_icmp_ge (tgt := 29) hx hb d_D_breaksBefore_6 (by decide) (fun hc1 => ?_) (fun hc1 => ?_)
    ·
      have hf := wk_ift hc1 hf
      refine lv_iload_n hx hb d_D_breaksBefore_29 rfl (lv_at hl 2 rfl) ?_
      obtain ⟨e0, e1, e2, e3, e4, e5⟩ := wk_inj5 hf
      subst e0
      subst e1
      subst e2
      subst e3
      subst e4
      subst e5
      exact W.iret (v := (X 2)) hx hb hr (fun t ht hW => ⟨⟨(X 2), (), rfl, rfl, by rw [ht]; exact hP, va_K.moved hW.alike hK, hD⟩, hS.F ht⟩) hS.2.2 d_D_breaksBefore_30
    ·
      have hf := wk_iff hc1 hf
      refine lv_aload_n hx hb d_D_breaksBefore_9 rfl (lv_at hl 0 rfl) ?_
      refine va_get (D := (dC, dI)) (ci := 0) (v := .ref tq) (C := R_D) (T := F_D) (N := 14) hx hb hts (fun w h => List.mem_cons_of_mem _ (in_D w h)) hown hK hP 0 rfl rfl 5 (by decide) (hts _ (List.mem_cons_of_mem _ lk_242)) (fun _ h9 => h9) rfl d_D_breaksBefore_10 ?_
      refine lv_iload_n hx hb d_D_breaksBefore_13 rfl (lv_at hl 3 rfl) ?_
      obtain ⟨hc2, hf⟩ := wk_if hf
      refine va_cald hx hb hK hP 10 8 rfl rfl (wk_inb_ok hc2) d_D_breaksBefore_14 ?_
      refine lv_bipush (v := 10) hx hb d_D_breaksBefore_15 (by decide) ?_
      refine lv_icmp_ne (tgt := 23) hx hb d_D_breaksBefore_17 (by decide) (fun hc3 => ?_) (fun hc3 => ?_)
      ·
        have hf := wk_iff hc3 hf
        exact blk23 rc hrc4 I A M MB L X Y _ _ _ hf (lv_sub hl [0, 1, 2, 3] rfl) hP hD hS
      ·
        have hf := wk_ift hc3 hf
        refine lv_iinc (k := 2) (v := ((X 2) + 1)) (lv' := [(2, .int ((X 2) + 1)), (0, .ref h), (1, .int (X 1)), (3, .int (X 3))]) hx hb d_D_breaksBefore_20 hl rfl (wk_inc (by decide)) (by decide) rfl (fun ls hl => ?_)
        have hl : lv_has ls 4 [(2, .int ((X 2) + 1)), (0, .ref h), (1, .int (X 1)), (3, .int (X 3))] := hl
        exact blk23 rc hrc4 I A M MB L (upd X 2 ((X 2) + 1)) Y _ _ _ hf (lv_sub hl [1, 2, 0, 3] rfl) hP hD hS
  have key : ∀ n : Nat, (∀ (I : MI) (A : MA) (M : MI) (MB : MA) (L : ML) (X : Nat → Int32) (Y : Nat → Int64) (ls : Array Slot) (H : Heap) (locs : List Loc), f_D_breaksBefore_go tn tx n 4 I A M MB L X Y = some (r, I', A', M', MB', L') → lv_has ls 4 [(0, .ref h), (1, .int (X 1)), (2, .int (X 2)), (3, .int (X 3))] → va_P (dC, dI) vwCl (dw_W h q g hp qp gp tq tg tn tx I A M MB L) H → va_D B9 (dw_W h q g hp qp gp tq tg tn tx I A M MB L) → va_S B9 s.heap H locs → W p l e (headSpec w_D_breaksBefore ({ frames := 0, cells := 0, slots := 0, locals := 0 })).room s m ([.ref h, .int k1] : List Value).toArray below meth c H locs 0 0 (MQ below (va_Qi (fun (r9 : Int32) (_ : Unit) => r9 = r) (fun (_ : Unit) t => va_P (dC, dI) vwCl (dw_W h q g hp qp gp tq tg tn tx I' A' M' MB' L') t.heap ∧ va_K (dC, dI) vwCl (dw_T h q g hp qp gp tq tg tn tx) t ∧ va_D B9 (dw_W h q g hp qp gp tq tg tn tx I' A' M' MB' L')) B9) ([.ref h, .int k1] : List Value).toArray s 0 0 B9) (F0 m 4 ls [])) := by
    intro n
    induction n with
    | zero => exact fun I A M MB L X Y ls H locs hf => (by cases hf)
    | succ n ih =>
      have ih4 := ih
      exact stp4 (f_D_breaksBefore_go tn tx n) ih4
  unfold f_D_breaksBefore f_D_breaksBefore_e at hf
  have hrc4 := key wk_FUEL
  refine lv_iconst (v := 0) hx hb d_D_breaksBefore_0 (by decide) ?_
  refine lv_istore_n (lv' := [(2, .int 0), (0, .ref h), (1, .int k1)]) hx hb d_D_breaksBefore_1 rfl hl (by decide) rfl (fun ls hl => ?_)
  have hl : lv_has ls 4 [(2, .int 0), (0, .ref h), (1, .int k1)] := hl
  refine lv_iconst (v := 0) hx hb d_D_breaksBefore_2 (by decide) ?_
  refine lv_istore_n (lv' := [(3, .int 0), (2, .int 0), (0, .ref h), (1, .int k1)]) hx hb d_D_breaksBefore_3 rfl hl (by decide) rfl (fun ls hl => ?_)
  have hl : lv_has ls 4 [(3, .int 0), (2, .int 0), (0, .ref h), (1, .int k1)] := hl
  exact hrc4 I A M MB L (upd (upd (upd (fun _ => 0) 1 k1) 2 0) 3 0) (fun _ => 0) _ _ _ hf (lv_sub hl [2, 3, 1, 0] rfl) hP hD hS

set_option maxHeartbeats 8000000 in
set_option maxRecDepth 100000 in
theorem cm_Ji_numberOfTrailingZeros (l : Launch) (dC : Nat → ClassId) (dI : Nat → Nat → Nat)  (sz : Nat) (k0 : Int32) (r : Int32) (hf : f_Ji_numberOfTrailingZeros  k0 = some r) : Met l y_Ji_numberOfTrailingZeros w_Ji_numberOfTrailingZeros ({ frames := 0, cells := 0, slots := 0, locals := 0 }) (va_Pc [.int k0] (fun U => U.heap.size = sz ∧ va_P (dC, dI) vwCl [] U.heap ∧ va_K (dC, dI) vwCl [] U ∧ va_D (fun _ => True) [])) (va_Qi (fun (r9 : Int32) (_ : Unit) => r9 = r) (fun (_ : Unit) t => va_P (dC, dI) vwCl [] t.heap ∧ va_K (dC, dI) vwCl [] t ∧ va_D (va_A [] sz) []) (va_A [] sz)) 0 0 (va_A [] sz) := by
  refine Met.ofW (cc := prog_11_method_48_code) (maxL := 2) (ret := (some .int)) (by decide) rfl ?_
  intro p e s m args below meth c s₁ B hml hv
  obtain ⟨rfl, hsz, hP, hK, hD0⟩ := hv
  have hx := B.exec
  have hb := B.bytes
  have hr := B.returns
  have hts := atoms_spec (ws := w_Ji_numberOfTrailingZeros) B.pre
  have hown : s.vm.findClass "java/lang/Integer" = some m.cls := findClass_of_methodNamed B.named
  have hlocks := B.notSynchronized
  subst hsz
  have hD := hD0.self (sz := s.heap.size)
  generalize hAe : va_A [] s.heap.size = B9 at hD ⊢
  have hA : ∀ q : Nat, s.heap.size ≤ q → B9 q := fun q h => by rw [← hAe]; exact Or.inr h
  clear hAe
  have hS : va_S B9 s.heap s.heap [] := va_S.rf
  have hl := lv_entry ([.int k0]) (n := 2) (Nat.le_of_ble_eq_true rfl)
  rw [lg_entry_eq]
  generalize (lg_sl ([.int k0]) ++ List.replicate (2 - (lg_sl ([.int k0])).length) Slot.unset).toArray = ls at hl ⊢
  have hl : lv_has ls 2 [(0, .int k0)] := hl
  have blk74 : ∀ (X : Nat → Int32) (Y : Nat → Int64) (ls : Array Slot) (H : Heap) (locs : List Loc), f_Ji_numberOfTrailingZeros_74 X Y = some r → lv_has ls 2 [(0, .int (X 0)), (1, .int (X 1))] → va_P (dC, dI) vwCl [] H → va_D B9 [] → va_S B9 s.heap H locs → W p l e (headSpec w_Ji_numberOfTrailingZeros ({ frames := 0, cells := 0, slots := 0, locals := 0 })).room s m ([.int k0] : List Value).toArray below meth c H locs 0 0 (MQ below (va_Qi (fun (r9 : Int32) (_ : Unit) => r9 = r) (fun (_ : Unit) t => va_P (dC, dI) vwCl [] t.heap ∧ va_K (dC, dI) vwCl [] t ∧ va_D B9 []) B9) ([.int k0] : List Value).toArray s 0 0 B9) (F0 m 74 ls []) := by
    intro X Y ls H locs hf hl hP hD hS
    unfold f_Ji_numberOfTrailingZeros_74 at hf
    refine lv_iload_n hx hb d_Ji_numberOfTrailingZeros_74 rfl (lv_at hl 1 rfl) ?_
    refine lv_iload_n hx hb d_Ji_numberOfTrailingZeros_75 rfl (lv_at hl 0 rfl) ?_
    refine lv_iconst (v := 1) hx hb d_Ji_numberOfTrailingZeros_76 (by decide) ?_
    refine lv_iushr hx hb d_Ji_numberOfTrailingZeros_77 rfl ?_
    refine lv_iadd hx hb d_Ji_numberOfTrailingZeros_78 ?_
    have e0 := Option.some.inj hf
    subst e0
    exact W.iret (v := ((X 1) + (((X 0)).toUInt32 >>> (((1 : Int32)).toUInt32 &&& Int32.toUInt32 31)).toInt32)) hx hb hr (fun t ht hW => ⟨⟨((X 1) + (((X 0)).toUInt32 >>> (((1 : Int32)).toUInt32 &&& Int32.toUInt32 31)).toInt32), (), rfl, rfl, by rw [ht]; exact hP, va_K.moved hW.alike hK, hD⟩, hS.F ht⟩) hS.2.2 d_Ji_numberOfTrailingZeros_79
  have blk62 : ∀ (X : Nat → Int32) (Y : Nat → Int64) (ls : Array Slot) (H : Heap) (locs : List Loc), f_Ji_numberOfTrailingZeros_62 X Y = some r → lv_has ls 2 [(0, .int (X 0)), (1, .int (X 1))] → va_P (dC, dI) vwCl [] H → va_D B9 [] → va_S B9 s.heap H locs → W p l e (headSpec w_Ji_numberOfTrailingZeros ({ frames := 0, cells := 0, slots := 0, locals := 0 })).room s m ([.int k0] : List Value).toArray below meth c H locs 0 0 (MQ below (va_Qi (fun (r9 : Int32) (_ : Unit) => r9 = r) (fun (_ : Unit) t => va_P (dC, dI) vwCl [] t.heap ∧ va_K (dC, dI) vwCl [] t ∧ va_D B9 []) B9) ([.int k0] : List Value).toArray s 0 0 B9) (F0 m 62 ls []) := by
    intro X Y ls H locs hf hl hP hD hS
    unfold f_Ji_numberOfTrailingZeros_62 at hf
    refine lv_iload_n hx hb d_Ji_numberOfTrailingZeros_62 rfl (lv_at hl 0 rfl) ?_
    refine lv_iconst (v := 4) hx hb d_Ji_numberOfTrailingZeros_63 (by decide) ?_
    refine lv_icmp_le (tgt := 74) hx hb d_Ji_numberOfTrailingZeros_64 (by decide) (fun hc1 => ?_) (fun hc1 => ?_)
    ·
      have hf := wk_ift hc1 hf
      exact blk74 X Y _ _ _ hf (lv_sub hl [0, 1] rfl) hP hD hS
    ·
      have hf := wk_iff hc1 hf
      refine lv_iinc (k := 1) (v := ((X 1) + 2)) (lv' := [(1, .int ((X 1) + 2)), (0, .int (X 0))]) hx hb d_Ji_numberOfTrailingZeros_67 hl rfl (wk_inc (by decide)) (by decide) rfl (fun ls hl => ?_)
      have hl : lv_has ls 2 [(1, .int ((X 1) + 2)), (0, .int (X 0))] := hl
      refine lv_iload_n hx hb d_Ji_numberOfTrailingZeros_70 rfl (lv_at hl 1 rfl) ?_
      refine lv_iconst (v := 2) hx hb d_Ji_numberOfTrailingZeros_71 (by decide) ?_
      refine lv_iushr hx hb d_Ji_numberOfTrailingZeros_72 rfl ?_
      refine lv_istore_n (lv' := [(0, .int (((X 0)).toUInt32 >>> (((2 : Int32)).toUInt32 &&& Int32.toUInt32 31)).toInt32), (1, .int ((X 1) + 2))]) hx hb d_Ji_numberOfTrailingZeros_73 rfl hl (by decide) rfl (fun ls hl => ?_)
      have hl : lv_has ls 2 [(0, .int (((X 0)).toUInt32 >>> (((2 : Int32)).toUInt32 &&& Int32.toUInt32 31)).toInt32), (1, .int ((X 1) + 2))] := hl
      exact blk74 (upd (upd X 0 (((X 0)).toUInt32 >>> (((2 : Int32)).toUInt32 &&& Int32.toUInt32 31)).toInt32) 1 ((X 1) + 2)) Y _ _ _ hf (lv_sub hl [0, 1] rfl) hP hD hS
  have blk49 : ∀ (X : Nat → Int32) (Y : Nat → Int64) (ls : Array Slot) (H : Heap) (locs : List Loc), f_Ji_numberOfTrailingZeros_49 X Y = some r → lv_has ls 2 [(0, .int (X 0)), (1, .int (X 1))] → va_P (dC, dI) vwCl [] H → va_D B9 [] → va_S B9 s.heap H locs → W p l e (headSpec w_Ji_numberOfTrailingZeros ({ frames := 0, cells := 0, slots := 0, locals := 0 })).room s m ([.int k0] : List Value).toArray below meth c H locs 0 0 (MQ below (va_Qi (fun (r9 : Int32) (_ : Unit) => r9 = r) (fun (_ : Unit) t => va_P (dC, dI) vwCl [] t.heap ∧ va_K (dC, dI) vwCl [] t ∧ va_D B9 []) B9) ([.int k0] : List Value).toArray s 0 0 B9) (F0 m 49 ls []) := by
    intro X Y ls H locs hf hl hP hD hS
    unfold f_Ji_numberOfTrailingZeros_49 at hf
    refine lv_iload_n hx hb d_Ji_numberOfTrailingZeros_49 rfl (lv_at hl 0 rfl) ?_
    refine lv_bipush (v := 16) hx hb d_Ji_numberOfTrailingZeros_50 (by decide) ?_
    refine lv_icmp_le (tgt := 62) hx hb d_Ji_numberOfTrailingZeros_52 (by decide) (fun hc1 => ?_) (fun hc1 => ?_)
    ·
      have hf := wk_ift hc1 hf
      exact blk62 X Y _ _ _ hf (lv_sub hl [0, 1] rfl) hP hD hS
    ·
      have hf := wk_iff hc1 hf
      refine lv_iinc (k := 1) (v := ((X 1) + 4)) (lv' := [(1, .int ((X 1) + 4)), (0, .int (X 0))]) hx hb d_Ji_numberOfTrailingZeros_55 hl rfl (wk_inc (by decide)) (by decide) rfl (fun ls hl => ?_)
      have hl : lv_has ls 2 [(1, .int ((X 1) + 4)), (0, .int (X 0))] := hl
      refine lv_iload_n hx hb d_Ji_numberOfTrailingZeros_58 rfl (lv_at hl 1 rfl) ?_
      refine lv_iconst (v := 4) hx hb d_Ji_numberOfTrailingZeros_59 (by decide) ?_
      refine lv_iushr hx hb d_Ji_numberOfTrailingZeros_60 rfl ?_
      refine lv_istore_n (lv' := [(0, .int (((X 0)).toUInt32 >>> (((4 : Int32)).toUInt32 &&& Int32.toUInt32 31)).toInt32), (1, .int ((X 1) + 4))]) hx hb d_Ji_numberOfTrailingZeros_61 rfl hl (by decide) rfl (fun ls hl => ?_)
      have hl : lv_has ls 2 [(0, .int (((X 0)).toUInt32 >>> (((4 : Int32)).toUInt32 &&& Int32.toUInt32 31)).toInt32), (1, .int ((X 1) + 4))] := hl
      exact blk62 (upd (upd X 0 (((X 0)).toUInt32 >>> (((4 : Int32)).toUInt32 &&& Int32.toUInt32 31)).toInt32) 1 ((X 1) + 4)) Y _ _ _ hf (lv_sub hl [0, 1] rfl) hP hD hS
  have blk34 : ∀ (X : Nat → Int32) (Y : Nat → Int64) (ls : Array Slot) (H : Heap) (locs : List Loc), f_Ji_numberOfTrailingZeros_34 X Y = some r → lv_has ls 2 [(0, .int (X 0)), (1, .int (X 1))] → va_P (dC, dI) vwCl [] H → va_D B9 [] → va_S B9 s.heap H locs → W p l e (headSpec w_Ji_numberOfTrailingZeros ({ frames := 0, cells := 0, slots := 0, locals := 0 })).room s m ([.int k0] : List Value).toArray below meth c H locs 0 0 (MQ below (va_Qi (fun (r9 : Int32) (_ : Unit) => r9 = r) (fun (_ : Unit) t => va_P (dC, dI) vwCl [] t.heap ∧ va_K (dC, dI) vwCl [] t ∧ va_D B9 []) B9) ([.int k0] : List Value).toArray s 0 0 B9) (F0 m 34 ls []) := by
    intro X Y ls H locs hf hl hP hD hS
    unfold f_Ji_numberOfTrailingZeros_34 at hf
    refine lv_iload_n hx hb d_Ji_numberOfTrailingZeros_34 rfl (lv_at hl 0 rfl) ?_
    refine lv_sipush (v := 256) hx hb d_Ji_numberOfTrailingZeros_35 (by decide) ?_
    refine lv_icmp_le (tgt := 49) hx hb d_Ji_numberOfTrailingZeros_38 (by decide) (fun hc1 => ?_) (fun hc1 => ?_)
    ·
      have hf := wk_ift hc1 hf
      exact blk49 X Y _ _ _ hf (lv_sub hl [0, 1] rfl) hP hD hS
    ·
      have hf := wk_iff hc1 hf
      refine lv_iinc (k := 1) (v := ((X 1) + 8)) (lv' := [(1, .int ((X 1) + 8)), (0, .int (X 0))]) hx hb d_Ji_numberOfTrailingZeros_41 hl rfl (wk_inc (by decide)) (by decide) rfl (fun ls hl => ?_)
      have hl : lv_has ls 2 [(1, .int ((X 1) + 8)), (0, .int (X 0))] := hl
      refine lv_iload_n hx hb d_Ji_numberOfTrailingZeros_44 rfl (lv_at hl 1 rfl) ?_
      refine lv_bipush (v := 8) hx hb d_Ji_numberOfTrailingZeros_45 (by decide) ?_
      refine lv_iushr hx hb d_Ji_numberOfTrailingZeros_47 rfl ?_
      refine lv_istore_n (lv' := [(0, .int (((X 0)).toUInt32 >>> (((8 : Int32)).toUInt32 &&& Int32.toUInt32 31)).toInt32), (1, .int ((X 1) + 8))]) hx hb d_Ji_numberOfTrailingZeros_48 rfl hl (by decide) rfl (fun ls hl => ?_)
      have hl : lv_has ls 2 [(0, .int (((X 0)).toUInt32 >>> (((8 : Int32)).toUInt32 &&& Int32.toUInt32 31)).toInt32), (1, .int ((X 1) + 8))] := hl
      exact blk49 (upd (upd X 0 (((X 0)).toUInt32 >>> (((8 : Int32)).toUInt32 &&& Int32.toUInt32 31)).toInt32) 1 ((X 1) + 8)) Y _ _ _ hf (lv_sub hl [0, 1] rfl) hP hD hS
  unfold f_Ji_numberOfTrailingZeros at hf
  refine lv_iload_n hx hb d_Ji_numberOfTrailingZeros_0 rfl (lv_at hl 0 rfl) ?_
  refine lv_iconst (v := (-1)) hx hb d_Ji_numberOfTrailingZeros_1 (by decide) ?_
  refine lv_ixor hx hb d_Ji_numberOfTrailingZeros_2 ?_
  refine lv_iload_n hx hb d_Ji_numberOfTrailingZeros_3 rfl (lv_at hl 0 rfl) ?_
  refine lv_iconst (v := 1) hx hb d_Ji_numberOfTrailingZeros_4 (by decide) ?_
  refine lv_isub hx hb d_Ji_numberOfTrailingZeros_5 ?_
  refine lv_iand hx hb d_Ji_numberOfTrailingZeros_6 ?_
  refine lv_istore_n (lv' := [(0, .int ((k0 ^^^ (-1)) &&& (k0 - 1)))]) hx hb d_Ji_numberOfTrailingZeros_7 rfl hl (by decide) rfl (fun ls hl => ?_)
  have hl : lv_has ls 2 [(0, .int ((k0 ^^^ (-1)) &&& (k0 - 1)))] := hl
  refine lv_iload_n hx hb d_Ji_numberOfTrailingZeros_8 rfl (lv_at hl 0 rfl) ?_
  refine lv_if_gt (tgt := 17) hx hb d_Ji_numberOfTrailingZeros_9 (by decide) (fun hc1 => ?_) (fun hc1 => ?_)
  ·
    have hf := wk_ift hc1 hf
    refine lv_iconst (v := 1) hx hb d_Ji_numberOfTrailingZeros_17 (by decide) ?_
    refine lv_istore_n (lv' := [(1, .int 1), (0, .int ((k0 ^^^ (-1)) &&& (k0 - 1)))]) hx hb d_Ji_numberOfTrailingZeros_18 rfl hl (by decide) rfl (fun ls hl => ?_)
    have hl : lv_has ls 2 [(1, .int 1), (0, .int ((k0 ^^^ (-1)) &&& (k0 - 1)))] := hl
    refine lv_iload_n hx hb d_Ji_numberOfTrailingZeros_19 rfl (lv_at hl 1 rfl) ?_
    refine lv_ldcw (v := 65536) hx hb hown (hts _ (List.mem_cons_of_mem _ lk_260)) d_Ji_numberOfTrailingZeros_20 ?_
    refine lv_icmp_le (tgt := 34) hx hb d_Ji_numberOfTrailingZeros_23 (by decide) (fun hc2 => ?_) (fun hc2 => ?_)
    ·
      have hf := wk_ift hc2 hf
      exact blk34 (upd (upd (fun _ => 0) 0 ((k0 ^^^ (-1)) &&& (k0 - 1))) 1 1) (fun _ => 0) _ _ _ hf (lv_sub hl [1, 0] rfl) hP hD hS
    ·
      have hf := wk_iff hc2 hf
      refine lv_iinc (k := 0) (v := 17) (lv' := [(1, .int 17), (0, .int ((k0 ^^^ (-1)) &&& (k0 - 1)))]) hx hb d_Ji_numberOfTrailingZeros_26 hl rfl (by decide) (by decide) rfl (fun ls hl => ?_)
      have hl : lv_has ls 2 [(1, .int 17), (0, .int ((k0 ^^^ (-1)) &&& (k0 - 1)))] := hl
      refine lv_iload_n hx hb d_Ji_numberOfTrailingZeros_29 rfl (lv_at hl 1 rfl) ?_
      refine lv_bipush (v := 16) hx hb d_Ji_numberOfTrailingZeros_30 (by decide) ?_
      refine lv_iushr hx hb d_Ji_numberOfTrailingZeros_32 rfl ?_
      refine lv_istore_n (lv' := [(0, .int ((((k0 ^^^ (-1)) &&& (k0 - 1))).toUInt32 >>> (((16 : Int32)).toUInt32 &&& Int32.toUInt32 31)).toInt32), (1, .int 17)]) hx hb d_Ji_numberOfTrailingZeros_33 rfl hl (by decide) rfl (fun ls hl => ?_)
      have hl : lv_has ls 2 [(0, .int ((((k0 ^^^ (-1)) &&& (k0 - 1))).toUInt32 >>> (((16 : Int32)).toUInt32 &&& Int32.toUInt32 31)).toInt32), (1, .int 17)] := hl
      exact blk34 (upd (upd (fun _ => 0) 0 ((((k0 ^^^ (-1)) &&& (k0 - 1))).toUInt32 >>> (((16 : Int32)).toUInt32 &&& Int32.toUInt32 31)).toInt32) 1 17) (fun _ => 0) _ _ _ hf (lv_sub hl [0, 1] rfl) hP hD hS
  ·
    have hf := wk_iff hc1 hf
    refine lv_iload_n hx hb d_Ji_numberOfTrailingZeros_12 rfl (lv_at hl 0 rfl) ?_
    refine lv_bipush (v := 32) hx hb d_Ji_numberOfTrailingZeros_13 (by decide) ?_
    refine lv_iand hx hb d_Ji_numberOfTrailingZeros_15 ?_
    have e0 := Option.some.inj hf
    subst e0
    exact W.iret (v := (((k0 ^^^ (-1)) &&& (k0 - 1)) &&& 32)) hx hb hr (fun t ht hW => ⟨⟨(((k0 ^^^ (-1)) &&& (k0 - 1)) &&& 32), (), rfl, rfl, by rw [ht]; exact hP, va_K.moved hW.alike hK, hD⟩, hS.F ht⟩) hS.2.2 d_Ji_numberOfTrailingZeros_16

set_option maxHeartbeats 8000000 in
set_option maxRecDepth 100000 in
theorem cm_Jl_numberOfTrailingZeros (l : Launch) (dC : Nat → ClassId) (dI : Nat → Nat → Nat)  (sz : Nat) (k0 : Int64) (r : Int32) (hf : f_Jl_numberOfTrailingZeros  k0 = some r) : Met l y_Jl_numberOfTrailingZeros w_Jl_numberOfTrailingZeros ({ frames := 1, cells := 0, slots := 0, locals := 21 }) (va_Pc [.long k0] (fun U => U.heap.size = sz ∧ va_P (dC, dI) vwCl [] U.heap ∧ va_K (dC, dI) vwCl [] U ∧ va_D (fun _ => True) [])) (va_Qi (fun (r9 : Int32) (_ : Unit) => r9 = r) (fun (_ : Unit) t => va_P (dC, dI) vwCl [] t.heap ∧ va_K (dC, dI) vwCl [] t ∧ va_D (va_A [] sz) []) (va_A [] sz)) 0 0 (va_A [] sz) := by
  refine Met.ofW (cc := prog_12_method_49_code) (maxL := 3) (ret := (some .int)) (by decide) rfl ?_
  intro p e s m args below meth c s₁ B hml hv
  obtain ⟨rfl, hsz, hP, hK, hD0⟩ := hv
  have hx := B.exec
  have hb := B.bytes
  have hr := B.returns
  have hts := atoms_spec (ws := w_Jl_numberOfTrailingZeros) B.pre
  have hown : s.vm.findClass "java/lang/Long" = some m.cls := findClass_of_methodNamed B.named
  have hlocks := B.notSynchronized
  subst hsz
  have hD := hD0.self (sz := s.heap.size)
  generalize hAe : va_A [] s.heap.size = B9 at hD ⊢
  have hA : ∀ q : Nat, s.heap.size ≤ q → B9 q := fun q h => by rw [← hAe]; exact Or.inr h
  clear hAe
  have hS : va_S B9 s.heap s.heap [] := va_S.rf
  have hl := lv_entry ([.long k0]) (n := 3) (Nat.le_of_ble_eq_true rfl)
  rw [lg_entry_eq]
  generalize (lg_sl ([.long k0]) ++ List.replicate (3 - (lg_sl ([.long k0])).length) Slot.unset).toArray = ls at hl ⊢
  have hl : lv_has ls 3 [(0, .long k0)] := hl
  have blk25 : ∀ (X : Nat → Int32) (Y : Nat → Int64) (s0 : Int32) (ls : Array Slot) (H : Heap) (locs : List Loc), f_Jl_numberOfTrailingZeros_25 X Y s0 = some r → lv_has ls 3 [(0, .long (Y 0)), (2, .int (X 2))] → va_P (dC, dI) vwCl [] H → va_D B9 [] → va_S B9 s.heap H locs → W p l e (headSpec w_Jl_numberOfTrailingZeros ({ frames := 1, cells := 0, slots := 0, locals := 21 })).room s m ([.long k0] : List Value).toArray below meth c H locs 0 0 (MQ below (va_Qi (fun (r9 : Int32) (_ : Unit) => r9 = r) (fun (_ : Unit) t => va_P (dC, dI) vwCl [] t.heap ∧ va_K (dC, dI) vwCl [] t ∧ va_D B9 []) B9) ([.long k0] : List Value).toArray s 0 0 B9) (F0 m 25 ls [.int s0]) := by
    intro X Y s0 ls H locs hf hl hP hD hS
    unfold f_Jl_numberOfTrailingZeros_25 at hf
    have e0 := Option.some.inj hf
    subst e0
    exact W.iret (v := s0) hx hb hr (fun t ht hW => ⟨⟨s0, (), rfl, rfl, by rw [ht]; exact hP, va_K.moved hW.alike hK, hD⟩, hS.F ht⟩) hS.2.2 d_Jl_numberOfTrailingZeros_25
  unfold f_Jl_numberOfTrailingZeros at hf
  refine lv_lload_n hx hb d_Jl_numberOfTrailingZeros_0 rfl (lv_at hl 0 rfl) ?_
  refine lv_l2i hx hb d_Jl_numberOfTrailingZeros_1 rfl ?_
  refine lv_istore_n (lv' := [(2, .int (k0).toInt32), (0, .long k0)]) hx hb d_Jl_numberOfTrailingZeros_2 rfl hl (by decide) rfl (fun ls hl => ?_)
  have hl : lv_has ls 3 [(2, .int (k0).toInt32), (0, .long k0)] := hl
  refine lv_iload_n hx hb d_Jl_numberOfTrailingZeros_3 rfl (lv_at hl 0 rfl) ?_
  refine lv_if_ne (tgt := 21) hx hb d_Jl_numberOfTrailingZeros_4 (by decide) (fun hc1 => ?_) (fun hc1 => ?_)
  ·
    have hf := wk_iff hc1 hf
    refine lv_iload_n hx hb d_Jl_numberOfTrailingZeros_21 rfl (lv_at hl 0 rfl) ?_
    have hPc := hP.sub (ws' := []) [] rfl
    have hDc := hD.sub (ws' := []) [] (by decide) rfl
    have hKc := hK.sub (tys' := []) [] rfl
    have hFc := va_free (wc := []) hD hS hA [] rfl
    cases hg1 : f_Ji_numberOfTrailingZeros (k0).toInt32 with
    | none => rw [hg1] at hf; cases hf
    | some z1 =>
      rw [hg1] at hf
      dsimp only [Option.bind_some] at hf
      refine va_calli (va_runS (As := [.int (k0).toInt32]) (rest := []) ⟨hx, hb, hml, hown, hts⟩ (cm_Ji_numberOfTrailingZeros l dC dI  _  (k0).toInt32 z1  hg1) (va_cwS 1 hts (gd_t lk_262 lk_263 lk_264 lk_261) rfl rfl rfl (by decide +kernel) ⟨Nat.le_of_ble_eq_true rfl, Nat.le_of_ble_eq_true rfl⟩) ⟨fun a U g mk q => by obtain ⟨q0, q1, qP, qK, qD⟩ := q; exact ⟨q0, q1, qP, va_K.moved (u := U) (U := U.calling g mk a) (Vm.Alike.refl U.vm) qK, qD⟩, fun U hU hW => ⟨rfl, by rw [hU], by rw [hU]; exact hPc, va_K.moved hW.alike hKc, hDc.weaken (fun _ _ _ _ => trivial)⟩⟩ rfl rfl hl.1 rfl (lv_room (Nat.le_of_ble_eq_true rfl)) d_Jl_numberOfTrailingZeros_22 ⟨Nat.le_of_ble_eq_true rfl, Nat.le_of_ble_eq_true rfl⟩) hS (fun q _ h => hFc q h) hFc (fun r9 u t H1 locs ht hvm hw hB hz1 hk1 hS => ?_)
      obtain ⟨hP1, hK1, hD1⟩ := hB
      rw [ht] at hP1
      rw [hw]
      obtain ⟨hP, hD⟩ := va_join (wr := (([] : List Nat).map (fun i => ([]).getD i (0, .inr (0, []))))) (w1 := []) hP hD [] [] rfl rfl (by decide) (by decide) hk1 hFc hP1 hD1
      generalize H1 = H at hP hS ⊢
      have hP := hP.sub (ws' := []) [] rfl
      have hD := hD.sub (ws' := []) [] (by decide) rfl
      exact blk25 (upd (fun _ => 0) 2 (k0).toInt32) (vp_updL (fun _ => 0) 0 k0) z1 _ _ _ hf (lv_sub hl [1, 0] rfl) hP hD hS
  ·
    have hf := wk_ift hc1 hf
    refine lv_bipush (v := 32) hx hb d_Jl_numberOfTrailingZeros_7 (by decide) ?_
    refine lv_lload_n hx hb d_Jl_numberOfTrailingZeros_9 rfl (lv_at hl 1 rfl) ?_
    refine lv_bipush (v := 32) hx hb d_Jl_numberOfTrailingZeros_10 (by decide) ?_
    refine lv_lushr hx hb d_Jl_numberOfTrailingZeros_12 rfl ?_
    refine lv_l2i hx hb d_Jl_numberOfTrailingZeros_13 rfl ?_
    have hPc := hP.sub (ws' := []) [] rfl
    have hDc := hD.sub (ws' := []) [] (by decide) rfl
    have hKc := hK.sub (tys' := []) [] rfl
    have hFc := va_free (wc := []) hD hS hA [] rfl
    cases hg1 : f_Ji_numberOfTrailingZeros (((k0).toUInt64 >>> (((32 : Int32)).toInt64.toUInt64 &&& Int64.toUInt64 63)).toInt64).toInt32 with
    | none => rw [hg1] at hf; cases hf
    | some z1 =>
      rw [hg1] at hf
      dsimp only [Option.bind_some] at hf
      refine va_calli (va_runS (As := [.int (((k0).toUInt64 >>> (((32 : Int32)).toInt64.toUInt64 &&& Int64.toUInt64 63)).toInt64).toInt32]) (rest := [.int 32]) ⟨hx, hb, hml, hown, hts⟩ (cm_Ji_numberOfTrailingZeros l dC dI  _  (((k0).toUInt64 >>> (((32 : Int32)).toInt64.toUInt64 &&& Int64.toUInt64 63)).toInt64).toInt32 z1  hg1) (va_cwS 1 hts (gd_t lk_262 lk_263 lk_264 lk_261) rfl rfl rfl (by decide +kernel) ⟨Nat.le_of_ble_eq_true rfl, Nat.le_of_ble_eq_true rfl⟩) ⟨fun a U g mk q => by obtain ⟨q0, q1, qP, qK, qD⟩ := q; exact ⟨q0, q1, qP, va_K.moved (u := U) (U := U.calling g mk a) (Vm.Alike.refl U.vm) qK, qD⟩, fun U hU hW => ⟨rfl, by rw [hU], by rw [hU]; exact hPc, va_K.moved hW.alike hKc, hDc.weaken (fun _ _ _ _ => trivial)⟩⟩ rfl rfl hl.1 rfl (lv_room (Nat.le_of_ble_eq_true rfl)) d_Jl_numberOfTrailingZeros_14 ⟨Nat.le_of_ble_eq_true rfl, Nat.le_of_ble_eq_true rfl⟩) hS (fun q _ h => hFc q h) hFc (fun r9 u t H1 locs ht hvm hw hB hz1 hk1 hS => ?_)
      obtain ⟨hP1, hK1, hD1⟩ := hB
      rw [ht] at hP1
      rw [hw]
      obtain ⟨hP, hD⟩ := va_join (wr := (([] : List Nat).map (fun i => ([]).getD i (0, .inr (0, []))))) (w1 := []) hP hD [] [] rfl rfl (by decide) (by decide) hk1 hFc hP1 hD1
      generalize H1 = H at hP hS ⊢
      have hP := hP.sub (ws' := []) [] rfl
      have hD := hD.sub (ws' := []) [] (by decide) rfl
      refine lv_iadd hx hb d_Jl_numberOfTrailingZeros_17 ?_
      refine lv_goto (tgt := 25) hx hb d_Jl_numberOfTrailingZeros_18 (by decide) ?_
      exact blk25 (upd (fun _ => 0) 2 (k0).toInt32) (vp_updL (fun _ => 0) 0 k0) (32 + z1) _ _ _ hf (lv_sub hl [1, 0] rfl) hP hD hS

set_option maxHeartbeats 8000000 in
set_option maxRecDepth 100000 in
theorem cm_A_asSet (l : Launch) (dC : Nat → ClassId) (dI : Nat → Nat → Nat)  (sz : Nat) (k0 : Int32) (r : Int64) (hf : f_A_asSet  k0 = some r) : Met l y_A_asSet w_A_asSet ({ frames := 0, cells := 0, slots := 0, locals := 0 }) (va_Pc [.int k0] (fun U => U.heap.size = sz ∧ va_P (dC, dI) vwCl [] U.heap ∧ va_K (dC, dI) vwCl [] U ∧ va_D (fun _ => True) [])) (va_Ql (fun (r9 : Int64) (_ : Unit) => r9 = r) (fun (_ : Unit) t => va_P (dC, dI) vwCl [] t.heap ∧ va_K (dC, dI) vwCl [] t ∧ va_D (va_A [] sz) []) (va_A [] sz)) 0 0 (va_A [] sz) := by
  refine Met.ofW (cc := prog_2_method_11_code) (maxL := 1) (ret := (some .long)) (by decide) rfl ?_
  intro p e s m args below meth c s₁ B hml hv
  obtain ⟨rfl, hsz, hP, hK, hD0⟩ := hv
  have hx := B.exec
  have hb := B.bytes
  have hr := B.returns
  have hts := atoms_spec (ws := w_A_asSet) B.pre
  have hown : s.vm.findClass "DraftTree$Automaton" = some m.cls := findClass_of_methodNamed B.named
  have hlocks := B.notSynchronized
  subst hsz
  have hD := hD0.self (sz := s.heap.size)
  generalize hAe : va_A [] s.heap.size = B9 at hD ⊢
  have hA : ∀ q : Nat, s.heap.size ≤ q → B9 q := fun q h => by rw [← hAe]; exact Or.inr h
  clear hAe
  have hS : va_S B9 s.heap s.heap [] := va_S.rf
  have hl := lv_entry ([.int k0]) (n := 1) (Nat.le_of_ble_eq_true rfl)
  rw [lg_entry_eq]
  generalize (lg_sl ([.int k0]) ++ List.replicate (1 - (lg_sl ([.int k0])).length) Slot.unset).toArray = ls at hl ⊢
  have hl : lv_has ls 1 [(0, .int k0)] := hl
  have blk12 : ∀ (X : Nat → Int32) (Y : Nat → Int64) (s0 : Int64) (ls : Array Slot) (H : Heap) (locs : List Loc), f_A_asSet_12 X Y s0 = some r → lv_has ls 1 [(0, .int (X 0))] → va_P (dC, dI) vwCl [] H → va_D B9 [] → va_S B9 s.heap H locs → W p l e (headSpec w_A_asSet ({ frames := 0, cells := 0, slots := 0, locals := 0 })).room s m ([.int k0] : List Value).toArray below meth c H locs 0 0 (MQ below (va_Ql (fun (r9 : Int64) (_ : Unit) => r9 = r) (fun (_ : Unit) t => va_P (dC, dI) vwCl [] t.heap ∧ va_K (dC, dI) vwCl [] t ∧ va_D B9 []) B9) ([.int k0] : List Value).toArray s 0 0 B9) (F0 m 12 ls [.long s0]) := by
    intro X Y s0 ls H locs hf hl hP hD hS
    unfold f_A_asSet_12 at hf
    have e0 := Option.some.inj hf
    subst e0
    exact W.lret (v := s0) hx hb hr (fun t ht hW => ⟨⟨s0, (), rfl, rfl, by rw [ht]; exact hP, va_K.moved hW.alike hK, hD⟩, hS.F ht⟩) hS.2.2 d_A_asSet_12
  unfold f_A_asSet at hf
  refine lv_iload_n hx hb d_A_asSet_0 rfl (lv_at hl 0 rfl) ?_
  refine lv_iconst (v := (-1)) hx hb d_A_asSet_1 (by decide) ?_
  refine lv_icmp_ne (tgt := 9) hx hb d_A_asSet_2 (by decide) (fun hc1 => ?_) (fun hc1 => ?_)
  ·
    have hf := wk_iff hc1 hf
    refine lv_lconst (v := 1) hx hb d_A_asSet_9 (by decide) ?_
    refine lv_iload_n hx hb d_A_asSet_10 rfl (lv_at hl 0 rfl) ?_
    refine lv_lshl hx hb d_A_asSet_11 rfl ?_
    exact blk12 (upd (fun _ => 0) 0 k0) (fun _ => 0) ((1 : Int64) <<< ((k0).toInt64 &&& 63)) _ _ _ hf (lv_sub hl [0] rfl) hP hD hS
  ·
    have hf := wk_ift hc1 hf
    refine lv_lconst (v := 0) hx hb d_A_asSet_5 (by decide) ?_
    refine lv_goto (tgt := 12) hx hb d_A_asSet_6 (by decide) ?_
    exact blk12 (upd (fun _ => 0) 0 k0) (fun _ => 0) 0 _ _ _ hf (lv_sub hl [0] rfl) hP hD hS

set_option maxHeartbeats 8000000 in
set_option maxRecDepth 100000 in
theorem cm_A_waysOut (l : Launch) (dC : Nat → ClassId) (dI : Nat → Nat → Nat) (h : Nat) (q : Nat → Nat) (g : Nat → ClassId) (sz : Nat) (I : MI) (A : MA) (L : ML) (k1 : Int32) (k2 : Int32) (k3 : Int32) (r : Int64) (I' : MI) (A' : MA) (L' : ML) (hf : f_A_waysOut I A L  k1 k2 k3 = some (r, I', A', L')) : Met l y_A_waysOut w_A_waysOut ({ frames := 1, cells := 0, slots := 0, locals := 20 }) (va_Pc [.ref h, .int k1, .int k2, .int k3] (fun U => U.heap.size = sz ∧ va_P (dC, dI) vwCl (aw_W h q g I A L) U.heap ∧ va_K (dC, dI) vwCl (aw_T h q g) U ∧ va_D (fun _ => True) (aw_W h q g I A L))) (va_Ql (fun (r9 : Int64) (_ : Unit) => r9 = r) (fun (_ : Unit) t => va_P (dC, dI) vwCl (aw_W h q g I' A' L') t.heap ∧ va_K (dC, dI) vwCl (aw_T h q g) t ∧ va_D (va_A (aw_W h q g I A L) sz) (aw_W h q g I' A' L')) (va_A (aw_W h q g I A L) sz)) 0 0 (va_A (aw_W h q g I A L) sz) := by
  refine Met.ofW (cc := prog_2_method_10_code) (maxL := 4) (ret := (some .long)) (by decide) rfl ?_
  intro p e s m args below meth c s₁ B hml hv
  obtain ⟨rfl, hsz, hP, hK, hD0⟩ := hv
  have hx := B.exec
  have hb := B.bytes
  have hr := B.returns
  have hts := atoms_spec (ws := w_A_waysOut) B.pre
  have hown : s.vm.findClass "DraftTree$Automaton" = some m.cls := findClass_of_methodNamed B.named
  have hlocks := B.notSynchronized
  subst hsz
  have hD := hD0.self (sz := s.heap.size)
  generalize hAe : va_A (aw_W h q g I A L) s.heap.size = B9 at hD ⊢
  have hA : ∀ q : Nat, s.heap.size ≤ q → B9 q := fun q h => by rw [← hAe]; exact Or.inr h
  clear hAe
  have hS : va_S B9 s.heap s.heap [] := va_S.rf
  have hl := lv_entry ([.ref h, .int k1, .int k2, .int k3]) (n := 4) (Nat.le_of_ble_eq_true rfl)
  rw [lg_entry_eq]
  generalize (lg_sl ([.ref h, .int k1, .int k2, .int k3]) ++ List.replicate (4 - (lg_sl ([.ref h, .int k1, .int k2, .int k3])).length) Slot.unset).toArray = ls at hl ⊢
  have hl : lv_has ls 4 [(0, .ref h), (1, .int k1), (2, .int k2), (3, .int k3)] := hl
  have blk73 : ∀ (I : MI) (A : MA) (L : ML) (X : Nat → Int32) (Y : Nat → Int64) (s0 : Int64) (ls : Array Slot) (H : Heap) (locs : List Loc), f_A_waysOut_73 I A L X Y s0 = some (r, I', A', L') → lv_has ls 4 [(0, .ref h), (1, .int (X 1)), (2, .int (X 2)), (3, .int (X 3))] → va_P (dC, dI) vwCl (aw_W h q g I A L) H → va_D B9 (aw_W h q g I A L) → va_S B9 s.heap H locs → W p l e (headSpec w_A_waysOut ({ frames := 1, cells := 0, slots := 0, locals := 20 })).room s m ([.ref h, .int k1, .int k2, .int k3] : List Value).toArray below meth c H locs 0 0 (MQ below (va_Ql (fun (r9 : Int64) (_ : Unit) => r9 = r) (fun (_ : Unit) t => va_P (dC, dI) vwCl (aw_W h q g I' A' L') t.heap ∧ va_K (dC, dI) vwCl (aw_T h q g) t ∧ va_D B9 (aw_W h q g I' A' L')) B9) ([.ref h, .int k1, .int k2, .int k3] : List Value).toArray s 0 0 B9) (F0 m 73 ls [.long s0]) := by
    intro I A L X Y s0 ls H locs hf hl hP hD hS
    unfold f_A_waysOut_73 at hf
    obtain ⟨e0, e1, e2, e3⟩ := wk_inj3 hf
    subst e0
    subst e1
    subst e2
    subst e3
    exact W.lret (v := s0) hx hb hr (fun t ht hW => ⟨⟨s0, (), rfl, rfl, by rw [ht]; exact hP, va_K.moved hW.alike hK, hD⟩, hS.F ht⟩) hS.2.2 d_A_waysOut_73
  have blk91 : ∀ (I : MI) (A : MA) (L : ML) (X : Nat → Int32) (Y : Nat → Int64) (s0 : Int64) (ls : Array Slot) (H : Heap) (locs : List Loc), f_A_waysOut_91 I A L X Y s0 = some (r, I', A', L') → lv_has ls 4 [(0, .ref h), (1, .int (X 1)), (2, .int (X 2)), (3, .int (X 3))] → va_P (dC, dI) vwCl (aw_W h q g I A L) H → va_D B9 (aw_W h q g I A L) → va_S B9 s.heap H locs → W p l e (headSpec w_A_waysOut ({ frames := 1, cells := 0, slots := 0, locals := 20 })).room s m ([.ref h, .int k1, .int k2, .int k3] : List Value).toArray below meth c H locs 0 0 (MQ below (va_Ql (fun (r9 : Int64) (_ : Unit) => r9 = r) (fun (_ : Unit) t => va_P (dC, dI) vwCl (aw_W h q g I' A' L') t.heap ∧ va_K (dC, dI) vwCl (aw_T h q g) t ∧ va_D B9 (aw_W h q g I' A' L')) B9) ([.ref h, .int k1, .int k2, .int k3] : List Value).toArray s 0 0 B9) (F0 m 91 ls [.long s0]) := by
    intro I A L X Y s0 ls H locs hf hl hP hD hS
    unfold f_A_waysOut_91 at hf
    obtain ⟨e0, e1, e2, e3⟩ := wk_inj3 hf
    subst e0
    subst e1
    subst e2
    subst e3
    exact W.lret (v := s0) hx hb hr (fun t ht hW => ⟨⟨s0, (), rfl, rfl, by rw [ht]; exact hP, va_K.moved hW.alike hK, hD⟩, hS.F ht⟩) hS.2.2 d_A_waysOut_91
  unfold f_A_waysOut at hf
  refine lv_aload_n hx hb d_A_waysOut_0 rfl (lv_at hl 0 rfl) ?_
  refine va_get (D := (dC, dI)) (ci := 3) (v := .ref (q 0)) (C := R_A) (T := F_A) (N := 10) hx hb hts (fun w h => List.mem_cons_of_mem _ (in_A w h)) hown hK hP 0 rfl rfl 0 (by decide) (hts _ (List.mem_cons_of_mem _ lk_269)) (fun _ h9 => h9) rfl d_A_waysOut_1 ?_
  refine lv_iload_n hx hb d_A_waysOut_4 rfl (lv_at hl 1 rfl) ?_
  obtain ⟨hc1, hf⟩ := wk_if hf
  refine va_iald hx hb hK hP 1 0 rfl rfl (wk_inb_ok hc1) d_A_waysOut_5 ?_
  by_cases hc2 : (A 0 (k1).toNatClampNeg) = 0
  ·
    have hf := wk_ift hc2 hf
    refine wk_top (w := .int 0) (congrArg _ hc2) ?_
    refine lv_tableIn (off := 30) (tgt := 36) hx hb d_A_waysOut_6 (by decide) (by decide) (by decide) (by decide) ?_
    refine lv_aload_n hx hb d_A_waysOut_36 rfl (lv_at hl 0 rfl) ?_
    refine va_get (D := (dC, dI)) (ci := 3) (v := .ref (q 1)) (C := R_A) (T := F_A) (N := 10) hx hb hts (fun w h => List.mem_cons_of_mem _ (in_A w h)) hown hK hP 0 rfl rfl 1 (by decide) (hts _ (List.mem_cons_of_mem _ lk_270)) (fun _ h9 => h9) rfl d_A_waysOut_37 ?_
    refine lv_iload_n hx hb d_A_waysOut_40 rfl (lv_at hl 1 rfl) ?_
    obtain ⟨hc3, hf⟩ := wk_if hf
    refine va_iald hx hb hK hP 2 1 rfl rfl (wk_inb_ok hc3) d_A_waysOut_41 ?_
    have hPc := hP.sub (ws' := []) [] rfl
    have hDc := hD.sub (ws' := []) [] (by decide) rfl
    have hKc := hK.sub (tys' := []) [] rfl
    have hFc := va_free (wc := []) hD hS hA [] rfl
    cases hg1 : f_A_asSet (A 1 (k1).toNatClampNeg) with
    | none => rw [hg1] at hf; cases hf
    | some z1 =>
      rw [hg1] at hf
      dsimp only [Option.bind_some] at hf
      refine va_calll (va_runS (As := [.int (A 1 (k1).toNatClampNeg)]) (rest := []) ⟨hx, hb, hml, hown, hts⟩ (cm_A_asSet l dC dI  _  (A 1 (k1).toNatClampNeg) z1  hg1) (va_cwS 1 hts (gd_t lk_272 lk_273 lk_274 lk_271) rfl rfl rfl (by decide +kernel) ⟨Nat.le_of_ble_eq_true rfl, Nat.le_of_ble_eq_true rfl⟩) ⟨fun a U g mk q => by obtain ⟨q0, q1, qP, qK, qD⟩ := q; exact ⟨q0, q1, qP, va_K.moved (u := U) (U := U.calling g mk a) (Vm.Alike.refl U.vm) qK, qD⟩, fun U hU hW => ⟨rfl, by rw [hU], by rw [hU]; exact hPc, va_K.moved hW.alike hKc, hDc.weaken (fun _ _ _ _ => trivial)⟩⟩ rfl rfl hl.1 rfl (lv_room (Nat.le_of_ble_eq_true rfl)) d_A_waysOut_42 ⟨Nat.le_of_ble_eq_true rfl, Nat.le_of_ble_eq_true rfl⟩) hS (fun q _ h => hFc q h) hFc (fun r9 u t H1 locs ht hvm hw hB hz1 hk1 hS => ?_)
      obtain ⟨hP1, hK1, hD1⟩ := hB
      rw [ht] at hP1
      rw [hw]
      obtain ⟨hP, hD⟩ := va_join (wr := (([0, 1, 2, 3, 4, 5] : List Nat).map (fun i => ((aw_W h q g I A L)).getD i (0, .inr (0, []))))) (w1 := []) hP hD [] [0, 1, 2, 3, 4, 5] rfl rfl (by decide) (by decide) hk1 hFc hP1 hD1
      generalize H1 = H at hP hS ⊢
      have hP := hP.sub (ws' := (aw_W h q g I A L)) [0, 1, 2, 3, 4, 5] rfl
      have hD := hD.sub (ws' := (aw_W h q g I A L)) [0, 1, 2, 3, 4, 5] (by decide) rfl
      refine lv_aload_n hx hb d_A_waysOut_45 rfl (lv_at hl 0 rfl) ?_
      refine va_get (D := (dC, dI)) (ci := 3) (v := .ref (q 2)) (C := R_A) (T := F_A) (N := 10) hx hb hts (fun w h => List.mem_cons_of_mem _ (in_A w h)) hown hK hP 0 rfl rfl 2 (by decide) (hts _ (List.mem_cons_of_mem _ lk_275)) (fun _ h9 => h9) rfl d_A_waysOut_46 ?_
      refine lv_iload_n hx hb d_A_waysOut_49 rfl (lv_at hl 1 rfl) ?_
      obtain ⟨hc4, hf⟩ := wk_if hf
      refine va_iald hx hb hK hP 3 2 rfl rfl (wk_inb_ok hc4) d_A_waysOut_50 ?_
      have hPc := hP.sub (ws' := []) [] rfl
      have hDc := hD.sub (ws' := []) [] (by decide) rfl
      have hKc := hK.sub (tys' := []) [] rfl
      have hFc := va_free (wc := []) hD hS hA [] rfl
      cases hg2 : f_A_asSet (A 2 (k1).toNatClampNeg) with
      | none => rw [hg2] at hf; cases hf
      | some z2 =>
        rw [hg2] at hf
        dsimp only [Option.bind_some] at hf
        refine va_calll (va_runS (As := [.int (A 2 (k1).toNatClampNeg)]) (rest := [.long z1]) ⟨hx, hb, hml, hown, hts⟩ (cm_A_asSet l dC dI  _  (A 2 (k1).toNatClampNeg) z2  hg2) (va_cwS 1 hts (gd_t lk_272 lk_273 lk_274 lk_271) rfl rfl rfl (by decide +kernel) ⟨Nat.le_of_ble_eq_true rfl, Nat.le_of_ble_eq_true rfl⟩) ⟨fun a U g mk q => by obtain ⟨q0, q1, qP, qK, qD⟩ := q; exact ⟨q0, q1, qP, va_K.moved (u := U) (U := U.calling g mk a) (Vm.Alike.refl U.vm) qK, qD⟩, fun U hU hW => ⟨rfl, by rw [hU], by rw [hU]; exact hPc, va_K.moved hW.alike hKc, hDc.weaken (fun _ _ _ _ => trivial)⟩⟩ rfl rfl hl.1 rfl (lv_room (Nat.le_of_ble_eq_true rfl)) d_A_waysOut_51 ⟨Nat.le_of_ble_eq_true rfl, Nat.le_of_ble_eq_true rfl⟩) hS (fun q _ h => hFc q h) hFc (fun r9 u t H1 locs ht hvm hw hB hz1 hk1 hS => ?_)
        obtain ⟨hP1, hK1, hD1⟩ := hB
        rw [ht] at hP1
        rw [hw]
        obtain ⟨hP, hD⟩ := va_join (wr := (([0, 1, 2, 3, 4, 5] : List Nat).map (fun i => ((aw_W h q g I A L)).getD i (0, .inr (0, []))))) (w1 := []) hP hD [] [0, 1, 2, 3, 4, 5] rfl rfl (by decide) (by decide) hk1 hFc hP1 hD1
        generalize H1 = H at hP hS ⊢
        have hP := hP.sub (ws' := (aw_W h q g I A L)) [0, 1, 2, 3, 4, 5] rfl
        have hD := hD.sub (ws' := (aw_W h q g I A L)) [0, 1, 2, 3, 4, 5] (by decide) rfl
        refine lv_lor hx hb d_A_waysOut_54 ?_
        obtain ⟨e0, e1, e2, e3⟩ := wk_inj3 hf
        subst e0
        subst e1
        subst e2
        subst e3
        exact W.lret (v := (z1 ||| z2)) hx hb hr (fun t ht hW => ⟨⟨(z1 ||| z2), (), rfl, rfl, by rw [ht]; exact hP, va_K.moved hW.alike hK, hD⟩, hS.F ht⟩) hS.2.2 d_A_waysOut_55
  ·
    have hf := wk_iff hc2 hf
    by_cases hc3 : (A 0 (k1).toNatClampNeg) = 1
    ·
      have hf := wk_ift hc3 hf
      refine wk_top (w := .int 1) (congrArg _ hc3) ?_
      refine lv_tableIn (off := 86) (tgt := 92) hx hb d_A_waysOut_6 (by decide) (by decide) (by decide) (by decide) ?_
      refine lv_lconst (v := 0) hx hb d_A_waysOut_92 (by decide) ?_
      obtain ⟨e0, e1, e2, e3⟩ := wk_inj3 hf
      subst e0
      subst e1
      subst e2
      subst e3
      exact W.lret (v := 0) hx hb hr (fun t ht hW => ⟨⟨0, (), rfl, rfl, by rw [ht]; exact hP, va_K.moved hW.alike hK, hD⟩, hS.F ht⟩) hS.2.2 d_A_waysOut_93
    ·
      have hf := wk_iff hc3 hf
      by_cases hc4 : (A 0 (k1).toNatClampNeg) = 2
      ·
        have hf := wk_ift hc4 hf
        refine wk_top (w := .int 2) (congrArg _ hc4) ?_
        refine lv_tableIn (off := 50) (tgt := 56) hx hb d_A_waysOut_6 (by decide) (by decide) (by decide) (by decide) ?_
        refine lv_iload_n hx hb d_A_waysOut_56 rfl (lv_at hl 2 rfl) ?_
        refine lv_if_eq (tgt := 72) hx hb d_A_waysOut_57 (by decide) (fun hc5 => ?_) (fun hc5 => ?_)
        ·
          have hf := wk_ift hc5 hf
          refine lv_lconst (v := 0) hx hb d_A_waysOut_72 (by decide) ?_
          exact blk73 I A L (upd (upd (upd (fun _ => 0) 1 k1) 2 k2) 3 k3) (fun _ => 0) 0 _ _ _ hf (lv_sub hl [0, 1, 2, 3] rfl) hP hD hS
        ·
          have hf := wk_iff hc5 hf
          refine lv_aload_n hx hb d_A_waysOut_60 rfl (lv_at hl 0 rfl) ?_
          refine va_get (D := (dC, dI)) (ci := 3) (v := .ref (q 1)) (C := R_A) (T := F_A) (N := 10) hx hb hts (fun w h => List.mem_cons_of_mem _ (in_A w h)) hown hK hP 0 rfl rfl 1 (by decide) (hts _ (List.mem_cons_of_mem _ lk_270)) (fun _ h9 => h9) rfl d_A_waysOut_61 ?_
          refine lv_iload_n hx hb d_A_waysOut_64 rfl (lv_at hl 1 rfl) ?_
          obtain ⟨hc6, hf⟩ := wk_if hf
          refine va_iald hx hb hK hP 2 1 rfl rfl (wk_inb_ok hc6) d_A_waysOut_65 ?_
          have hPc := hP.sub (ws' := []) [] rfl
          have hDc := hD.sub (ws' := []) [] (by decide) rfl
          have hKc := hK.sub (tys' := []) [] rfl
          have hFc := va_free (wc := []) hD hS hA [] rfl
          cases hg1 : f_A_asSet (A 1 (k1).toNatClampNeg) with
          | none => rw [hg1] at hf; cases hf
          | some z1 =>
            rw [hg1] at hf
            dsimp only [Option.bind_some] at hf
            refine va_calll (va_runS (As := [.int (A 1 (k1).toNatClampNeg)]) (rest := []) ⟨hx, hb, hml, hown, hts⟩ (cm_A_asSet l dC dI  _  (A 1 (k1).toNatClampNeg) z1  hg1) (va_cwS 1 hts (gd_t lk_272 lk_273 lk_274 lk_271) rfl rfl rfl (by decide +kernel) ⟨Nat.le_of_ble_eq_true rfl, Nat.le_of_ble_eq_true rfl⟩) ⟨fun a U g mk q => by obtain ⟨q0, q1, qP, qK, qD⟩ := q; exact ⟨q0, q1, qP, va_K.moved (u := U) (U := U.calling g mk a) (Vm.Alike.refl U.vm) qK, qD⟩, fun U hU hW => ⟨rfl, by rw [hU], by rw [hU]; exact hPc, va_K.moved hW.alike hKc, hDc.weaken (fun _ _ _ _ => trivial)⟩⟩ rfl rfl hl.1 rfl (lv_room (Nat.le_of_ble_eq_true rfl)) d_A_waysOut_66 ⟨Nat.le_of_ble_eq_true rfl, Nat.le_of_ble_eq_true rfl⟩) hS (fun q _ h => hFc q h) hFc (fun r9 u t H1 locs ht hvm hw hB hz1 hk1 hS => ?_)
            obtain ⟨hP1, hK1, hD1⟩ := hB
            rw [ht] at hP1
            rw [hw]
            obtain ⟨hP, hD⟩ := va_join (wr := (([0, 1, 2, 3, 4, 5] : List Nat).map (fun i => ((aw_W h q g I A L)).getD i (0, .inr (0, []))))) (w1 := []) hP hD [] [0, 1, 2, 3, 4, 5] rfl rfl (by decide) (by decide) hk1 hFc hP1 hD1
            generalize H1 = H at hP hS ⊢
            have hP := hP.sub (ws' := (aw_W h q g I A L)) [0, 1, 2, 3, 4, 5] rfl
            have hD := hD.sub (ws' := (aw_W h q g I A L)) [0, 1, 2, 3, 4, 5] (by decide) rfl
            refine lv_goto (tgt := 73) hx hb d_A_waysOut_69 (by decide) ?_
            exact blk73 I A L (upd (upd (upd (fun _ => 0) 1 k1) 2 k2) 3 k3) (fun _ => 0) z1 _ _ _ hf (lv_sub hl [0, 1, 2, 3] rfl) hP hD hS
      ·
        have hf := wk_iff hc4 hf
        by_cases hc5 : (A 0 (k1).toNatClampNeg) = 3
        ·
          have hf := wk_ift hc5 hf
          refine wk_top (w := .int 3) (congrArg _ hc5) ?_
          refine lv_tableIn (off := 68) (tgt := 74) hx hb d_A_waysOut_6 (by decide) (by decide) (by decide) (by decide) ?_
          refine lv_iload_n hx hb d_A_waysOut_74 rfl (lv_at hl 3 rfl) ?_
          refine lv_if_eq (tgt := 90) hx hb d_A_waysOut_75 (by decide) (fun hc6 => ?_) (fun hc6 => ?_)
          ·
            have hf := wk_ift hc6 hf
            refine lv_lconst (v := 0) hx hb d_A_waysOut_90 (by decide) ?_
            exact blk91 I A L (upd (upd (upd (fun _ => 0) 1 k1) 2 k2) 3 k3) (fun _ => 0) 0 _ _ _ hf (lv_sub hl [0, 1, 2, 3] rfl) hP hD hS
          ·
            have hf := wk_iff hc6 hf
            refine lv_aload_n hx hb d_A_waysOut_78 rfl (lv_at hl 0 rfl) ?_
            refine va_get (D := (dC, dI)) (ci := 3) (v := .ref (q 1)) (C := R_A) (T := F_A) (N := 10) hx hb hts (fun w h => List.mem_cons_of_mem _ (in_A w h)) hown hK hP 0 rfl rfl 1 (by decide) (hts _ (List.mem_cons_of_mem _ lk_270)) (fun _ h9 => h9) rfl d_A_waysOut_79 ?_
            refine lv_iload_n hx hb d_A_waysOut_82 rfl (lv_at hl 1 rfl) ?_
            obtain ⟨hc7, hf⟩ := wk_if hf
            refine va_iald hx hb hK hP 2 1 rfl rfl (wk_inb_ok hc7) d_A_waysOut_83 ?_
            have hPc := hP.sub (ws' := []) [] rfl
            have hDc := hD.sub (ws' := []) [] (by decide) rfl
            have hKc := hK.sub (tys' := []) [] rfl
            have hFc := va_free (wc := []) hD hS hA [] rfl
            cases hg1 : f_A_asSet (A 1 (k1).toNatClampNeg) with
            | none => rw [hg1] at hf; cases hf
            | some z1 =>
              rw [hg1] at hf
              dsimp only [Option.bind_some] at hf
              refine va_calll (va_runS (As := [.int (A 1 (k1).toNatClampNeg)]) (rest := []) ⟨hx, hb, hml, hown, hts⟩ (cm_A_asSet l dC dI  _  (A 1 (k1).toNatClampNeg) z1  hg1) (va_cwS 1 hts (gd_t lk_272 lk_273 lk_274 lk_271) rfl rfl rfl (by decide +kernel) ⟨Nat.le_of_ble_eq_true rfl, Nat.le_of_ble_eq_true rfl⟩) ⟨fun a U g mk q => by obtain ⟨q0, q1, qP, qK, qD⟩ := q; exact ⟨q0, q1, qP, va_K.moved (u := U) (U := U.calling g mk a) (Vm.Alike.refl U.vm) qK, qD⟩, fun U hU hW => ⟨rfl, by rw [hU], by rw [hU]; exact hPc, va_K.moved hW.alike hKc, hDc.weaken (fun _ _ _ _ => trivial)⟩⟩ rfl rfl hl.1 rfl (lv_room (Nat.le_of_ble_eq_true rfl)) d_A_waysOut_84 ⟨Nat.le_of_ble_eq_true rfl, Nat.le_of_ble_eq_true rfl⟩) hS (fun q _ h => hFc q h) hFc (fun r9 u t H1 locs ht hvm hw hB hz1 hk1 hS => ?_)
              obtain ⟨hP1, hK1, hD1⟩ := hB
              rw [ht] at hP1
              rw [hw]
              obtain ⟨hP, hD⟩ := va_join (wr := (([0, 1, 2, 3, 4, 5] : List Nat).map (fun i => ((aw_W h q g I A L)).getD i (0, .inr (0, []))))) (w1 := []) hP hD [] [0, 1, 2, 3, 4, 5] rfl rfl (by decide) (by decide) hk1 hFc hP1 hD1
              generalize H1 = H at hP hS ⊢
              have hP := hP.sub (ws' := (aw_W h q g I A L)) [0, 1, 2, 3, 4, 5] rfl
              have hD := hD.sub (ws' := (aw_W h q g I A L)) [0, 1, 2, 3, 4, 5] (by decide) rfl
              refine lv_goto (tgt := 91) hx hb d_A_waysOut_87 (by decide) ?_
              exact blk91 I A L (upd (upd (upd (fun _ => 0) 1 k1) 2 k2) 3 k3) (fun _ => 0) z1 _ _ _ hf (lv_sub hl [0, 1, 2, 3] rfl) hP hD hS
        ·
          have hf := wk_iff hc5 hf
          have nhc2 : ¬ ((A 0 (k1).toNatClampNeg)).toInt = 0 := fun z => hc2 ((wk_eq 0 (by decide)).mpr z)
          have nhc3 : ¬ ((A 0 (k1).toNatClampNeg)).toInt = 1 := fun z => hc3 ((wk_eq 1 (by decide)).mpr z)
          have nhc4 : ¬ ((A 0 (k1).toNatClampNeg)).toInt = 2 := fun z => hc4 ((wk_eq 2 (by decide)).mpr z)
          have nhc5 : ¬ ((A 0 (k1).toNatClampNeg)).toInt = 3 := fun z => hc5 ((wk_eq 3 (by decide)).mpr z)
          refine lv_tableOut (tgt := 92) hx hb d_A_waysOut_6 (by omega) (by decide) ?_
          refine lv_lconst (v := 0) hx hb d_A_waysOut_92 (by decide) ?_
          obtain ⟨e0, e1, e2, e3⟩ := wk_inj3 hf
          subst e0
          subst e1
          subst e2
          subst e3
          exact W.lret (v := 0) hx hb hr (fun t ht hW => ⟨⟨0, (), rfl, rfl, by rw [ht]; exact hP, va_K.moved hW.alike hK, hD⟩, hS.F ht⟩) hS.2.2 d_A_waysOut_93

-- 18.ccon01
set_option maxHeartbeats 8000000 in
set_option maxRecDepth 100000 in
theorem cm_A_spread (l : Launch) (dC : Nat → ClassId) (dI : Nat → Nat → Nat) (h : Nat) (q : Nat → Nat) (g : Nat → ClassId) (tq : Nat) (tg : ClassId) (tn : Nat) (tx : Nat → Int32) (sz : Nat) (I : MI) (A : MA) (L : ML) (k1 : Int64) (k4 : Int32) (r : Int64) (I' : MI) (A' : MA) (L' : ML) (hf : f_A_spread tn tx I A L  k1 k4 = some (r, I', A', L')) : Met l y_A_spread w_A_spread ({ frames := 2, cells := 0, slots := 0, locals := 43 }) (va_Pc [.ref h, .long k1, .ref tq, .int k4] (fun U => U.heap.size = sz ∧ va_P (dC, dI) vwCl (at_W h q g tq tg tn tx I A L) U.heap ∧ va_K (dC, dI) vwCl (at_T h q g tq tg tn tx) U ∧ va_D (fun _ => True) (at_W h q g tq tg tn tx I A L))) (va_Ql (fun (r9 : Int64) (_ : Unit) => r9 = r) (fun (_ : Unit) t => va_P (dC, dI) vwCl (at_W h q g tq tg tn tx I' A' L') t.heap ∧ va_K (dC, dI) vwCl (at_T h q g tq tg tn tx) t ∧ va_D (va_A (at_W h q g tq tg tn tx I A L) sz) (at_W h q g tq tg tn tx I' A' L')) (va_A (at_W h q g tq tg tn tx I A L) sz)) 0 0 (va_A (at_W h q g tq tg tn tx I A L) sz) := by
  refine Met.ofW (cc := prog_2_method_9_code) (maxL := 15) (ret := (some .long)) (by decide) rfl ?_
  intro p e s m args below meth c s₁ B hml hv
  obtain ⟨rfl, hsz, hP, hK, hD0⟩ := hv
  have hx := B.exec
  have hb := B.bytes
  have hr := B.returns
  have hts := atoms_spec (ws := w_A_spread) B.pre
  have hown : s.vm.findClass "DraftTree$Automaton" = some m.cls := findClass_of_methodNamed B.named
  have hlocks := B.notSynchronized
  subst hsz
  have hD := hD0.self (sz := s.heap.size)
  generalize hAe : va_A (at_W h q g tq tg tn tx I A L) s.heap.size = B9 at hD ⊢
  have hA : ∀ q : Nat, s.heap.size ≤ q → B9 q := fun q h => by rw [← hAe]; exact Or.inr h
  clear hAe
  have hS : va_S B9 s.heap s.heap [] := va_S.rf
  have hl := lv_entry ([.ref h, .long k1, .ref tq, .int k4]) (n := 15) (Nat.le_of_ble_eq_true rfl)
  rw [lg_entry_eq]
  generalize (lg_sl ([.ref h, .long k1, .ref tq, .int k4]) ++ List.replicate (15 - (lg_sl ([.ref h, .long k1, .ref tq, .int k4])).length) Slot.unset).toArray = ls at hl ⊢
  have hl : lv_has ls 15 [(0, .ref h), (1, .long k1), (3, .ref tq), (4, .int k4)] := hl
  have blk44 : ∀ (rc : Nat → MI → MA → ML → (Nat → Int32) → (Nat → Int64) → Option (Int64 × MI × MA × ML)) (hrc55 : ∀ (I : MI) (A : MA) (L : ML) (X : Nat → Int32) (Y : Nat → Int64) (ls : Array Slot) (H : Heap) (locs : List Loc), rc 55 I A L X Y = some (r, I', A', L') → lv_has ls 15 [(0, .ref h), (1, .long (Y 1)), (3, .ref tq), (4, .int (X 4)), (5, .int (X 5)), (6, .int (X 6)), (7, .long (Y 7)), (9, .long (Y 9)), (11, .int (X 11))] → va_P (dC, dI) vwCl (at_W h q g tq tg tn tx I A L) H → va_D B9 (at_W h q g tq tg tn tx I A L) → va_S B9 s.heap H locs → W p l e (headSpec w_A_spread ({ frames := 2, cells := 0, slots := 0, locals := 43 })).room s m ([.ref h, .long k1, .ref tq, .int k4] : List Value).toArray below meth c H locs 0 0 (MQ below (va_Ql (fun (r9 : Int64) (_ : Unit) => r9 = r) (fun (_ : Unit) t => va_P (dC, dI) vwCl (at_W h q g tq tg tn tx I' A' L') t.heap ∧ va_K (dC, dI) vwCl (at_T h q g tq tg tn tx) t ∧ va_D B9 (at_W h q g tq tg tn tx I' A' L')) B9) ([.ref h, .long k1, .ref tq, .int k4] : List Value).toArray s 0 0 B9) (F0 m 55 ls [])), ∀ (I : MI) (A : MA) (L : ML) (X : Nat → Int32) (Y : Nat → Int64) (s0 : Int32) (ls : Array Slot) (H : Heap) (locs : List Loc), f_A_spread_44 tn tx rc I A L X Y s0 = some (r, I', A', L') → lv_has ls 15 [(0, .ref h), (1, .long (Y 1)), (3, .ref tq), (4, .int (X 4)), (5, .int (X 5))] → va_P (dC, dI) vwCl (at_W h q g tq tg tn tx I A L) H → va_D B9 (at_W h q g tq tg tn tx I A L) → va_S B9 s.heap H locs → W p l e (headSpec w_A_spread ({ frames := 2, cells := 0, slots := 0, locals := 43 })).room s m ([.ref h, .long k1, .ref tq, .int k4] : List Value).toArray below meth c H locs 0 0 (MQ below (va_Ql (fun (r9 : Int64) (_ : Unit) => r9 = r) (fun (_ : Unit) t => va_P (dC, dI) vwCl (at_W h q g tq tg tn tx I' A' L') t.heap ∧ va_K (dC, dI) vwCl (at_T h q g tq tg tn tx) t ∧ va_D B9 (at_W h q g tq tg tn tx I' A' L')) B9) ([.ref h, .long k1, .ref tq, .int k4] : List Value).toArray s 0 0 B9) (F0 m 44 ls [.int s0]) := by
    intro rc hrc55 I A L X Y s0 ls H locs hf hl hP hD hS
    unfold f_A_spread_44 at hf
    refine lv_istore (lv' := [(6, .int s0), (0, .ref h), (1, .long (Y 1)), (3, .ref tq), (4, .int (X 4)), (5, .int (X 5))]) hx hb d_A_spread_44 hl (by decide) rfl (fun ls hl => ?_)
    have hl : lv_has ls 15 [(6, .int s0), (0, .ref h), (1, .long (Y 1)), (3, .ref tq), (4, .int (X 4)), (5, .int (X 5))] := hl
    refine lv_lload_n hx hb d_A_spread_46 rfl (lv_at hl 2 rfl) ?_
    refine lv_lstore (lv' := [(7, .long (Y 1)), (6, .int s0), (0, .ref h), (1, .long (Y 1)), (3, .ref tq), (4, .int (X 4)), (5, .int (X 5))]) hx hb d_A_spread_47 hl (by decide) rfl (fun ls hl => ?_)
    have hl : lv_has ls 15 [(7, .long (Y 1)), (6, .int s0), (0, .ref h), (1, .long (Y 1)), (3, .ref tq), (4, .int (X 4)), (5, .int (X 5))] := hl
    refine lv_lload_n hx hb d_A_spread_49 rfl (lv_at hl 3 rfl) ?_
    refine lv_lstore (lv' := [(9, .long (Y 1)), (7, .long (Y 1)), (6, .int s0), (0, .ref h), (1, .long (Y 1)), (3, .ref tq), (4, .int (X 4)), (5, .int (X 5))]) hx hb d_A_spread_50 hl (by decide) rfl (fun ls hl => ?_)
    have hl : lv_has ls 15 [(9, .long (Y 1)), (7, .long (Y 1)), (6, .int s0), (0, .ref h), (1, .long (Y 1)), (3, .ref tq), (4, .int (X 4)), (5, .int (X 5))] := hl
    refine lv_iconst (v := 0) hx hb d_A_spread_52 (by decide) ?_
    refine lv_istore (lv' := [(11, .int 0), (9, .long (Y 1)), (7, .long (Y 1)), (6, .int s0), (0, .ref h), (1, .long (Y 1)), (3, .ref tq), (4, .int (X 4)), (5, .int (X 5))]) hx hb d_A_spread_53 hl (by decide) rfl (fun ls hl => ?_)
    have hl : lv_has ls 15 [(11, .int 0), (9, .long (Y 1)), (7, .long (Y 1)), (6, .int s0), (0, .ref h), (1, .long (Y 1)), (3, .ref tq), (4, .int (X 4)), (5, .int (X 5))] := hl
    exact hrc55 I A L (upd (upd X 6 s0) 11 0) (vp_updL (vp_updL Y 7 (Y 1)) 9 (Y 1)) _ _ _ hf (lv_sub hl [4, 5, 6, 7, 8, 3, 2, 1, 0] rfl) hP hD hS
  have blk39 : ∀ (rc : Nat → MI → MA → ML → (Nat → Int32) → (Nat → Int64) → Option (Int64 × MI × MA × ML)) (hrc55 : ∀ (I : MI) (A : MA) (L : ML) (X : Nat → Int32) (Y : Nat → Int64) (ls : Array Slot) (H : Heap) (locs : List Loc), rc 55 I A L X Y = some (r, I', A', L') → lv_has ls 15 [(0, .ref h), (1, .long (Y 1)), (3, .ref tq), (4, .int (X 4)), (5, .int (X 5)), (6, .int (X 6)), (7, .long (Y 7)), (9, .long (Y 9)), (11, .int (X 11))] → va_P (dC, dI) vwCl (at_W h q g tq tg tn tx I A L) H → va_D B9 (at_W h q g tq tg tn tx I A L) → va_S B9 s.heap H locs → W p l e (headSpec w_A_spread ({ frames := 2, cells := 0, slots := 0, locals := 43 })).room s m ([.ref h, .long k1, .ref tq, .int k4] : List Value).toArray below meth c H locs 0 0 (MQ below (va_Ql (fun (r9 : Int64) (_ : Unit) => r9 = r) (fun (_ : Unit) t => va_P (dC, dI) vwCl (at_W h q g tq tg tn tx I' A' L') t.heap ∧ va_K (dC, dI) vwCl (at_T h q g tq tg tn tx) t ∧ va_D B9 (at_W h q g tq tg tn tx I' A' L')) B9) ([.ref h, .long k1, .ref tq, .int k4] : List Value).toArray s 0 0 B9) (F0 m 55 ls [])), ∀ (I : MI) (A : MA) (L : ML) (X : Nat → Int32) (Y : Nat → Int64) (ls : Array Slot) (H : Heap) (locs : List Loc), f_A_spread_39 tn tx rc I A L X Y = some (r, I', A', L') → lv_has ls 15 [(0, .ref h), (1, .long (Y 1)), (3, .ref tq), (4, .int (X 4)), (5, .int (X 5))] → va_P (dC, dI) vwCl (at_W h q g tq tg tn tx I A L) H → va_D B9 (at_W h q g tq tg tn tx I A L) → va_S B9 s.heap H locs → W p l e (headSpec w_A_spread ({ frames := 2, cells := 0, slots := 0, locals := 43 })).room s m ([.ref h, .long k1, .ref tq, .int k4] : List Value).toArray below meth c H locs 0 0 (MQ below (va_Ql (fun (r9 : Int64) (_ : Unit) => r9 = r) (fun (_ : Unit) t => va_P (dC, dI) vwCl (at_W h q g tq tg tn tx I' A' L') t.heap ∧ va_K (dC, dI) vwCl (at_T h q g tq tg tn tx) t ∧ va_D B9 (at_W h q g tq tg tn tx I' A' L')) B9) ([.ref h, .long k1, .ref tq, .int k4] : List Value).toArray s 0 0 B9) (F0 m 39 ls []) := by
    intro rc hrc55 I A L X Y ls H locs hf hl hP hD hS
    unfold f_A_spread_39 at hf
    refine lv_iconst (v := 1) hx hb d_A_spread_39 (by decide) ?_
    refine lv_goto (tgt := 44) hx hb d_A_spread_40 (by decide) ?_
    exact blk44 rc hrc55 I A L X Y 1 _ _ _ hf (lv_sub hl [0, 1, 2, 3, 4] rfl) hP hD hS
  have blk21 : ∀ (rc : Nat → MI → MA → ML → (Nat → Int32) → (Nat → Int64) → Option (Int64 × MI × MA × ML)) (hrc55 : ∀ (I : MI) (A : MA) (L : ML) (X : Nat → Int32) (Y : Nat → Int64) (ls : Array Slot) (H : Heap) (locs : List Loc), rc 55 I A L X Y = some (r, I', A', L') → lv_has ls 15 [(0, .ref h), (1, .long (Y 1)), (3, .ref tq), (4, .int (X 4)), (5, .int (X 5)), (6, .int (X 6)), (7, .long (Y 7)), (9, .long (Y 9)), (11, .int (X 11))] → va_P (dC, dI) vwCl (at_W h q g tq tg tn tx I A L) H → va_D B9 (at_W h q g tq tg tn tx I A L) → va_S B9 s.heap H locs → W p l e (headSpec w_A_spread ({ frames := 2, cells := 0, slots := 0, locals := 43 })).room s m ([.ref h, .long k1, .ref tq, .int k4] : List Value).toArray below meth c H locs 0 0 (MQ below (va_Ql (fun (r9 : Int64) (_ : Unit) => r9 = r) (fun (_ : Unit) t => va_P (dC, dI) vwCl (at_W h q g tq tg tn tx I' A' L') t.heap ∧ va_K (dC, dI) vwCl (at_T h q g tq tg tn tx) t ∧ va_D B9 (at_W h q g tq tg tn tx I' A' L')) B9) ([.ref h, .long k1, .ref tq, .int k4] : List Value).toArray s 0 0 B9) (F0 m 55 ls [])), ∀ (I : MI) (A : MA) (L : ML) (X : Nat → Int32) (Y : Nat → Int64) (s0 : Int32) (ls : Array Slot) (H : Heap) (locs : List Loc), f_A_spread_21 tn tx rc I A L X Y s0 = some (r, I', A', L') → lv_has ls 15 [(0, .ref h), (1, .long (Y 1)), (3, .ref tq), (4, .int (X 4))] → va_P (dC, dI) vwCl (at_W h q g tq tg tn tx I A L) H → va_D B9 (at_W h q g tq tg tn tx I A L) → va_S B9 s.heap H locs → W p l e (headSpec w_A_spread ({ frames := 2, cells := 0, slots := 0, locals := 43 })).room s m ([.ref h, .long k1, .ref tq, .int k4] : List Value).toArray below meth c H locs 0 0 (MQ below (va_Ql (fun (r9 : Int64) (_ : Unit) => r9 = r) (fun (_ : Unit) t => va_P (dC, dI) vwCl (at_W h q g tq tg tn tx I' A' L') t.heap ∧ va_K (dC, dI) vwCl (at_T h q g tq tg tn tx) t ∧ va_D B9 (at_W h q g tq tg tn tx I' A' L')) B9) ([.ref h, .long k1, .ref tq, .int k4] : List Value).toArray s 0 0 B9) (F0 m 21 ls [.int s0]) := by
    intro rc hrc55 I A L X Y s0 ls H locs hf hl hP hD hS
    unfold f_A_spread_21 at hf
    refine lv_istore (lv' := [(5, .int s0), (0, .ref h), (1, .long (Y 1)), (3, .ref tq), (4, .int (X 4))]) hx hb d_A_spread_21 hl (by decide) rfl (fun ls hl => ?_)
    have hl : lv_has ls 15 [(5, .int s0), (0, .ref h), (1, .long (Y 1)), (3, .ref tq), (4, .int (X 4))] := hl
    refine lv_iload hx hb d_A_spread_23 (lv_at hl 4 rfl) ?_
    refine lv_aload_n hx hb d_A_spread_25 rfl (lv_at hl 3 rfl) ?_
    refine va_alen (v := (Int32.ofNat tn)) hx hb hK hP 6 5 rfl rfl rfl d_A_spread_26 ?_
    refine lv_icmp_eq (tgt := 39) hx hb d_A_spread_27 (by decide) (fun hc1 => ?_) (fun hc1 => ?_)
    ·
      have hf := wk_ift hc1 hf
      exact blk39 rc hrc55 I A L (upd X 5 s0) Y _ _ _ hf (lv_sub hl [1, 2, 3, 4, 0] rfl) hP hD hS
    ·
      have hf := wk_iff hc1 hf
      refine lv_aload_n hx hb d_A_spread_30 rfl (lv_at hl 3 rfl) ?_
      refine lv_iload hx hb d_A_spread_31 (lv_at hl 4 rfl) ?_
      obtain ⟨hc2, hf⟩ := wk_if hf
      refine va_cald hx hb hK hP 6 5 rfl rfl (wk_inb_ok hc2) d_A_spread_33 ?_
      refine lv_bipush (v := 10) hx hb d_A_spread_34 (by decide) ?_
      refine lv_icmp_ne (tgt := 43) hx hb d_A_spread_36 (by decide) (fun hc3 => ?_) (fun hc3 => ?_)
      ·
        have hf := wk_iff hc3 hf
        refine lv_iconst (v := 0) hx hb d_A_spread_43 (by decide) ?_
        exact blk44 rc hrc55 I A L (upd X 5 s0) Y 0 _ _ _ hf (lv_sub hl [1, 2, 3, 4, 0] rfl) hP hD hS
      ·
        have hf := wk_ift hc3 hf
        exact blk39 rc hrc55 I A L (upd X 5 s0) Y _ _ _ hf (lv_sub hl [1, 2, 3, 4, 0] rfl) hP hD hS
  have blk16 : ∀ (rc : Nat → MI → MA → ML → (Nat → Int32) → (Nat → Int64) → Option (Int64 × MI × MA × ML)) (hrc55 : ∀ (I : MI) (A : MA) (L : ML) (X : Nat → Int32) (Y : Nat → Int64) (ls : Array Slot) (H : Heap) (locs : List Loc), rc 55 I A L X Y = some (r, I', A', L') → lv_has ls 15 [(0, .ref h), (1, .long (Y 1)), (3, .ref tq), (4, .int (X 4)), (5, .int (X 5)), (6, .int (X 6)), (7, .long (Y 7)), (9, .long (Y 9)), (11, .int (X 11))] → va_P (dC, dI) vwCl (at_W h q g tq tg tn tx I A L) H → va_D B9 (at_W h q g tq tg tn tx I A L) → va_S B9 s.heap H locs → W p l e (headSpec w_A_spread ({ frames := 2, cells := 0, slots := 0, locals := 43 })).room s m ([.ref h, .long k1, .ref tq, .int k4] : List Value).toArray below meth c H locs 0 0 (MQ below (va_Ql (fun (r9 : Int64) (_ : Unit) => r9 = r) (fun (_ : Unit) t => va_P (dC, dI) vwCl (at_W h q g tq tg tn tx I' A' L') t.heap ∧ va_K (dC, dI) vwCl (at_T h q g tq tg tn tx) t ∧ va_D B9 (at_W h q g tq tg tn tx I' A' L')) B9) ([.ref h, .long k1, .ref tq, .int k4] : List Value).toArray s 0 0 B9) (F0 m 55 ls [])), ∀ (I : MI) (A : MA) (L : ML) (X : Nat → Int32) (Y : Nat → Int64) (ls : Array Slot) (H : Heap) (locs : List Loc), f_A_spread_16 tn tx rc I A L X Y = some (r, I', A', L') → lv_has ls 15 [(0, .ref h), (1, .long (Y 1)), (3, .ref tq), (4, .int (X 4))] → va_P (dC, dI) vwCl (at_W h q g tq tg tn tx I A L) H → va_D B9 (at_W h q g tq tg tn tx I A L) → va_S B9 s.heap H locs → W p l e (headSpec w_A_spread ({ frames := 2, cells := 0, slots := 0, locals := 43 })).room s m ([.ref h, .long k1, .ref tq, .int k4] : List Value).toArray below meth c H locs 0 0 (MQ below (va_Ql (fun (r9 : Int64) (_ : Unit) => r9 = r) (fun (_ : Unit) t => va_P (dC, dI) vwCl (at_W h q g tq tg tn tx I' A' L') t.heap ∧ va_K (dC, dI) vwCl (at_T h q g tq tg tn tx) t ∧ va_D B9 (at_W h q g tq tg tn tx I' A' L')) B9) ([.ref h, .long k1, .ref tq, .int k4] : List Value).toArray s 0 0 B9) (F0 m 16 ls []) := by
    intro rc hrc55 I A L X Y ls H locs hf hl hP hD hS
    unfold f_A_spread_16 at hf
    refine lv_iconst (v := 1) hx hb d_A_spread_16 (by decide) ?_
    refine lv_goto (tgt := 21) hx hb d_A_spread_17 (by decide) ?_
    exact blk21 rc hrc55 I A L X Y 1 _ _ _ hf (lv_sub hl [0, 1, 2, 3] rfl) hP hD hS
  have blk126 : ∀ (rc : Nat → MI → MA → ML → (Nat → Int32) → (Nat → Int64) → Option (Int64 × MI × MA × ML)) (hrc55 : ∀ (I : MI) (A : MA) (L : ML) (X : Nat → Int32) (Y : Nat → Int64) (ls : Array Slot) (H : Heap) (locs : List Loc), rc 55 I A L X Y = some (r, I', A', L') → lv_has ls 15 [(0, .ref h), (1, .long (Y 1)), (3, .ref tq), (4, .int (X 4)), (5, .int (X 5)), (6, .int (X 6)), (7, .long (Y 7)), (9, .long (Y 9)), (11, .int (X 11))] → va_P (dC, dI) vwCl (at_W h q g tq tg tn tx I A L) H → va_D B9 (at_W h q g tq tg tn tx I A L) → va_S B9 s.heap H locs → W p l e (headSpec w_A_spread ({ frames := 2, cells := 0, slots := 0, locals := 43 })).room s m ([.ref h, .long k1, .ref tq, .int k4] : List Value).toArray below meth c H locs 0 0 (MQ below (va_Ql (fun (r9 : Int64) (_ : Unit) => r9 = r) (fun (_ : Unit) t => va_P (dC, dI) vwCl (at_W h q g tq tg tn tx I' A' L') t.heap ∧ va_K (dC, dI) vwCl (at_T h q g tq tg tn tx) t ∧ va_D B9 (at_W h q g tq tg tn tx I' A' L')) B9) ([.ref h, .long k1, .ref tq, .int k4] : List Value).toArray s 0 0 B9) (F0 m 55 ls [])), ∀ (I : MI) (A : MA) (L : ML) (X : Nat → Int32) (Y : Nat → Int64) (ls : Array Slot) (H : Heap) (locs : List Loc), f_A_spread_126 tn tx rc I A L X Y = some (r, I', A', L') → lv_has ls 15 [(0, .ref h), (1, .long (Y 1)), (3, .ref tq), (4, .int (X 4)), (5, .int (X 5)), (6, .int (X 6)), (7, .long (Y 7)), (9, .long (Y 9)), (11, .int (X 11))] → va_P (dC, dI) vwCl (at_W h q g tq tg tn tx I A L) H → va_D B9 (at_W h q g tq tg tn tx I A L) → va_S B9 s.heap H locs → W p l e (headSpec w_A_spread ({ frames := 2, cells := 0, slots := 0, locals := 43 })).room s m ([.ref h, .long k1, .ref tq, .int k4] : List Value).toArray below meth c H locs 0 0 (MQ below (va_Ql (fun (r9 : Int64) (_ : Unit) => r9 = r) (fun (_ : Unit) t => va_P (dC, dI) vwCl (at_W h q g tq tg tn tx I' A' L') t.heap ∧ va_K (dC, dI) vwCl (at_T h q g tq tg tn tx) t ∧ va_D B9 (at_W h q g tq tg tn tx I' A' L')) B9) ([.ref h, .long k1, .ref tq, .int k4] : List Value).toArray s 0 0 B9) (F0 m 126 ls []) := by
    intro rc hrc55 I A L X Y ls H locs hf hl hP hD hS
    unfold f_A_spread_126 at hf
    refine lv_lload hx hb d_A_spread_126 (lv_at hl 6 rfl) ?_
    obtain ⟨e0, e1, e2, e3⟩ := wk_inj3 hf
    subst e0
    subst e1
    subst e2
    subst e3
    exact W.lret (v := (Y 7)) hx hb hr (fun t ht hW => ⟨⟨(Y 7), (), rfl, rfl, by rw [ht]; exact hP, va_K.moved hW.alike hK, hD⟩, hS.F ht⟩) hS.2.2 d_A_spread_128
  have stp55 : ∀ (rc : Nat → MI → MA → ML → (Nat → Int32) → (Nat → Int64) → Option (Int64 × MI × MA × ML)) (hrc55 : ∀ (I : MI) (A : MA) (L : ML) (X : Nat → Int32) (Y : Nat → Int64) (ls : Array Slot) (H : Heap) (locs : List Loc), rc 55 I A L X Y = some (r, I', A', L') → lv_has ls 15 [(0, .ref h), (1, .long (Y 1)), (3, .ref tq), (4, .int (X 4)), (5, .int (X 5)), (6, .int (X 6)), (7, .long (Y 7)), (9, .long (Y 9)), (11, .int (X 11))] → va_P (dC, dI) vwCl (at_W h q g tq tg tn tx I A L) H → va_D B9 (at_W h q g tq tg tn tx I A L) → va_S B9 s.heap H locs → W p l e (headSpec w_A_spread ({ frames := 2, cells := 0, slots := 0, locals := 43 })).room s m ([.ref h, .long k1, .ref tq, .int k4] : List Value).toArray below meth c H locs 0 0 (MQ below (va_Ql (fun (r9 : Int64) (_ : Unit) => r9 = r) (fun (_ : Unit) t => va_P (dC, dI) vwCl (at_W h q g tq tg tn tx I' A' L') t.heap ∧ va_K (dC, dI) vwCl (at_T h q g tq tg tn tx) t ∧ va_D B9 (at_W h q g tq tg tn tx I' A' L')) B9) ([.ref h, .long k1, .ref tq, .int k4] : List Value).toArray s 0 0 B9) (F0 m 55 ls [])), ∀ (I : MI) (A : MA) (L : ML) (X : Nat → Int32) (Y : Nat → Int64) (ls : Array Slot) (H : Heap) (locs : List Loc), f_A_spread_55 tn tx rc I A L X Y = some (r, I', A', L') → lv_has ls 15 [(0, .ref h), (1, .long (Y 1)), (3, .ref tq), (4, .int (X 4)), (5, .int (X 5)), (6, .int (X 6)), (7, .long (Y 7)), (9, .long (Y 9)), (11, .int (X 11))] → va_P (dC, dI) vwCl (at_W h q g tq tg tn tx I A L) H → va_D B9 (at_W h q g tq tg tn tx I A L) → va_S B9 s.heap H locs → W p l e (headSpec w_A_spread ({ frames := 2, cells := 0, slots := 0, locals := 43 })).room s m ([.ref h, .long k1, .ref tq, .int k4] : List Value).toArray below meth c H locs 0 0 (MQ below (va_Ql (fun (r9 : Int64) (_ : Unit) => r9 = r) (fun (_ : Unit) t => va_P (dC, dI) vwCl (at_W h q g tq tg tn tx I' A' L') t.heap ∧ va_K (dC, dI) vwCl (at_T h q g tq tg tn tx) t ∧ va_D B9 (at_W h q g tq tg tn tx I' A' L')) B9) ([.ref h, .long k1, .ref tq, .int k4] : List Value).toArray s 0 0 B9) (F0 m 55 ls []) := by
    intro rc hrc55 I A L X Y ls H locs hf hl hP hD hS
    unfold f_A_spread_55 at hf
    refine lv_iload hx hb d_A_spread_55 (lv_at hl 8 rfl) ?_
    refine lv_aload_n hx hb d_A_spread_57 rfl (lv_at hl 0 rfl) ?_
    refine va_get (D := (dC, dI)) (ci := 3) (v := .int (I 5)) (C := R_A) (T := F_A) (N := 10) hx hb hts (fun w h => List.mem_cons_of_mem _ (in_A w h)) hown hK hP 0 rfl rfl 5 (by decide) (hts _ (List.mem_cons_of_mem _ lk_259)) (fun _ h9 => h9) rfl d_A_spread_58 ?_
    refine lv_icmp_ge (tgt := 126) hx hb d_A_spread_61 (by decide) (fun hc1 => ?_) (fun hc1 => ?_)
    ·
      have hf := wk_ift hc1 hf
      exact blk126 rc hrc55 I A L X Y _ _ _ hf (lv_sub hl [0, 1, 2, 3, 4, 5, 6, 7, 8] rfl) hP hD hS
    ·
      have hf := wk_iff hc1 hf
      refine lv_lload hx hb d_A_spread_64 (lv_at hl 7 rfl) ?_
      refine lv_lconst (v := 0) hx hb d_A_spread_66 (by decide) ?_
      refine W.lcmp hx hb d_A_spread_67 ?_
      refine lv_if_eq (tgt := 126) hx hb d_A_spread_68 (by decide) (fun hc2 => ?_) (fun hc2 => ?_)
      ·
        have hf := wk_ift hc2 hf
        exact blk126 rc hrc55 I A L X Y _ _ _ hf (lv_sub hl [0, 1, 2, 3, 4, 5, 6, 7, 8] rfl) hP hD hS
      ·
        have hf := wk_iff hc2 hf
        refine lv_lload hx hb d_A_spread_71 (lv_at hl 7 rfl) ?_
        have hPc := hP.sub (ws' := []) [] rfl
        have hDc := hD.sub (ws' := []) [] (by decide) rfl
        have hKc := hK.sub (tys' := []) [] rfl
        have hFc := va_free (wc := []) hD hS hA [] rfl
        cases hg1 : f_Jl_numberOfTrailingZeros (Y 9) with
        | none => rw [hg1] at hf; cases hf
        | some z1 =>
          rw [hg1] at hf
          dsimp only [Option.bind_some] at hf
          refine va_calli (va_runS (As := [.long (Y 9)]) (rest := []) ⟨hx, hb, hml, hown, hts⟩ (cm_Jl_numberOfTrailingZeros l dC dI  _  (Y 9) z1  hg1) (va_cwS 1 hts (gd_t lk_266 lk_267 lk_268 lk_265) rfl rfl rfl (by decide +kernel) ⟨Nat.le_of_ble_eq_true rfl, Nat.le_of_ble_eq_true rfl⟩) ⟨fun a U g mk q => by obtain ⟨q0, q1, qP, qK, qD⟩ := q; exact ⟨q0, q1, qP, va_K.moved (u := U) (U := U.calling g mk a) (Vm.Alike.refl U.vm) qK, qD⟩, fun U hU hW => ⟨rfl, by rw [hU], by rw [hU]; exact hPc, va_K.moved hW.alike hKc, hDc.weaken (fun _ _ _ _ => trivial)⟩⟩ rfl rfl hl.1 rfl (lv_room (Nat.le_of_ble_eq_true rfl)) d_A_spread_73 ⟨Nat.le_of_ble_eq_true rfl, Nat.le_of_ble_eq_true rfl⟩) hS (fun q _ h => hFc q h) hFc (fun r9 u t H1 locs ht hvm hw hB hz1 hk1 hS => ?_)
          obtain ⟨hP1, hK1, hD1⟩ := hB
          rw [ht] at hP1
          rw [hw]
          obtain ⟨hP, hD⟩ := va_join (wr := (([0, 1, 2, 3, 4, 5, 6] : List Nat).map (fun i => ((at_W h q g tq tg tn tx I A L)).getD i (0, .inr (0, []))))) (w1 := []) hP hD [] [0, 1, 2, 3, 4, 5, 6] rfl rfl (by decide) (by decide) hk1 hFc hP1 hD1
          generalize H1 = H at hP hS ⊢
          have hP := hP.sub (ws' := (at_W h q g tq tg tn tx I A L)) [0, 1, 2, 3, 4, 5, 6] rfl
          have hD := hD.sub (ws' := (at_W h q g tq tg tn tx I A L)) [0, 1, 2, 3, 4, 5, 6] (by decide) rfl
          refine lv_istore (lv' := [(12, .int z1), (0, .ref h), (1, .long (Y 1)), (3, .ref tq), (4, .int (X 4)), (5, .int (X 5)), (6, .int (X 6)), (7, .long (Y 7)), (9, .long (Y 9)), (11, .int (X 11))]) hx hb d_A_spread_76 hl (by decide) rfl (fun ls hl => ?_)
          have hl : lv_has ls 15 [(12, .int z1), (0, .ref h), (1, .long (Y 1)), (3, .ref tq), (4, .int (X 4)), (5, .int (X 5)), (6, .int (X 6)), (7, .long (Y 7)), (9, .long (Y 9)), (11, .int (X 11))] := hl
          refine lv_lload hx hb d_A_spread_78 (lv_at hl 8 rfl) ?_
          refine lv_lload hx hb d_A_spread_80 (lv_at hl 8 rfl) ?_
          refine lv_lconst (v := 1) hx hb d_A_spread_82 (by decide) ?_
          refine lv_lsub hx hb d_A_spread_83 ?_
          refine lv_land hx hb d_A_spread_84 ?_
          refine lv_lstore (lv' := [(9, .long ((Y 9) &&& ((Y 9) - 1))), (12, .int z1), (0, .ref h), (1, .long (Y 1)), (3, .ref tq), (4, .int (X 4)), (5, .int (X 5)), (6, .int (X 6)), (7, .long (Y 7)), (11, .int (X 11))]) hx hb d_A_spread_85 hl (by decide) rfl (fun ls hl => ?_)
          have hl : lv_has ls 15 [(9, .long ((Y 9) &&& ((Y 9) - 1))), (12, .int z1), (0, .ref h), (1, .long (Y 1)), (3, .ref tq), (4, .int (X 4)), (5, .int (X 5)), (6, .int (X 6)), (7, .long (Y 7)), (11, .int (X 11))] := hl
          refine lv_aload_n hx hb d_A_spread_87 rfl (lv_at hl 2 rfl) ?_
          refine lv_iload hx hb d_A_spread_88 (lv_at hl 1 rfl) ?_
          refine lv_iload hx hb d_A_spread_90 (lv_at hl 6 rfl) ?_
          refine lv_iload hx hb d_A_spread_92 (lv_at hl 7 rfl) ?_
          have hPc := hP.sub (ws' := (aw_W h q g I A L)) [0, 1, 2, 3, 4, 5] rfl
          have hDc := hD.sub (ws' := (aw_W h q g I A L)) [0, 1, 2, 3, 4, 5] (by decide) rfl
          have hKc := hK.sub (tys' := (aw_T h q g)) [0, 1, 2, 3, 4] rfl
          have hFc := va_free (wc := (aw_W h q g I A L)) hD hS hA [0, 1, 2, 3, 4, 5] rfl
          cases hg2 : f_A_waysOut I A L z1 (X 5) (X 6) with
          | none => rw [hg2] at hf; cases hf
          | some z2 =>
            obtain ⟨r2, I2, A2, L2⟩ := z2
            rw [hg2] at hf
            dsimp only [Option.bind_some] at hf
            refine va_calll (va_runV (As := [.int z1, .int (X 5), .int (X 6)]) (rest := []) ⟨hx, hb, hml, hown, hts⟩ (cm_A_waysOut l dC dI h q g _  I A L z1 (X 5) (X 6) r2 I2 A2 L2 hg2) (cwV 3 hts (gd_v lk_277 lk_278 lk_279 lk_274 lk_276) rfl rfl rfl (by decide +kernel) ⟨Nat.le_of_ble_eq_true rfl, Nat.le_of_ble_eq_true rfl⟩) ⟨fun a U g mk q => by obtain ⟨q0, q1, qP, qK, qD⟩ := q; exact ⟨q0, q1, qP, va_K.moved (u := U) (U := U.calling g mk a) (Vm.Alike.refl U.vm) qK, qD⟩, va_recv (ci := 3) (q0 := 0) hK hP rfl rfl, fun U hU hW => ⟨rfl, by rw [hU], by rw [hU]; exact hPc, va_K.moved hW.alike hKc, hDc.weaken (fun _ _ _ _ => trivial)⟩⟩ rfl rfl hl.1 rfl (lv_room (Nat.le_of_ble_eq_true rfl)) d_A_spread_94 ⟨Nat.le_of_ble_eq_true rfl, Nat.le_of_ble_eq_true rfl⟩) hS (fun q _ h => hFc q h) hFc (fun r9 u t H1 locs ht hvm hw hB hz1 hk1 hS => ?_)
            obtain ⟨hP1, hK1, hD1⟩ := hB
            rw [ht] at hP1
            rw [hw]
            obtain ⟨hP, hD⟩ := va_join (wr := (([6] : List Nat).map (fun i => ((at_W h q g tq tg tn tx I A L)).getD i (0, .inr (0, []))))) (w1 := (aw_W h q g I2 A2 L2)) hP hD [0, 1, 2, 3, 4, 5] [6] rfl rfl (by decide) (by decide) hk1 hFc hP1 hD1
            generalize H1 = H at hP hS ⊢
            have hP := hP.sub (ws' := (at_W h q g tq tg tn tx I2 A2 L2)) [1, 2, 3, 4, 5, 6, 0] rfl
            have hD := hD.sub (ws' := (at_W h q g tq tg tn tx I2 A2 L2)) [1, 2, 3, 4, 5, 6, 0] (by decide) rfl
            refine lv_lload hx hb d_A_spread_97 (lv_at hl 8 rfl) ?_
            refine lv_ldc2 (v := (-1)) hx hb hown (hts _ (List.mem_cons_of_mem _ lk_280)) d_A_spread_99 ?_
            refine lv_lxor hx hb d_A_spread_102 ?_
            refine lv_land hx hb d_A_spread_103 ?_
            refine lv_lstore (lv' := [(13, .long (r2 &&& ((Y 7) ^^^ (-1)))), (9, .long ((Y 9) &&& ((Y 9) - 1))), (12, .int z1), (0, .ref h), (1, .long (Y 1)), (3, .ref tq), (4, .int (X 4)), (5, .int (X 5)), (6, .int (X 6)), (7, .long (Y 7)), (11, .int (X 11))]) hx hb d_A_spread_104 hl (by decide) rfl (fun ls hl => ?_)
            have hl : lv_has ls 15 [(13, .long (r2 &&& ((Y 7) ^^^ (-1)))), (9, .long ((Y 9) &&& ((Y 9) - 1))), (12, .int z1), (0, .ref h), (1, .long (Y 1)), (3, .ref tq), (4, .int (X 4)), (5, .int (X 5)), (6, .int (X 6)), (7, .long (Y 7)), (11, .int (X 11))] := hl
            refine lv_lload hx hb d_A_spread_106 (lv_at hl 9 rfl) ?_
            refine lv_lload hx hb d_A_spread_108 (lv_at hl 0 rfl) ?_
            refine lv_lor hx hb d_A_spread_110 ?_
            refine lv_lstore (lv' := [(7, .long ((Y 7) ||| (r2 &&& ((Y 7) ^^^ (-1))))), (13, .long (r2 &&& ((Y 7) ^^^ (-1)))), (9, .long ((Y 9) &&& ((Y 9) - 1))), (12, .int z1), (0, .ref h), (1, .long (Y 1)), (3, .ref tq), (4, .int (X 4)), (5, .int (X 5)), (6, .int (X 6)), (11, .int (X 11))]) hx hb d_A_spread_111 hl (by decide) rfl (fun ls hl => ?_)
            have hl : lv_has ls 15 [(7, .long ((Y 7) ||| (r2 &&& ((Y 7) ^^^ (-1))))), (13, .long (r2 &&& ((Y 7) ^^^ (-1)))), (9, .long ((Y 9) &&& ((Y 9) - 1))), (12, .int z1), (0, .ref h), (1, .long (Y 1)), (3, .ref tq), (4, .int (X 4)), (5, .int (X 5)), (6, .int (X 6)), (11, .int (X 11))] := hl
            refine lv_lload hx hb d_A_spread_113 (lv_at hl 2 rfl) ?_
            refine lv_lload hx hb d_A_spread_115 (lv_at hl 1 rfl) ?_
            refine lv_lor hx hb d_A_spread_117 ?_
            refine lv_lstore (lv' := [(9, .long (((Y 9) &&& ((Y 9) - 1)) ||| (r2 &&& ((Y 7) ^^^ (-1))))), (7, .long ((Y 7) ||| (r2 &&& ((Y 7) ^^^ (-1))))), (13, .long (r2 &&& ((Y 7) ^^^ (-1)))), (12, .int z1), (0, .ref h), (1, .long (Y 1)), (3, .ref tq), (4, .int (X 4)), (5, .int (X 5)), (6, .int (X 6)), (11, .int (X 11))]) hx hb d_A_spread_118 hl (by decide) rfl (fun ls hl => ?_)
            have hl : lv_has ls 15 [(9, .long (((Y 9) &&& ((Y 9) - 1)) ||| (r2 &&& ((Y 7) ^^^ (-1))))), (7, .long ((Y 7) ||| (r2 &&& ((Y 7) ^^^ (-1))))), (13, .long (r2 &&& ((Y 7) ^^^ (-1)))), (12, .int z1), (0, .ref h), (1, .long (Y 1)), (3, .ref tq), (4, .int (X 4)), (5, .int (X 5)), (6, .int (X 6)), (11, .int (X 11))] := hl
            refine lv_iinc (k := 10) (v := ((X 11) + 1)) (lv' := [(11, .int ((X 11) + 1)), (9, .long (((Y 9) &&& ((Y 9) - 1)) ||| (r2 &&& ((Y 7) ^^^ (-1))))), (7, .long ((Y 7) ||| (r2 &&& ((Y 7) ^^^ (-1))))), (13, .long (r2 &&& ((Y 7) ^^^ (-1)))), (12, .int z1), (0, .ref h), (1, .long (Y 1)), (3, .ref tq), (4, .int (X 4)), (5, .int (X 5)), (6, .int (X 6))]) hx hb d_A_spread_120 hl rfl (wk_inc (by decide)) (by decide) rfl (fun ls hl => ?_)
            have hl : lv_has ls 15 [(11, .int ((X 11) + 1)), (9, .long (((Y 9) &&& ((Y 9) - 1)) ||| (r2 &&& ((Y 7) ^^^ (-1))))), (7, .long ((Y 7) ||| (r2 &&& ((Y 7) ^^^ (-1))))), (13, .long (r2 &&& ((Y 7) ^^^ (-1)))), (12, .int z1), (0, .ref h), (1, .long (Y 1)), (3, .ref tq), (4, .int (X 4)), (5, .int (X 5)), (6, .int (X 6))] := hl
            refine lv_goto (tgt := 55) hx hb d_A_spread_123 (by decide) ?_
            exact hrc55 I2 A2 L2 (upd X 11 ((X 11) + 1)) (vp_updL (vp_updL Y 7 ((Y 7) ||| (r2 &&& ((Y 7) ^^^ (-1))))) 9 (((Y 9) &&& ((Y 9) - 1)) ||| (r2 &&& ((Y 7) ^^^ (-1))))) _ _ _ hf (lv_sub hl [5, 6, 7, 8, 9, 10, 2, 1, 0] rfl) hP hD hS
  have key : ∀ n : Nat, (∀ (I : MI) (A : MA) (L : ML) (X : Nat → Int32) (Y : Nat → Int64) (ls : Array Slot) (H : Heap) (locs : List Loc), f_A_spread_go tn tx n 55 I A L X Y = some (r, I', A', L') → lv_has ls 15 [(0, .ref h), (1, .long (Y 1)), (3, .ref tq), (4, .int (X 4)), (5, .int (X 5)), (6, .int (X 6)), (7, .long (Y 7)), (9, .long (Y 9)), (11, .int (X 11))] → va_P (dC, dI) vwCl (at_W h q g tq tg tn tx I A L) H → va_D B9 (at_W h q g tq tg tn tx I A L) → va_S B9 s.heap H locs → W p l e (headSpec w_A_spread ({ frames := 2, cells := 0, slots := 0, locals := 43 })).room s m ([.ref h, .long k1, .ref tq, .int k4] : List Value).toArray below meth c H locs 0 0 (MQ below (va_Ql (fun (r9 : Int64) (_ : Unit) => r9 = r) (fun (_ : Unit) t => va_P (dC, dI) vwCl (at_W h q g tq tg tn tx I' A' L') t.heap ∧ va_K (dC, dI) vwCl (at_T h q g tq tg tn tx) t ∧ va_D B9 (at_W h q g tq tg tn tx I' A' L')) B9) ([.ref h, .long k1, .ref tq, .int k4] : List Value).toArray s 0 0 B9) (F0 m 55 ls [])) := by
    intro n
    induction n with
    | zero => exact fun I A L X Y ls H locs hf => (by cases hf)
    | succ n ih =>
      have ih55 := ih
      exact stp55 (f_A_spread_go tn tx n) ih55
  unfold f_A_spread f_A_spread_e at hf
  have hrc55 := key wk_FUEL
  refine lv_iload hx hb d_A_spread_0 (lv_at hl 3 rfl) ?_
  refine lv_if_eq (tgt := 16) hx hb d_A_spread_2 (by decide) (fun hc1 => ?_) (fun hc1 => ?_)
  ·
    have hf := wk_ift hc1 hf
    exact blk16 _ hrc55 I A L (upd (fun _ => 0) 4 k4) (vp_updL (fun _ => 0) 1 k1) _ _ _ hf (lv_sub hl [0, 1, 2, 3] rfl) hP hD hS
  ·
    have hf := wk_iff hc1 hf
    refine lv_aload_n hx hb d_A_spread_5 rfl (lv_at hl 2 rfl) ?_
    refine lv_iload hx hb d_A_spread_6 (lv_at hl 3 rfl) ?_
    refine lv_iconst (v := 1) hx hb d_A_spread_8 (by decide) ?_
    refine lv_isub hx hb d_A_spread_9 ?_
    obtain ⟨hc2, hf⟩ := wk_if hf
    refine va_cald hx hb hK hP 6 5 rfl rfl (wk_inb_ok hc2) d_A_spread_10 ?_
    refine lv_bipush (v := 10) hx hb d_A_spread_11 (by decide) ?_
    refine lv_icmp_ne (tgt := 20) hx hb d_A_spread_13 (by decide) (fun hc3 => ?_) (fun hc3 => ?_)
    ·
      have hf := wk_iff hc3 hf
      refine lv_iconst (v := 0) hx hb d_A_spread_20 (by decide) ?_
      exact blk21 _ hrc55 I A L (upd (fun _ => 0) 4 k4) (vp_updL (fun _ => 0) 1 k1) 0 _ _ _ hf (lv_sub hl [0, 1, 2, 3] rfl) hP hD hS
    ·
      have hf := wk_ift hc3 hf
      exact blk16 _ hrc55 I A L (upd (fun _ => 0) 4 k4) (vp_updL (fun _ => 0) 1 k1) _ _ _ hf (lv_sub hl [0, 1, 2, 3] rfl) hP hD hS

set_option maxHeartbeats 8000000 in
set_option maxRecDepth 100000 in
theorem cm_A_takes (l : Launch) (dC : Nat → ClassId) (dI : Nat → Nat → Nat) (h : Nat) (q : Nat → Nat) (g : Nat → ClassId) (sz : Nat) (I : MI) (A : MA) (L : ML) (k1 : Int32) (k2 : Int32) (r : Int32) (I' : MI) (A' : MA) (L' : ML) (hf : f_A_takes I A L  k1 k2 = some (r, I', A', L')) : Met l y_A_takes w_A_takes ({ frames := 0, cells := 0, slots := 0, locals := 0 }) (va_Pc [.ref h, .int k1, .int k2] (fun U => U.heap.size = sz ∧ va_P (dC, dI) vwCl (aw_W h q g I A L) U.heap ∧ va_K (dC, dI) vwCl (aw_T h q g) U ∧ va_D (fun _ => True) (aw_W h q g I A L))) (va_Qi (fun (r9 : Int32) (_ : Unit) => r9 = r) (fun (_ : Unit) t => va_P (dC, dI) vwCl (aw_W h q g I' A' L') t.heap ∧ va_K (dC, dI) vwCl (aw_T h q g) t ∧ va_D (va_A (aw_W h q g I A L) sz) (aw_W h q g I' A' L')) (va_A (aw_W h q g I A L) sz)) 0 0 (va_A (aw_W h q g I A L) sz) := by
  refine Met.ofW (cc := prog_2_method_8_code) (maxL := 5) (ret := (some .boolean)) (by decide) rfl ?_
  intro p e s m args below meth c s₁ B hml hv
  obtain ⟨rfl, hsz, hP, hK, hD0⟩ := hv
  have hx := B.exec
  have hb := B.bytes
  have hr := B.returns
  have hts := atoms_spec (ws := w_A_takes) B.pre
  have hown : s.vm.findClass "DraftTree$Automaton" = some m.cls := findClass_of_methodNamed B.named
  have hlocks := B.notSynchronized
  subst hsz
  have hD := hD0.self (sz := s.heap.size)
  generalize hAe : va_A (aw_W h q g I A L) s.heap.size = B9 at hD ⊢
  have hA : ∀ q : Nat, s.heap.size ≤ q → B9 q := fun q h => by rw [← hAe]; exact Or.inr h
  clear hAe
  have hS : va_S B9 s.heap s.heap [] := va_S.rf
  have hl := lv_entry ([.ref h, .int k1, .int k2]) (n := 5) (Nat.le_of_ble_eq_true rfl)
  rw [lg_entry_eq]
  generalize (lg_sl ([.ref h, .int k1, .int k2]) ++ List.replicate (5 - (lg_sl ([.ref h, .int k1, .int k2])).length) Slot.unset).toArray = ls at hl ⊢
  have hl : lv_has ls 5 [(0, .ref h), (1, .int k1), (2, .int k2)] := hl
  have blk40 : ∀ (I : MI) (A : MA) (L : ML) (X : Nat → Int32) (Y : Nat → Int64) (s0 : Int32) (ls : Array Slot) (H : Heap) (locs : List Loc), f_A_takes_40 I A L X Y s0 = some (r, I', A', L') → lv_has ls 5 [(0, .ref h), (1, .int (X 1)), (2, .int (X 2)), (3, .long (Y 3))] → va_P (dC, dI) vwCl (aw_W h q g I A L) H → va_D B9 (aw_W h q g I A L) → va_S B9 s.heap H locs → W p l e (headSpec w_A_takes ({ frames := 0, cells := 0, slots := 0, locals := 0 })).room s m ([.ref h, .int k1, .int k2] : List Value).toArray below meth c H locs 0 0 (MQ below (va_Qi (fun (r9 : Int32) (_ : Unit) => r9 = r) (fun (_ : Unit) t => va_P (dC, dI) vwCl (aw_W h q g I' A' L') t.heap ∧ va_K (dC, dI) vwCl (aw_T h q g) t ∧ va_D B9 (aw_W h q g I' A' L')) B9) ([.ref h, .int k1, .int k2] : List Value).toArray s 0 0 B9) (F0 m 40 ls [.int s0]) := by
    intro I A L X Y s0 ls H locs hf hl hP hD hS
    unfold f_A_takes_40 at hf
    obtain ⟨hn9, hf⟩ := wk_if hf
    obtain ⟨e0, e1, e2, e3⟩ := wk_inj3 hf
    subst e0
    subst e1
    subst e2
    subst e3
    exact W.zret (v := s0) hx hb hr (congrArg Value.int hn9) (fun t ht hW => ⟨⟨s0, (), rfl, rfl, by rw [ht]; exact hP, va_K.moved hW.alike hK, hD⟩, hS.F ht⟩) hS.2.2 d_A_takes_40
  have blk21 : ∀ (I : MI) (A : MA) (L : ML) (X : Nat → Int32) (Y : Nat → Int64) (s0 : Int64) (ls : Array Slot) (H : Heap) (locs : List Loc), f_A_takes_21 I A L X Y s0 = some (r, I', A', L') → lv_has ls 5 [(0, .ref h), (1, .int (X 1)), (2, .int (X 2))] → va_P (dC, dI) vwCl (aw_W h q g I A L) H → va_D B9 (aw_W h q g I A L) → va_S B9 s.heap H locs → W p l e (headSpec w_A_takes ({ frames := 0, cells := 0, slots := 0, locals := 0 })).room s m ([.ref h, .int k1, .int k2] : List Value).toArray below meth c H locs 0 0 (MQ below (va_Qi (fun (r9 : Int32) (_ : Unit) => r9 = r) (fun (_ : Unit) t => va_P (dC, dI) vwCl (aw_W h q g I' A' L') t.heap ∧ va_K (dC, dI) vwCl (aw_T h q g) t ∧ va_D B9 (aw_W h q g I' A' L')) B9) ([.ref h, .int k1, .int k2] : List Value).toArray s 0 0 B9) (F0 m 21 ls [.long s0]) := by
    intro I A L X Y s0 ls H locs hf hl hP hD hS
    unfold f_A_takes_21 at hf
    refine lv_lstore_n (lv' := [(3, .long s0), (0, .ref h), (1, .int (X 1)), (2, .int (X 2))]) hx hb d_A_takes_21 rfl hl (by decide) rfl (fun ls hl => ?_)
    have hl : lv_has ls 5 [(3, .long s0), (0, .ref h), (1, .int (X 1)), (2, .int (X 2))] := hl
    refine lv_lload_n hx hb d_A_takes_22 rfl (lv_at hl 0 rfl) ?_
    refine lv_iload_n hx hb d_A_takes_23 rfl (lv_at hl 3 rfl) ?_
    refine lv_bipush (v := 63) hx hb d_A_takes_24 (by decide) ?_
    refine lv_iand hx hb d_A_takes_26 ?_
    refine lv_lushr hx hb d_A_takes_27 rfl ?_
    refine lv_lconst (v := 1) hx hb d_A_takes_28 (by decide) ?_
    refine lv_land hx hb d_A_takes_29 ?_
    refine lv_lconst (v := 0) hx hb d_A_takes_30 (by decide) ?_
    refine W.lcmp hx hb d_A_takes_31 ?_
    refine lv_if_eq (tgt := 39) hx hb d_A_takes_32 (by decide) (fun hc1 => ?_) (fun hc1 => ?_)
    ·
      have hf := wk_ift hc1 hf
      refine lv_iconst (v := 0) hx hb d_A_takes_39 (by decide) ?_
      exact blk40 I A L X (vp_updL Y 3 s0) 0 _ _ _ hf (lv_sub hl [1, 2, 3, 0] rfl) hP hD hS
    ·
      have hf := wk_iff hc1 hf
      refine lv_iconst (v := 1) hx hb d_A_takes_35 (by decide) ?_
      refine lv_goto (tgt := 40) hx hb d_A_takes_36 (by decide) ?_
      exact blk40 I A L X (vp_updL Y 3 s0) 1 _ _ _ hf (lv_sub hl [1, 2, 3, 0] rfl) hP hD hS
  unfold f_A_takes at hf
  refine lv_iload_n hx hb d_A_takes_0 rfl (lv_at hl 2 rfl) ?_
  refine lv_bipush (v := 64) hx hb d_A_takes_1 (by decide) ?_
  refine lv_icmp_ge (tgt := 15) hx hb d_A_takes_3 (by decide) (fun hc1 => ?_) (fun hc1 => ?_)
  ·
    have hf := wk_ift hc1 hf
    refine lv_aload_n hx hb d_A_takes_15 rfl (lv_at hl 0 rfl) ?_
    refine va_get (D := (dC, dI)) (ci := 3) (v := .ref (q 4)) (C := R_A) (T := F_A) (N := 10) hx hb hts (fun w h => List.mem_cons_of_mem _ (in_A w h)) hown hK hP 0 rfl rfl 4 (by decide) (hts _ (List.mem_cons_of_mem _ lk_285)) (fun _ h9 => h9) rfl d_A_takes_16 ?_
    refine lv_iload_n hx hb d_A_takes_19 rfl (lv_at hl 1 rfl) ?_
    obtain ⟨hc2, hf⟩ := wk_if hf
    refine va_lald hx hb hK hP 5 4 rfl rfl (wk_inb_ok hc2) d_A_takes_20 ?_
    exact blk21 I A L (upd (upd (fun _ => 0) 1 k1) 2 k2) (fun _ => 0) (L 4 (k1).toNatClampNeg) _ _ _ hf (lv_sub hl [0, 1, 2] rfl) hP hD hS
  ·
    have hf := wk_iff hc1 hf
    refine lv_aload_n hx hb d_A_takes_6 rfl (lv_at hl 0 rfl) ?_
    refine va_get (D := (dC, dI)) (ci := 3) (v := .ref (q 3)) (C := R_A) (T := F_A) (N := 10) hx hb hts (fun w h => List.mem_cons_of_mem _ (in_A w h)) hown hK hP 0 rfl rfl 3 (by decide) (hts _ (List.mem_cons_of_mem _ lk_286)) (fun _ h9 => h9) rfl d_A_takes_7 ?_
    refine lv_iload_n hx hb d_A_takes_10 rfl (lv_at hl 1 rfl) ?_
    obtain ⟨hc2, hf⟩ := wk_if hf
    refine va_lald hx hb hK hP 4 3 rfl rfl (wk_inb_ok hc2) d_A_takes_11 ?_
    refine lv_goto (tgt := 21) hx hb d_A_takes_12 (by decide) ?_
    exact blk21 I A L (upd (upd (fun _ => 0) 1 k1) 2 k2) (fun _ => 0) (L 3 (k1).toNatClampNeg) _ _ _ hf (lv_sub hl [0, 1, 2] rfl) hP hD hS

set_option maxHeartbeats 8000000 in
set_option maxRecDepth 100000 in
theorem cm_A_consume (l : Launch) (dC : Nat → ClassId) (dI : Nat → Nat → Nat) (h : Nat) (q : Nat → Nat) (g : Nat → ClassId) (sz : Nat) (I : MI) (A : MA) (L : ML) (k1 : Int64) (k3 : Int32) (r : Int64) (I' : MI) (A' : MA) (L' : ML) (hf : f_A_consume I A L  k1 k3 = some (r, I', A', L')) : Met l y_A_consume w_A_consume ({ frames := 2, cells := 0, slots := 0, locals := 43 }) (va_Pc [.ref h, .long k1, .int k3] (fun U => U.heap.size = sz ∧ va_P (dC, dI) vwCl (aw_W h q g I A L) U.heap ∧ va_K (dC, dI) vwCl (aw_T h q g) U ∧ va_D (fun _ => True) (aw_W h q g I A L))) (va_Ql (fun (r9 : Int64) (_ : Unit) => r9 = r) (fun (_ : Unit) t => va_P (dC, dI) vwCl (aw_W h q g I' A' L') t.heap ∧ va_K (dC, dI) vwCl (aw_T h q g) t ∧ va_D (va_A (aw_W h q g I A L) sz) (aw_W h q g I' A' L')) (va_A (aw_W h q g I A L) sz)) 0 0 (va_A (aw_W h q g I A L) sz) := by
  refine Met.ofW (cc := prog_2_method_7_code) (maxL := 10) (ret := (some .long)) (by decide) rfl ?_
  intro p e s m args below meth c s₁ B hml hv
  obtain ⟨rfl, hsz, hP, hK, hD0⟩ := hv
  have hx := B.exec
  have hb := B.bytes
  have hr := B.returns
  have hts := atoms_spec (ws := w_A_consume) B.pre
  have hown : s.vm.findClass "DraftTree$Automaton" = some m.cls := findClass_of_methodNamed B.named
  have hlocks := B.notSynchronized
  subst hsz
  have hD := hD0.self (sz := s.heap.size)
  generalize hAe : va_A (aw_W h q g I A L) s.heap.size = B9 at hD ⊢
  have hA : ∀ q : Nat, s.heap.size ≤ q → B9 q := fun q h => by rw [← hAe]; exact Or.inr h
  clear hAe
  have hS : va_S B9 s.heap s.heap [] := va_S.rf
  have hl := lv_entry ([.ref h, .long k1, .int k3]) (n := 10) (Nat.le_of_ble_eq_true rfl)
  rw [lg_entry_eq]
  generalize (lg_sl ([.ref h, .long k1, .int k3]) ++ List.replicate (10 - (lg_sl ([.ref h, .long k1, .int k3])).length) Slot.unset).toArray = ls at hl ⊢
  have hl : lv_has ls 10 [(0, .ref h), (1, .long k1), (3, .int k3)] := hl
  have blk83 : ∀ (rc : Nat → MI → MA → ML → (Nat → Int32) → (Nat → Int64) → Option (Int64 × MI × MA × ML)) (hrc9 : ∀ (I : MI) (A : MA) (L : ML) (X : Nat → Int32) (Y : Nat → Int64) (ls : Array Slot) (H : Heap) (locs : List Loc), rc 9 I A L X Y = some (r, I', A', L') → lv_has ls 10 [(0, .ref h), (1, .long (Y 1)), (3, .int (X 3)), (4, .long (Y 4)), (6, .long (Y 6)), (8, .int (X 8))] → va_P (dC, dI) vwCl (aw_W h q g I A L) H → va_D B9 (aw_W h q g I A L) → va_S B9 s.heap H locs → W p l e (headSpec w_A_consume ({ frames := 2, cells := 0, slots := 0, locals := 43 })).room s m ([.ref h, .long k1, .int k3] : List Value).toArray below meth c H locs 0 0 (MQ below (va_Ql (fun (r9 : Int64) (_ : Unit) => r9 = r) (fun (_ : Unit) t => va_P (dC, dI) vwCl (aw_W h q g I' A' L') t.heap ∧ va_K (dC, dI) vwCl (aw_T h q g) t ∧ va_D B9 (aw_W h q g I' A' L')) B9) ([.ref h, .long k1, .int k3] : List Value).toArray s 0 0 B9) (F0 m 9 ls [])), ∀ (I : MI) (A : MA) (L : ML) (X : Nat → Int32) (Y : Nat → Int64) (ls : Array Slot) (H : Heap) (locs : List Loc), f_A_consume_83 rc I A L X Y = some (r, I', A', L') → lv_has ls 10 [(0, .ref h), (1, .long (Y 1)), (3, .int (X 3)), (4, .long (Y 4)), (6, .long (Y 6)), (8, .int (X 8))] → va_P (dC, dI) vwCl (aw_W h q g I A L) H → va_D B9 (aw_W h q g I A L) → va_S B9 s.heap H locs → W p l e (headSpec w_A_consume ({ frames := 2, cells := 0, slots := 0, locals := 43 })).room s m ([.ref h, .long k1, .int k3] : List Value).toArray below meth c H locs 0 0 (MQ below (va_Ql (fun (r9 : Int64) (_ : Unit) => r9 = r) (fun (_ : Unit) t => va_P (dC, dI) vwCl (aw_W h q g I' A' L') t.heap ∧ va_K (dC, dI) vwCl (aw_T h q g) t ∧ va_D B9 (aw_W h q g I' A' L')) B9) ([.ref h, .long k1, .int k3] : List Value).toArray s 0 0 B9) (F0 m 83 ls []) := by
    intro rc hrc9 I A L X Y ls H locs hf hl hP hD hS
    unfold f_A_consume_83 at hf
    refine lv_lload hx hb d_A_consume_83 (lv_at hl 3 rfl) ?_
    obtain ⟨e0, e1, e2, e3⟩ := wk_inj3 hf
    subst e0
    subst e1
    subst e2
    subst e3
    exact W.lret (v := (Y 4)) hx hb hr (fun t ht hW => ⟨⟨(Y 4), (), rfl, rfl, by rw [ht]; exact hP, va_K.moved hW.alike hK, hD⟩, hS.F ht⟩) hS.2.2 d_A_consume_85
  have blk77 : ∀ (rc : Nat → MI → MA → ML → (Nat → Int32) → (Nat → Int64) → Option (Int64 × MI × MA × ML)) (hrc9 : ∀ (I : MI) (A : MA) (L : ML) (X : Nat → Int32) (Y : Nat → Int64) (ls : Array Slot) (H : Heap) (locs : List Loc), rc 9 I A L X Y = some (r, I', A', L') → lv_has ls 10 [(0, .ref h), (1, .long (Y 1)), (3, .int (X 3)), (4, .long (Y 4)), (6, .long (Y 6)), (8, .int (X 8))] → va_P (dC, dI) vwCl (aw_W h q g I A L) H → va_D B9 (aw_W h q g I A L) → va_S B9 s.heap H locs → W p l e (headSpec w_A_consume ({ frames := 2, cells := 0, slots := 0, locals := 43 })).room s m ([.ref h, .long k1, .int k3] : List Value).toArray below meth c H locs 0 0 (MQ below (va_Ql (fun (r9 : Int64) (_ : Unit) => r9 = r) (fun (_ : Unit) t => va_P (dC, dI) vwCl (aw_W h q g I' A' L') t.heap ∧ va_K (dC, dI) vwCl (aw_T h q g) t ∧ va_D B9 (aw_W h q g I' A' L')) B9) ([.ref h, .long k1, .int k3] : List Value).toArray s 0 0 B9) (F0 m 9 ls [])), ∀ (I : MI) (A : MA) (L : ML) (X : Nat → Int32) (Y : Nat → Int64) (ls : Array Slot) (H : Heap) (locs : List Loc), f_A_consume_77 rc I A L X Y = some (r, I', A', L') → lv_has ls 10 [(0, .ref h), (1, .long (Y 1)), (3, .int (X 3)), (4, .long (Y 4)), (6, .long (Y 6)), (8, .int (X 8)), (9, .int (X 9))] → va_P (dC, dI) vwCl (aw_W h q g I A L) H → va_D B9 (aw_W h q g I A L) → va_S B9 s.heap H locs → W p l e (headSpec w_A_consume ({ frames := 2, cells := 0, slots := 0, locals := 43 })).room s m ([.ref h, .long k1, .int k3] : List Value).toArray below meth c H locs 0 0 (MQ below (va_Ql (fun (r9 : Int64) (_ : Unit) => r9 = r) (fun (_ : Unit) t => va_P (dC, dI) vwCl (aw_W h q g I' A' L') t.heap ∧ va_K (dC, dI) vwCl (aw_T h q g) t ∧ va_D B9 (aw_W h q g I' A' L')) B9) ([.ref h, .long k1, .int k3] : List Value).toArray s 0 0 B9) (F0 m 77 ls []) := by
    intro rc hrc9 I A L X Y ls H locs hf hl hP hD hS
    unfold f_A_consume_77 at hf
    refine lv_iinc (k := 5) (v := ((X 8) + 1)) (lv' := [(8, .int ((X 8) + 1)), (0, .ref h), (1, .long (Y 1)), (3, .int (X 3)), (4, .long (Y 4)), (6, .long (Y 6)), (9, .int (X 9))]) hx hb d_A_consume_77 hl rfl (wk_inc (by decide)) (by decide) rfl (fun ls hl => ?_)
    have hl : lv_has ls 10 [(8, .int ((X 8) + 1)), (0, .ref h), (1, .long (Y 1)), (3, .int (X 3)), (4, .long (Y 4)), (6, .long (Y 6)), (9, .int (X 9))] := hl
    refine lv_goto (tgt := 9) hx hb d_A_consume_80 (by decide) ?_
    exact hrc9 I A L (upd X 8 ((X 8) + 1)) Y _ _ _ hf (lv_sub hl [1, 2, 3, 4, 5, 0] rfl) hP hD hS
  have stp9 : ∀ (rc : Nat → MI → MA → ML → (Nat → Int32) → (Nat → Int64) → Option (Int64 × MI × MA × ML)) (hrc9 : ∀ (I : MI) (A : MA) (L : ML) (X : Nat → Int32) (Y : Nat → Int64) (ls : Array Slot) (H : Heap) (locs : List Loc), rc 9 I A L X Y = some (r, I', A', L') → lv_has ls 10 [(0, .ref h), (1, .long (Y 1)), (3, .int (X 3)), (4, .long (Y 4)), (6, .long (Y 6)), (8, .int (X 8))] → va_P (dC, dI) vwCl (aw_W h q g I A L) H → va_D B9 (aw_W h q g I A L) → va_S B9 s.heap H locs → W p l e (headSpec w_A_consume ({ frames := 2, cells := 0, slots := 0, locals := 43 })).room s m ([.ref h, .long k1, .int k3] : List Value).toArray below meth c H locs 0 0 (MQ below (va_Ql (fun (r9 : Int64) (_ : Unit) => r9 = r) (fun (_ : Unit) t => va_P (dC, dI) vwCl (aw_W h q g I' A' L') t.heap ∧ va_K (dC, dI) vwCl (aw_T h q g) t ∧ va_D B9 (aw_W h q g I' A' L')) B9) ([.ref h, .long k1, .int k3] : List Value).toArray s 0 0 B9) (F0 m 9 ls [])), ∀ (I : MI) (A : MA) (L : ML) (X : Nat → Int32) (Y : Nat → Int64) (ls : Array Slot) (H : Heap) (locs : List Loc), f_A_consume_9 rc I A L X Y = some (r, I', A', L') → lv_has ls 10 [(0, .ref h), (1, .long (Y 1)), (3, .int (X 3)), (4, .long (Y 4)), (6, .long (Y 6)), (8, .int (X 8))] → va_P (dC, dI) vwCl (aw_W h q g I A L) H → va_D B9 (aw_W h q g I A L) → va_S B9 s.heap H locs → W p l e (headSpec w_A_consume ({ frames := 2, cells := 0, slots := 0, locals := 43 })).room s m ([.ref h, .long k1, .int k3] : List Value).toArray below meth c H locs 0 0 (MQ below (va_Ql (fun (r9 : Int64) (_ : Unit) => r9 = r) (fun (_ : Unit) t => va_P (dC, dI) vwCl (aw_W h q g I' A' L') t.heap ∧ va_K (dC, dI) vwCl (aw_T h q g) t ∧ va_D B9 (aw_W h q g I' A' L')) B9) ([.ref h, .long k1, .int k3] : List Value).toArray s 0 0 B9) (F0 m 9 ls []) := by
    intro rc hrc9 I A L X Y ls H locs hf hl hP hD hS
    unfold f_A_consume_9 at hf
    refine lv_iload hx hb d_A_consume_9 (lv_at hl 5 rfl) ?_
    refine lv_aload_n hx hb d_A_consume_11 rfl (lv_at hl 0 rfl) ?_
    refine va_get (D := (dC, dI)) (ci := 3) (v := .int (I 5)) (C := R_A) (T := F_A) (N := 10) hx hb hts (fun w h => List.mem_cons_of_mem _ (in_A w h)) hown hK hP 0 rfl rfl 5 (by decide) (hts _ (List.mem_cons_of_mem _ lk_259)) (fun _ h9 => h9) rfl d_A_consume_12 ?_
    refine lv_icmp_ge (tgt := 83) hx hb d_A_consume_15 (by decide) (fun hc1 => ?_) (fun hc1 => ?_)
    ·
      have hf := wk_ift hc1 hf
      exact blk83 rc hrc9 I A L X Y _ _ _ hf (lv_sub hl [0, 1, 2, 3, 4, 5] rfl) hP hD hS
    ·
      have hf := wk_iff hc1 hf
      refine lv_lload hx hb d_A_consume_18 (lv_at hl 4 rfl) ?_
      refine lv_lconst (v := 0) hx hb d_A_consume_20 (by decide) ?_
      refine W.lcmp hx hb d_A_consume_21 ?_
      refine lv_if_eq (tgt := 83) hx hb d_A_consume_22 (by decide) (fun hc2 => ?_) (fun hc2 => ?_)
      ·
        have hf := wk_ift hc2 hf
        exact blk83 rc hrc9 I A L X Y _ _ _ hf (lv_sub hl [0, 1, 2, 3, 4, 5] rfl) hP hD hS
      ·
        have hf := wk_iff hc2 hf
        refine lv_lload hx hb d_A_consume_25 (lv_at hl 4 rfl) ?_
        have hPc := hP.sub (ws' := []) [] rfl
        have hDc := hD.sub (ws' := []) [] (by decide) rfl
        have hKc := hK.sub (tys' := []) [] rfl
        have hFc := va_free (wc := []) hD hS hA [] rfl
        cases hg1 : f_Jl_numberOfTrailingZeros (Y 6) with
        | none => rw [hg1] at hf; cases hf
        | some z1 =>
          rw [hg1] at hf
          dsimp only [Option.bind_some] at hf
          refine va_calli (va_runS (As := [.long (Y 6)]) (rest := []) ⟨hx, hb, hml, hown, hts⟩ (cm_Jl_numberOfTrailingZeros l dC dI  _  (Y 6) z1  hg1) (va_cwS 1 hts (gd_t lk_266 lk_267 lk_268 lk_265) rfl rfl rfl (by decide +kernel) ⟨Nat.le_of_ble_eq_true rfl, Nat.le_of_ble_eq_true rfl⟩) ⟨fun a U g mk q => by obtain ⟨q0, q1, qP, qK, qD⟩ := q; exact ⟨q0, q1, qP, va_K.moved (u := U) (U := U.calling g mk a) (Vm.Alike.refl U.vm) qK, qD⟩, fun U hU hW => ⟨rfl, by rw [hU], by rw [hU]; exact hPc, va_K.moved hW.alike hKc, hDc.weaken (fun _ _ _ _ => trivial)⟩⟩ rfl rfl hl.1 rfl (lv_room (Nat.le_of_ble_eq_true rfl)) d_A_consume_27 ⟨Nat.le_of_ble_eq_true rfl, Nat.le_of_ble_eq_true rfl⟩) hS (fun q _ h => hFc q h) hFc (fun r9 u t H1 locs ht hvm hw hB hz1 hk1 hS => ?_)
          obtain ⟨hP1, hK1, hD1⟩ := hB
          rw [ht] at hP1
          rw [hw]
          obtain ⟨hP, hD⟩ := va_join (wr := (([0, 1, 2, 3, 4, 5] : List Nat).map (fun i => ((aw_W h q g I A L)).getD i (0, .inr (0, []))))) (w1 := []) hP hD [] [0, 1, 2, 3, 4, 5] rfl rfl (by decide) (by decide) hk1 hFc hP1 hD1
          generalize H1 = H at hP hS ⊢
          have hP := hP.sub (ws' := (aw_W h q g I A L)) [0, 1, 2, 3, 4, 5] rfl
          have hD := hD.sub (ws' := (aw_W h q g I A L)) [0, 1, 2, 3, 4, 5] (by decide) rfl
          refine lv_istore (lv' := [(9, .int z1), (0, .ref h), (1, .long (Y 1)), (3, .int (X 3)), (4, .long (Y 4)), (6, .long (Y 6)), (8, .int (X 8))]) hx hb d_A_consume_30 hl (by decide) rfl (fun ls hl => ?_)
          have hl : lv_has ls 10 [(9, .int z1), (0, .ref h), (1, .long (Y 1)), (3, .int (X 3)), (4, .long (Y 4)), (6, .long (Y 6)), (8, .int (X 8))] := hl
          refine lv_lload hx hb d_A_consume_32 (lv_at hl 5 rfl) ?_
          refine lv_lload hx hb d_A_consume_34 (lv_at hl 5 rfl) ?_
          refine lv_lconst (v := 1) hx hb d_A_consume_36 (by decide) ?_
          refine lv_lsub hx hb d_A_consume_37 ?_
          refine lv_land hx hb d_A_consume_38 ?_
          refine lv_lstore (lv' := [(6, .long ((Y 6) &&& ((Y 6) - 1))), (9, .int z1), (0, .ref h), (1, .long (Y 1)), (3, .int (X 3)), (4, .long (Y 4)), (8, .int (X 8))]) hx hb d_A_consume_39 hl (by decide) rfl (fun ls hl => ?_)
          have hl : lv_has ls 10 [(6, .long ((Y 6) &&& ((Y 6) - 1))), (9, .int z1), (0, .ref h), (1, .long (Y 1)), (3, .int (X 3)), (4, .long (Y 4)), (8, .int (X 8))] := hl
          refine lv_aload_n hx hb d_A_consume_41 rfl (lv_at hl 2 rfl) ?_
          refine va_get (D := (dC, dI)) (ci := 3) (v := .ref (q 0)) (C := R_A) (T := F_A) (N := 10) hx hb hts (fun w h => List.mem_cons_of_mem _ (in_A w h)) hown hK hP 0 rfl rfl 0 (by decide) (hts _ (List.mem_cons_of_mem _ lk_269)) (fun _ h9 => h9) rfl d_A_consume_42 ?_
          refine lv_iload hx hb d_A_consume_45 (lv_at hl 1 rfl) ?_
          obtain ⟨hc3, hf⟩ := wk_if hf
          refine va_iald hx hb hK hP 1 0 rfl rfl (wk_inb_ok hc3) d_A_consume_47 ?_
          refine lv_iconst (v := 1) hx hb d_A_consume_48 (by decide) ?_
          refine lv_icmp_ne (tgt := 77) hx hb d_A_consume_49 (by decide) (fun hc4 => ?_) (fun hc4 => ?_)
          ·
            have hf := wk_iff hc4 hf
            exact blk77 rc hrc9 I A L (upd X 9 z1) (vp_updL Y 6 ((Y 6) &&& ((Y 6) - 1))) _ _ _ hf (lv_sub hl [2, 3, 4, 5, 0, 6, 1] rfl) hP hD hS
          ·
            have hf := wk_ift hc4 hf
            refine lv_aload_n hx hb d_A_consume_52 rfl (lv_at hl 2 rfl) ?_
            refine lv_iload hx hb d_A_consume_53 (lv_at hl 1 rfl) ?_
            refine lv_iload_n hx hb d_A_consume_55 rfl (lv_at hl 4 rfl) ?_
            have hPc := hP.sub (ws' := (aw_W h q g I A L)) [0, 1, 2, 3, 4, 5] rfl
            have hDc := hD.sub (ws' := (aw_W h q g I A L)) [0, 1, 2, 3, 4, 5] (by decide) rfl
            have hKc := hK.sub (tys' := (aw_T h q g)) [0, 1, 2, 3, 4] rfl
            have hFc := va_free (wc := (aw_W h q g I A L)) hD hS hA [0, 1, 2, 3, 4, 5] rfl
            cases hg2 : f_A_takes I A L z1 (X 3) with
            | none => rw [hg2] at hf; cases hf
            | some z2 =>
              obtain ⟨r2, I2, A2, L2⟩ := z2
              rw [hg2] at hf
              dsimp only [Option.bind_some] at hf
              refine va_calli (va_runV (As := [.int z1, .int (X 3)]) (rest := []) ⟨hx, hb, hml, hown, hts⟩ (cm_A_takes l dC dI h q g _  I A L z1 (X 3) r2 I2 A2 L2 hg2) (cwV 2 hts (gd_v lk_288 lk_289 lk_290 lk_274 lk_287) rfl rfl rfl (by decide +kernel) ⟨Nat.le_of_ble_eq_true rfl, Nat.le_of_ble_eq_true rfl⟩) ⟨fun a U g mk q => by obtain ⟨q0, q1, qP, qK, qD⟩ := q; exact ⟨q0, q1, qP, va_K.moved (u := U) (U := U.calling g mk a) (Vm.Alike.refl U.vm) qK, qD⟩, va_recv (ci := 3) (q0 := 0) hK hP rfl rfl, fun U hU hW => ⟨rfl, by rw [hU], by rw [hU]; exact hPc, va_K.moved hW.alike hKc, hDc.weaken (fun _ _ _ _ => trivial)⟩⟩ rfl rfl hl.1 rfl (lv_room (Nat.le_of_ble_eq_true rfl)) d_A_consume_56 ⟨Nat.le_of_ble_eq_true rfl, Nat.le_of_ble_eq_true rfl⟩) hS (fun q _ h => hFc q h) hFc (fun r9 u t H1 locs ht hvm hw hB hz1 hk1 hS => ?_)
              obtain ⟨hP1, hK1, hD1⟩ := hB
              rw [ht] at hP1
              rw [hw]
              obtain ⟨hP, hD⟩ := va_join (wr := (([] : List Nat).map (fun i => ((aw_W h q g I A L)).getD i (0, .inr (0, []))))) (w1 := (aw_W h q g I2 A2 L2)) hP hD [0, 1, 2, 3, 4, 5] [] rfl rfl (by decide) (by decide) hk1 hFc hP1 hD1
              generalize H1 = H at hP hS ⊢
              have hP := hP.sub (ws' := (aw_W h q g I2 A2 L2)) [0, 1, 2, 3, 4, 5] rfl
              have hD := hD.sub (ws' := (aw_W h q g I2 A2 L2)) [0, 1, 2, 3, 4, 5] (by decide) rfl
              refine lv_if_eq (tgt := 77) hx hb d_A_consume_59 (by decide) (fun hc5 => ?_) (fun hc5 => ?_)
              ·
                have hf := wk_ift hc5 hf
                exact blk77 rc hrc9 I2 A2 L2 (upd X 9 z1) (vp_updL Y 6 ((Y 6) &&& ((Y 6) - 1))) _ _ _ hf (lv_sub hl [2, 3, 4, 5, 0, 6, 1] rfl) hP hD hS
              ·
                have hf := wk_iff hc5 hf
                refine lv_lload hx hb d_A_consume_62 (lv_at hl 5 rfl) ?_
                refine lv_aload_n hx hb d_A_consume_64 rfl (lv_at hl 2 rfl) ?_
                refine va_get (D := (dC, dI)) (ci := 3) (v := .ref (q 1)) (C := R_A) (T := F_A) (N := 10) hx hb hts (fun w h => List.mem_cons_of_mem _ (in_A w h)) hown hK hP 0 rfl rfl 1 (by decide) (hts _ (List.mem_cons_of_mem _ lk_270)) (fun _ h9 => h9) rfl d_A_consume_65 ?_
                refine lv_iload hx hb d_A_consume_68 (lv_at hl 1 rfl) ?_
                obtain ⟨hc6, hf⟩ := wk_if hf
                refine va_iald hx hb hK hP 2 1 rfl rfl (wk_inb_ok hc6) d_A_consume_70 ?_
                have hPc := hP.sub (ws' := []) [] rfl
                have hDc := hD.sub (ws' := []) [] (by decide) rfl
                have hKc := hK.sub (tys' := []) [] rfl
                have hFc := va_free (wc := []) hD hS hA [] rfl
                cases hg3 : f_A_asSet (A2 1 (z1).toNatClampNeg) with
                | none => rw [hg3] at hf; cases hf
                | some z3 =>
                  rw [hg3] at hf
                  dsimp only [Option.bind_some] at hf
                  refine va_calll (va_runS (As := [.int (A2 1 (z1).toNatClampNeg)]) (rest := [.long (Y 4)]) ⟨hx, hb, hml, hown, hts⟩ (cm_A_asSet l dC dI  _  (A2 1 (z1).toNatClampNeg) z3  hg3) (va_cwS 1 hts (gd_t lk_272 lk_273 lk_274 lk_271) rfl rfl rfl (by decide +kernel) ⟨Nat.le_of_ble_eq_true rfl, Nat.le_of_ble_eq_true rfl⟩) ⟨fun a U g mk q => by obtain ⟨q0, q1, qP, qK, qD⟩ := q; exact ⟨q0, q1, qP, va_K.moved (u := U) (U := U.calling g mk a) (Vm.Alike.refl U.vm) qK, qD⟩, fun U hU hW => ⟨rfl, by rw [hU], by rw [hU]; exact hPc, va_K.moved hW.alike hKc, hDc.weaken (fun _ _ _ _ => trivial)⟩⟩ rfl rfl hl.1 rfl (lv_room (Nat.le_of_ble_eq_true rfl)) d_A_consume_71 ⟨Nat.le_of_ble_eq_true rfl, Nat.le_of_ble_eq_true rfl⟩) hS (fun q _ h => hFc q h) hFc (fun r9 u t H1 locs ht hvm hw hB hz1 hk1 hS => ?_)
                  obtain ⟨hP1, hK1, hD1⟩ := hB
                  rw [ht] at hP1
                  rw [hw]
                  obtain ⟨hP, hD⟩ := va_join (wr := (([0, 1, 2, 3, 4, 5] : List Nat).map (fun i => ((aw_W h q g I2 A2 L2)).getD i (0, .inr (0, []))))) (w1 := []) hP hD [] [0, 1, 2, 3, 4, 5] rfl rfl (by decide) (by decide) hk1 hFc hP1 hD1
                  generalize H1 = H at hP hS ⊢
                  have hP := hP.sub (ws' := (aw_W h q g I2 A2 L2)) [0, 1, 2, 3, 4, 5] rfl
                  have hD := hD.sub (ws' := (aw_W h q g I2 A2 L2)) [0, 1, 2, 3, 4, 5] (by decide) rfl
                  refine lv_lor hx hb d_A_consume_74 ?_
                  refine lv_lstore (lv' := [(4, .long ((Y 4) ||| z3)), (6, .long ((Y 6) &&& ((Y 6) - 1))), (9, .int z1), (0, .ref h), (1, .long (Y 1)), (3, .int (X 3)), (8, .int (X 8))]) hx hb d_A_consume_75 hl (by decide) rfl (fun ls hl => ?_)
                  have hl : lv_has ls 10 [(4, .long ((Y 4) ||| z3)), (6, .long ((Y 6) &&& ((Y 6) - 1))), (9, .int z1), (0, .ref h), (1, .long (Y 1)), (3, .int (X 3)), (8, .int (X 8))] := hl
                  exact blk77 rc hrc9 I2 A2 L2 (upd X 9 z1) (vp_updL (vp_updL Y 4 ((Y 4) ||| z3)) 6 ((Y 6) &&& ((Y 6) - 1))) _ _ _ hf (lv_sub hl [3, 4, 5, 0, 1, 6, 2] rfl) hP hD hS
  have key : ∀ n : Nat, (∀ (I : MI) (A : MA) (L : ML) (X : Nat → Int32) (Y : Nat → Int64) (ls : Array Slot) (H : Heap) (locs : List Loc), f_A_consume_go n 9 I A L X Y = some (r, I', A', L') → lv_has ls 10 [(0, .ref h), (1, .long (Y 1)), (3, .int (X 3)), (4, .long (Y 4)), (6, .long (Y 6)), (8, .int (X 8))] → va_P (dC, dI) vwCl (aw_W h q g I A L) H → va_D B9 (aw_W h q g I A L) → va_S B9 s.heap H locs → W p l e (headSpec w_A_consume ({ frames := 2, cells := 0, slots := 0, locals := 43 })).room s m ([.ref h, .long k1, .int k3] : List Value).toArray below meth c H locs 0 0 (MQ below (va_Ql (fun (r9 : Int64) (_ : Unit) => r9 = r) (fun (_ : Unit) t => va_P (dC, dI) vwCl (aw_W h q g I' A' L') t.heap ∧ va_K (dC, dI) vwCl (aw_T h q g) t ∧ va_D B9 (aw_W h q g I' A' L')) B9) ([.ref h, .long k1, .int k3] : List Value).toArray s 0 0 B9) (F0 m 9 ls [])) := by
    intro n
    induction n with
    | zero => exact fun I A L X Y ls H locs hf => (by cases hf)
    | succ n ih =>
      have ih9 := ih
      exact stp9 (f_A_consume_go n) ih9
  unfold f_A_consume f_A_consume_e at hf
  have hrc9 := key wk_FUEL
  refine lv_lconst (v := 0) hx hb d_A_consume_0 (by decide) ?_
  refine lv_lstore (lv' := [(4, .long 0), (0, .ref h), (1, .long k1), (3, .int k3)]) hx hb d_A_consume_1 hl (by decide) rfl (fun ls hl => ?_)
  have hl : lv_has ls 10 [(4, .long 0), (0, .ref h), (1, .long k1), (3, .int k3)] := hl
  refine lv_lload_n hx hb d_A_consume_3 rfl (lv_at hl 2 rfl) ?_
  refine lv_lstore (lv' := [(6, .long k1), (4, .long 0), (0, .ref h), (1, .long k1), (3, .int k3)]) hx hb d_A_consume_4 hl (by decide) rfl (fun ls hl => ?_)
  have hl : lv_has ls 10 [(6, .long k1), (4, .long 0), (0, .ref h), (1, .long k1), (3, .int k3)] := hl
  refine lv_iconst (v := 0) hx hb d_A_consume_6 (by decide) ?_
  refine lv_istore (lv' := [(8, .int 0), (6, .long k1), (4, .long 0), (0, .ref h), (1, .long k1), (3, .int k3)]) hx hb d_A_consume_7 hl (by decide) rfl (fun ls hl => ?_)
  have hl : lv_has ls 10 [(8, .int 0), (6, .long k1), (4, .long 0), (0, .ref h), (1, .long k1), (3, .int k3)] := hl
  exact hrc9 I A L (upd (upd (fun _ => 0) 3 k3) 8 0) (vp_updL (vp_updL (vp_updL (fun _ => 0) 1 k1) 4 0) 6 k1) _ _ _ hf (lv_sub hl [3, 4, 5, 2, 1, 0] rfl) hP hD hS

set_option maxHeartbeats 8000000 in
set_option maxRecDepth 100000 in
theorem cm_A_longestFit (l : Launch) (dC : Nat → ClassId) (dI : Nat → Nat → Nat) (h : Nat) (q : Nat → Nat) (g : Nat → ClassId) (tq : Nat) (tg : ClassId) (tn : Nat) (tx : Nat → Int32) (sz : Nat) (I : MI) (A : MA) (L : ML) (k2 : Int32) (r : Int32) (I' : MI) (A' : MA) (L' : ML) (hf : f_A_longestFit tn tx I A L  k2 = some (r, I', A', L')) : Met l y_A_longestFit w_A_longestFit ({ frames := 3, cells := 0, slots := 0, locals := 77 }) (va_Pc [.ref h, .ref tq, .int k2] (fun U => U.heap.size = sz ∧ va_P (dC, dI) vwCl (at_W h q g tq tg tn tx I A L) U.heap ∧ va_K (dC, dI) vwCl (at_T h q g tq tg tn tx) U ∧ va_D (fun _ => True) (at_W h q g tq tg tn tx I A L))) (va_Qi (fun (r9 : Int32) (_ : Unit) => r9 = r) (fun (_ : Unit) t => va_P (dC, dI) vwCl (at_W h q g tq tg tn tx I' A' L') t.heap ∧ va_K (dC, dI) vwCl (at_T h q g tq tg tn tx) t ∧ va_D (va_A (at_W h q g tq tg tn tx I A L) sz) (at_W h q g tq tg tn tx I' A' L')) (va_A (at_W h q g tq tg tn tx I A L) sz)) 0 0 (va_A (at_W h q g tq tg tn tx I A L) sz) := by
  refine Met.ofW (cc := prog_2_method_6_code) (maxL := 7) (ret := (some .int)) (by decide) rfl ?_
  intro p e s m args below meth c s₁ B hml hv
  obtain ⟨rfl, hsz, hP, hK, hD0⟩ := hv
  have hx := B.exec
  have hb := B.bytes
  have hr := B.returns
  have hts := atoms_spec (ws := w_A_longestFit) B.pre
  have hown : s.vm.findClass "DraftTree$Automaton" = some m.cls := findClass_of_methodNamed B.named
  have hlocks := B.notSynchronized
  subst hsz
  have hD := hD0.self (sz := s.heap.size)
  generalize hAe : va_A (at_W h q g tq tg tn tx I A L) s.heap.size = B9 at hD ⊢
  have hA : ∀ q : Nat, s.heap.size ≤ q → B9 q := fun q h => by rw [← hAe]; exact Or.inr h
  clear hAe
  have hS : va_S B9 s.heap s.heap [] := va_S.rf
  have hl := lv_entry ([.ref h, .ref tq, .int k2]) (n := 7) (Nat.le_of_ble_eq_true rfl)
  rw [lg_entry_eq]
  generalize (lg_sl ([.ref h, .ref tq, .int k2]) ++ List.replicate (7 - (lg_sl ([.ref h, .ref tq, .int k2])).length) Slot.unset).toArray = ls at hl ⊢
  have hl : lv_has ls 7 [(0, .ref h), (1, .ref tq), (2, .int k2)] := hl
  have blk79 : ∀ (rc : Nat → MI → MA → ML → (Nat → Int32) → (Nat → Int64) → Option (Int32 × MI × MA × ML)) (hrc19 : ∀ (I : MI) (A : MA) (L : ML) (X : Nat → Int32) (Y : Nat → Int64) (ls : Array Slot) (H : Heap) (locs : List Loc), rc 19 I A L X Y = some (r, I', A', L') → lv_has ls 7 [(0, .ref h), (1, .ref tq), (2, .int (X 2)), (3, .int (X 3)), (4, .long (Y 4)), (6, .int (X 6))] → va_P (dC, dI) vwCl (at_W h q g tq tg tn tx I A L) H → va_D B9 (at_W h q g tq tg tn tx I A L) → va_S B9 s.heap H locs → W p l e (headSpec w_A_longestFit ({ frames := 3, cells := 0, slots := 0, locals := 77 })).room s m ([.ref h, .ref tq, .int k2] : List Value).toArray below meth c H locs 0 0 (MQ below (va_Qi (fun (r9 : Int32) (_ : Unit) => r9 = r) (fun (_ : Unit) t => va_P (dC, dI) vwCl (at_W h q g tq tg tn tx I' A' L') t.heap ∧ va_K (dC, dI) vwCl (at_T h q g tq tg tn tx) t ∧ va_D B9 (at_W h q g tq tg tn tx I' A' L')) B9) ([.ref h, .ref tq, .int k2] : List Value).toArray s 0 0 B9) (F0 m 19 ls [])), ∀ (I : MI) (A : MA) (L : ML) (X : Nat → Int32) (Y : Nat → Int64) (ls : Array Slot) (H : Heap) (locs : List Loc), f_A_longestFit_79 tn tx rc I A L X Y = some (r, I', A', L') → lv_has ls 7 [(0, .ref h), (1, .ref tq), (2, .int (X 2)), (3, .int (X 3)), (4, .long (Y 4)), (6, .int (X 6))] → va_P (dC, dI) vwCl (at_W h q g tq tg tn tx I A L) H → va_D B9 (at_W h q g tq tg tn tx I A L) → va_S B9 s.heap H locs → W p l e (headSpec w_A_longestFit ({ frames := 3, cells := 0, slots := 0, locals := 77 })).room s m ([.ref h, .ref tq, .int k2] : List Value).toArray below meth c H locs 0 0 (MQ below (va_Qi (fun (r9 : Int32) (_ : Unit) => r9 = r) (fun (_ : Unit) t => va_P (dC, dI) vwCl (at_W h q g tq tg tn tx I' A' L') t.heap ∧ va_K (dC, dI) vwCl (at_T h q g tq tg tn tx) t ∧ va_D B9 (at_W h q g tq tg tn tx I' A' L')) B9) ([.ref h, .ref tq, .int k2] : List Value).toArray s 0 0 B9) (F0 m 79 ls []) := by
    intro rc hrc19 I A L X Y ls H locs hf hl hP hD hS
    unfold f_A_longestFit_79 at hf
    refine lv_iload_n hx hb d_A_longestFit_79 rfl (lv_at hl 3 rfl) ?_
    obtain ⟨e0, e1, e2, e3⟩ := wk_inj3 hf
    subst e0
    subst e1
    subst e2
    subst e3
    exact W.iret (v := (X 3)) hx hb hr (fun t ht hW => ⟨⟨(X 3), (), rfl, rfl, by rw [ht]; exact hP, va_K.moved hW.alike hK, hD⟩, hS.F ht⟩) hS.2.2 d_A_longestFit_80
  have blk73 : ∀ (rc : Nat → MI → MA → ML → (Nat → Int32) → (Nat → Int64) → Option (Int32 × MI × MA × ML)) (hrc19 : ∀ (I : MI) (A : MA) (L : ML) (X : Nat → Int32) (Y : Nat → Int64) (ls : Array Slot) (H : Heap) (locs : List Loc), rc 19 I A L X Y = some (r, I', A', L') → lv_has ls 7 [(0, .ref h), (1, .ref tq), (2, .int (X 2)), (3, .int (X 3)), (4, .long (Y 4)), (6, .int (X 6))] → va_P (dC, dI) vwCl (at_W h q g tq tg tn tx I A L) H → va_D B9 (at_W h q g tq tg tn tx I A L) → va_S B9 s.heap H locs → W p l e (headSpec w_A_longestFit ({ frames := 3, cells := 0, slots := 0, locals := 77 })).room s m ([.ref h, .ref tq, .int k2] : List Value).toArray below meth c H locs 0 0 (MQ below (va_Qi (fun (r9 : Int32) (_ : Unit) => r9 = r) (fun (_ : Unit) t => va_P (dC, dI) vwCl (at_W h q g tq tg tn tx I' A' L') t.heap ∧ va_K (dC, dI) vwCl (at_T h q g tq tg tn tx) t ∧ va_D B9 (at_W h q g tq tg tn tx I' A' L')) B9) ([.ref h, .ref tq, .int k2] : List Value).toArray s 0 0 B9) (F0 m 19 ls [])), ∀ (I : MI) (A : MA) (L : ML) (X : Nat → Int32) (Y : Nat → Int64) (ls : Array Slot) (H : Heap) (locs : List Loc), f_A_longestFit_73 tn tx rc I A L X Y = some (r, I', A', L') → lv_has ls 7 [(0, .ref h), (1, .ref tq), (2, .int (X 2)), (3, .int (X 3)), (4, .long (Y 4)), (6, .int (X 6))] → va_P (dC, dI) vwCl (at_W h q g tq tg tn tx I A L) H → va_D B9 (at_W h q g tq tg tn tx I A L) → va_S B9 s.heap H locs → W p l e (headSpec w_A_longestFit ({ frames := 3, cells := 0, slots := 0, locals := 77 })).room s m ([.ref h, .ref tq, .int k2] : List Value).toArray below meth c H locs 0 0 (MQ below (va_Qi (fun (r9 : Int32) (_ : Unit) => r9 = r) (fun (_ : Unit) t => va_P (dC, dI) vwCl (at_W h q g tq tg tn tx I' A' L') t.heap ∧ va_K (dC, dI) vwCl (at_T h q g tq tg tn tx) t ∧ va_D B9 (at_W h q g tq tg tn tx I' A' L')) B9) ([.ref h, .ref tq, .int k2] : List Value).toArray s 0 0 B9) (F0 m 73 ls []) := by
    intro rc hrc19 I A L X Y ls H locs hf hl hP hD hS
    unfold f_A_longestFit_73 at hf
    refine lv_iinc (k := 5) (v := ((X 6) + 1)) (lv' := [(6, .int ((X 6) + 1)), (0, .ref h), (1, .ref tq), (2, .int (X 2)), (3, .int (X 3)), (4, .long (Y 4))]) hx hb d_A_longestFit_73 hl rfl (wk_inc (by decide)) (by decide) rfl (fun ls hl => ?_)
    have hl : lv_has ls 7 [(6, .int ((X 6) + 1)), (0, .ref h), (1, .ref tq), (2, .int (X 2)), (3, .int (X 3)), (4, .long (Y 4))] := hl
    refine lv_goto (tgt := 19) hx hb d_A_longestFit_76 (by decide) ?_
    exact hrc19 I A L (upd X 6 ((X 6) + 1)) Y _ _ _ hf (lv_sub hl [1, 2, 3, 4, 5, 0] rfl) hP hD hS
  have stp19 : ∀ (rc : Nat → MI → MA → ML → (Nat → Int32) → (Nat → Int64) → Option (Int32 × MI × MA × ML)) (hrc19 : ∀ (I : MI) (A : MA) (L : ML) (X : Nat → Int32) (Y : Nat → Int64) (ls : Array Slot) (H : Heap) (locs : List Loc), rc 19 I A L X Y = some (r, I', A', L') → lv_has ls 7 [(0, .ref h), (1, .ref tq), (2, .int (X 2)), (3, .int (X 3)), (4, .long (Y 4)), (6, .int (X 6))] → va_P (dC, dI) vwCl (at_W h q g tq tg tn tx I A L) H → va_D B9 (at_W h q g tq tg tn tx I A L) → va_S B9 s.heap H locs → W p l e (headSpec w_A_longestFit ({ frames := 3, cells := 0, slots := 0, locals := 77 })).room s m ([.ref h, .ref tq, .int k2] : List Value).toArray below meth c H locs 0 0 (MQ below (va_Qi (fun (r9 : Int32) (_ : Unit) => r9 = r) (fun (_ : Unit) t => va_P (dC, dI) vwCl (at_W h q g tq tg tn tx I' A' L') t.heap ∧ va_K (dC, dI) vwCl (at_T h q g tq tg tn tx) t ∧ va_D B9 (at_W h q g tq tg tn tx I' A' L')) B9) ([.ref h, .ref tq, .int k2] : List Value).toArray s 0 0 B9) (F0 m 19 ls [])), ∀ (I : MI) (A : MA) (L : ML) (X : Nat → Int32) (Y : Nat → Int64) (ls : Array Slot) (H : Heap) (locs : List Loc), f_A_longestFit_19 tn tx rc I A L X Y = some (r, I', A', L') → lv_has ls 7 [(0, .ref h), (1, .ref tq), (2, .int (X 2)), (3, .int (X 3)), (4, .long (Y 4)), (6, .int (X 6))] → va_P (dC, dI) vwCl (at_W h q g tq tg tn tx I A L) H → va_D B9 (at_W h q g tq tg tn tx I A L) → va_S B9 s.heap H locs → W p l e (headSpec w_A_longestFit ({ frames := 3, cells := 0, slots := 0, locals := 77 })).room s m ([.ref h, .ref tq, .int k2] : List Value).toArray below meth c H locs 0 0 (MQ below (va_Qi (fun (r9 : Int32) (_ : Unit) => r9 = r) (fun (_ : Unit) t => va_P (dC, dI) vwCl (at_W h q g tq tg tn tx I' A' L') t.heap ∧ va_K (dC, dI) vwCl (at_T h q g tq tg tn tx) t ∧ va_D B9 (at_W h q g tq tg tn tx I' A' L')) B9) ([.ref h, .ref tq, .int k2] : List Value).toArray s 0 0 B9) (F0 m 19 ls []) := by
    intro rc hrc19 I A L X Y ls H locs hf hl hP hD hS
    unfold f_A_longestFit_19 at hf
    refine lv_iload hx hb d_A_longestFit_19 (lv_at hl 5 rfl) ?_
    refine lv_aload_n hx hb d_A_longestFit_21 rfl (lv_at hl 1 rfl) ?_
    refine va_alen (v := (Int32.ofNat tn)) hx hb hK hP 6 5 rfl rfl rfl d_A_longestFit_22 ?_
    refine lv_icmp_ge (tgt := 79) hx hb d_A_longestFit_23 (by decide) (fun hc1 => ?_) (fun hc1 => ?_)
    ·
      have hf := wk_ift hc1 hf
      exact blk79 rc hrc19 I A L X Y _ _ _ hf (lv_sub hl [0, 1, 2, 3, 4, 5] rfl) hP hD hS
    ·
      have hf := wk_iff hc1 hf
      refine lv_lload hx hb d_A_longestFit_26 (lv_at hl 4 rfl) ?_
      refine lv_lconst (v := 0) hx hb d_A_longestFit_28 (by decide) ?_
      refine W.lcmp hx hb d_A_longestFit_29 ?_
      refine lv_if_eq (tgt := 79) hx hb d_A_longestFit_30 (by decide) (fun hc2 => ?_) (fun hc2 => ?_)
      ·
        have hf := wk_ift hc2 hf
        exact blk79 rc hrc19 I A L X Y _ _ _ hf (lv_sub hl [0, 1, 2, 3, 4, 5] rfl) hP hD hS
      ·
        have hf := wk_iff hc2 hf
        refine lv_aload_n hx hb d_A_longestFit_33 rfl (lv_at hl 0 rfl) ?_
        refine lv_aload_n hx hb d_A_longestFit_34 rfl (lv_at hl 0 rfl) ?_
        refine lv_lload hx hb d_A_longestFit_35 (lv_at hl 4 rfl) ?_
        refine lv_aload_n hx hb d_A_longestFit_37 rfl (lv_at hl 1 rfl) ?_
        refine lv_iload hx hb d_A_longestFit_38 (lv_at hl 5 rfl) ?_
        obtain ⟨hc3, hf⟩ := wk_if hf
        refine va_cald hx hb hK hP 6 5 rfl rfl (wk_inb_ok hc3) d_A_longestFit_40 ?_
        have hPc := hP.sub (ws' := (aw_W h q g I A L)) [0, 1, 2, 3, 4, 5] rfl
        have hDc := hD.sub (ws' := (aw_W h q g I A L)) [0, 1, 2, 3, 4, 5] (by decide) rfl
        have hKc := hK.sub (tys' := (aw_T h q g)) [0, 1, 2, 3, 4] rfl
        have hFc := va_free (wc := (aw_W h q g I A L)) hD hS hA [0, 1, 2, 3, 4, 5] rfl
        cases hg1 : f_A_consume I A L (Y 4) (tx ((X 6)).toNatClampNeg) with
        | none => rw [hg1] at hf; cases hf
        | some z1 =>
          obtain ⟨r1, I1, A1, L1⟩ := z1
          rw [hg1] at hf
          dsimp only [Option.bind_some] at hf
          refine va_calll (va_runV (As := [.long (Y 4), .int (tx ((X 6)).toNatClampNeg)]) (rest := [.ref h]) ⟨hx, hb, hml, hown, hts⟩ (cm_A_consume l dC dI h q g _  I A L (Y 4) (tx ((X 6)).toNatClampNeg) r1 I1 A1 L1 hg1) (cwV 2 hts (gd_v lk_292 lk_293 lk_294 lk_274 lk_291) rfl rfl rfl (by decide +kernel) ⟨Nat.le_of_ble_eq_true rfl, Nat.le_of_ble_eq_true rfl⟩) ⟨fun a U g mk q => by obtain ⟨q0, q1, qP, qK, qD⟩ := q; exact ⟨q0, q1, qP, va_K.moved (u := U) (U := U.calling g mk a) (Vm.Alike.refl U.vm) qK, qD⟩, va_recv (ci := 3) (q0 := 0) hK hP rfl rfl, fun U hU hW => ⟨rfl, by rw [hU], by rw [hU]; exact hPc, va_K.moved hW.alike hKc, hDc.weaken (fun _ _ _ _ => trivial)⟩⟩ rfl rfl hl.1 rfl (lv_room (Nat.le_of_ble_eq_true rfl)) d_A_longestFit_41 ⟨Nat.le_of_ble_eq_true rfl, Nat.le_of_ble_eq_true rfl⟩) hS (fun q _ h => hFc q h) hFc (fun r9 u t H1 locs ht hvm hw hB hz1 hk1 hS => ?_)
          obtain ⟨hP1, hK1, hD1⟩ := hB
          rw [ht] at hP1
          rw [hw]
          obtain ⟨hP, hD⟩ := va_join (wr := (([6] : List Nat).map (fun i => ((at_W h q g tq tg tn tx I A L)).getD i (0, .inr (0, []))))) (w1 := (aw_W h q g I1 A1 L1)) hP hD [0, 1, 2, 3, 4, 5] [6] rfl rfl (by decide) (by decide) hk1 hFc hP1 hD1
          generalize H1 = H at hP hS ⊢
          have hP := hP.sub (ws' := (at_W h q g tq tg tn tx I1 A1 L1)) [1, 2, 3, 4, 5, 6, 0] rfl
          have hD := hD.sub (ws' := (at_W h q g tq tg tn tx I1 A1 L1)) [1, 2, 3, 4, 5, 6, 0] (by decide) rfl
          refine lv_aload_n hx hb d_A_longestFit_44 rfl (lv_at hl 1 rfl) ?_
          refine lv_iload hx hb d_A_longestFit_45 (lv_at hl 5 rfl) ?_
          refine lv_iconst (v := 1) hx hb d_A_longestFit_47 (by decide) ?_
          refine lv_iadd hx hb d_A_longestFit_48 ?_
          have hPc := hP.sub (ws' := (at_W h q g tq tg tn tx I1 A1 L1)) [0, 1, 2, 3, 4, 5, 6] rfl
          have hDc := hD.sub (ws' := (at_W h q g tq tg tn tx I1 A1 L1)) [0, 1, 2, 3, 4, 5, 6] (by decide) rfl
          have hKc := hK.sub (tys' := (at_T h q g tq tg tn tx)) [0, 1, 2, 3, 4, 5] rfl
          have hFc := va_free (wc := (at_W h q g tq tg tn tx I1 A1 L1)) hD hS hA [0, 1, 2, 3, 4, 5, 6] rfl
          cases hg2 : f_A_spread tn tx I1 A1 L1 r1 ((X 6) + 1) with
          | none => rw [hg2] at hf; cases hf
          | some z2 =>
            obtain ⟨r2, I2, A2, L2⟩ := z2
            rw [hg2] at hf
            dsimp only [Option.bind_some] at hf
            refine va_calll (va_runV (As := [.long r1, .ref tq, .int ((X 6) + 1)]) (rest := []) ⟨hx, hb, hml, hown, hts⟩ (cm_A_spread l dC dI h q g tq tg tn tx _  I1 A1 L1 r1 ((X 6) + 1) r2 I2 A2 L2 hg2) (cwV 3 hts (gd_v lk_282 lk_283 lk_284 lk_274 lk_281) rfl rfl rfl (by decide +kernel) ⟨Nat.le_of_ble_eq_true rfl, Nat.le_of_ble_eq_true rfl⟩) ⟨fun a U g mk q => by obtain ⟨q0, q1, qP, qK, qD⟩ := q; exact ⟨q0, q1, qP, va_K.moved (u := U) (U := U.calling g mk a) (Vm.Alike.refl U.vm) qK, qD⟩, va_recv (ci := 3) (q0 := 0) hK hP rfl rfl, fun U hU hW => ⟨rfl, by rw [hU], by rw [hU]; exact hPc, va_K.moved hW.alike hKc, hDc.weaken (fun _ _ _ _ => trivial)⟩⟩ rfl rfl hl.1 rfl (lv_room (Nat.le_of_ble_eq_true rfl)) d_A_longestFit_49 ⟨Nat.le_of_ble_eq_true rfl, Nat.le_of_ble_eq_true rfl⟩) hS (fun q _ h => hFc q h) hFc (fun r9 u t H1 locs ht hvm hw hB hz1 hk1 hS => ?_)
            obtain ⟨hP1, hK1, hD1⟩ := hB
            rw [ht] at hP1
            rw [hw]
            obtain ⟨hP, hD⟩ := va_join (wr := (([] : List Nat).map (fun i => ((at_W h q g tq tg tn tx I1 A1 L1)).getD i (0, .inr (0, []))))) (w1 := (at_W h q g tq tg tn tx I2 A2 L2)) hP hD [0, 1, 2, 3, 4, 5, 6] [] rfl rfl (by decide) (by decide) hk1 hFc hP1 hD1
            generalize H1 = H at hP hS ⊢
            have hP := hP.sub (ws' := (at_W h q g tq tg tn tx I2 A2 L2)) [0, 1, 2, 3, 4, 5, 6] rfl
            have hD := hD.sub (ws' := (at_W h q g tq tg tn tx I2 A2 L2)) [0, 1, 2, 3, 4, 5, 6] (by decide) rfl
            refine lv_lstore (lv' := [(4, .long r2), (0, .ref h), (1, .ref tq), (2, .int (X 2)), (3, .int (X 3)), (6, .int (X 6))]) hx hb d_A_longestFit_52 hl (by decide) rfl (fun ls hl => ?_)
            have hl : lv_has ls 7 [(4, .long r2), (0, .ref h), (1, .ref tq), (2, .int (X 2)), (3, .int (X 3)), (6, .int (X 6))] := hl
            refine lv_lload hx hb d_A_longestFit_54 (lv_at hl 0 rfl) ?_
            refine lv_lconst (v := 1) hx hb d_A_longestFit_56 (by decide) ?_
            refine lv_aload_n hx hb d_A_longestFit_57 rfl (lv_at hl 1 rfl) ?_
            refine va_get (D := (dC, dI)) (ci := 3) (v := .int (I2 7)) (C := R_A) (T := F_A) (N := 10) hx hb hts (fun w h => List.mem_cons_of_mem _ (in_A w h)) hown hK hP 0 rfl rfl 7 (by decide) (hts _ (List.mem_cons_of_mem _ lk_295)) (fun _ h9 => h9) rfl d_A_longestFit_58 ?_
            refine lv_lshl hx hb d_A_longestFit_61 rfl ?_
            refine lv_land hx hb d_A_longestFit_62 ?_
            refine lv_lconst (v := 0) hx hb d_A_longestFit_63 (by decide) ?_
            refine W.lcmp hx hb d_A_longestFit_64 ?_
            refine lv_if_eq (tgt := 73) hx hb d_A_longestFit_65 (by decide) (fun hc4 => ?_) (fun hc4 => ?_)
            ·
              have hf := wk_ift hc4 hf
              exact blk73 rc hrc19 I2 A2 L2 X (vp_updL Y 4 r2) _ _ _ hf (lv_sub hl [1, 2, 3, 4, 0, 5] rfl) hP hD hS
            ·
              have hf := wk_iff hc4 hf
              refine lv_iload hx hb d_A_longestFit_68 (lv_at hl 5 rfl) ?_
              refine lv_iconst (v := 1) hx hb d_A_longestFit_70 (by decide) ?_
              refine lv_iadd hx hb d_A_longestFit_71 ?_
              refine lv_istore_n (lv' := [(3, .int ((X 6) + 1)), (4, .long r2), (0, .ref h), (1, .ref tq), (2, .int (X 2)), (6, .int (X 6))]) hx hb d_A_longestFit_72 rfl hl (by decide) rfl (fun ls hl => ?_)
              have hl : lv_has ls 7 [(3, .int ((X 6) + 1)), (4, .long r2), (0, .ref h), (1, .ref tq), (2, .int (X 2)), (6, .int (X 6))] := hl
              exact blk73 rc hrc19 I2 A2 L2 (upd X 3 ((X 6) + 1)) (vp_updL Y 4 r2) _ _ _ hf (lv_sub hl [2, 3, 4, 0, 1, 5] rfl) hP hD hS
  have key : ∀ n : Nat, (∀ (I : MI) (A : MA) (L : ML) (X : Nat → Int32) (Y : Nat → Int64) (ls : Array Slot) (H : Heap) (locs : List Loc), f_A_longestFit_go tn tx n 19 I A L X Y = some (r, I', A', L') → lv_has ls 7 [(0, .ref h), (1, .ref tq), (2, .int (X 2)), (3, .int (X 3)), (4, .long (Y 4)), (6, .int (X 6))] → va_P (dC, dI) vwCl (at_W h q g tq tg tn tx I A L) H → va_D B9 (at_W h q g tq tg tn tx I A L) → va_S B9 s.heap H locs → W p l e (headSpec w_A_longestFit ({ frames := 3, cells := 0, slots := 0, locals := 77 })).room s m ([.ref h, .ref tq, .int k2] : List Value).toArray below meth c H locs 0 0 (MQ below (va_Qi (fun (r9 : Int32) (_ : Unit) => r9 = r) (fun (_ : Unit) t => va_P (dC, dI) vwCl (at_W h q g tq tg tn tx I' A' L') t.heap ∧ va_K (dC, dI) vwCl (at_T h q g tq tg tn tx) t ∧ va_D B9 (at_W h q g tq tg tn tx I' A' L')) B9) ([.ref h, .ref tq, .int k2] : List Value).toArray s 0 0 B9) (F0 m 19 ls [])) := by
    intro n
    induction n with
    | zero => exact fun I A L X Y ls H locs hf => (by cases hf)
    | succ n ih =>
      have ih19 := ih
      exact stp19 (f_A_longestFit_go tn tx n) ih19
  unfold f_A_longestFit f_A_longestFit_e at hf
  have hrc19 := key wk_FUEL
  refine lv_iconst (v := (-1)) hx hb d_A_longestFit_0 (by decide) ?_
  refine lv_istore_n (lv' := [(3, .int (-1)), (0, .ref h), (1, .ref tq), (2, .int k2)]) hx hb d_A_longestFit_1 rfl hl (by decide) rfl (fun ls hl => ?_)
  have hl : lv_has ls 7 [(3, .int (-1)), (0, .ref h), (1, .ref tq), (2, .int k2)] := hl
  refine lv_aload_n hx hb d_A_longestFit_2 rfl (lv_at hl 1 rfl) ?_
  refine lv_lconst (v := 1) hx hb d_A_longestFit_3 (by decide) ?_
  refine lv_aload_n hx hb d_A_longestFit_4 rfl (lv_at hl 1 rfl) ?_
  refine va_get (D := (dC, dI)) (ci := 3) (v := .int (I 6)) (C := R_A) (T := F_A) (N := 10) hx hb hts (fun w h => List.mem_cons_of_mem _ (in_A w h)) hown hK hP 0 rfl rfl 6 (by decide) (hts _ (List.mem_cons_of_mem _ lk_258)) (fun _ h9 => h9) rfl d_A_longestFit_5 ?_
  refine lv_lshl hx hb d_A_longestFit_8 rfl ?_
  refine lv_aload_n hx hb d_A_longestFit_9 rfl (lv_at hl 2 rfl) ?_
  refine lv_iload_n hx hb d_A_longestFit_10 rfl (lv_at hl 3 rfl) ?_
  have hPc := hP.sub (ws' := (at_W h q g tq tg tn tx I A L)) [0, 1, 2, 3, 4, 5, 6] rfl
  have hDc := hD.sub (ws' := (at_W h q g tq tg tn tx I A L)) [0, 1, 2, 3, 4, 5, 6] (by decide) rfl
  have hKc := hK.sub (tys' := (at_T h q g tq tg tn tx)) [0, 1, 2, 3, 4, 5] rfl
  have hFc := va_free (wc := (at_W h q g tq tg tn tx I A L)) hD hS hA [0, 1, 2, 3, 4, 5, 6] rfl
  cases hg1 : f_A_spread tn tx I A L ((1 : Int64) <<< (((I 6)).toInt64 &&& 63)) k2 with
  | none => rw [hg1] at hf; cases hf
  | some z1 =>
    obtain ⟨r1, I1, A1, L1⟩ := z1
    rw [hg1] at hf
    dsimp only [Option.bind_some] at hf
    refine va_calll (va_runV (As := [.long ((1 : Int64) <<< (((I 6)).toInt64 &&& 63)), .ref tq, .int k2]) (rest := []) ⟨hx, hb, hml, hown, hts⟩ (cm_A_spread l dC dI h q g tq tg tn tx _  I A L ((1 : Int64) <<< (((I 6)).toInt64 &&& 63)) k2 r1 I1 A1 L1 hg1) (cwV 3 hts (gd_v lk_282 lk_283 lk_284 lk_274 lk_281) rfl rfl rfl (by decide +kernel) ⟨Nat.le_of_ble_eq_true rfl, Nat.le_of_ble_eq_true rfl⟩) ⟨fun a U g mk q => by obtain ⟨q0, q1, qP, qK, qD⟩ := q; exact ⟨q0, q1, qP, va_K.moved (u := U) (U := U.calling g mk a) (Vm.Alike.refl U.vm) qK, qD⟩, va_recv (ci := 3) (q0 := 0) hK hP rfl rfl, fun U hU hW => ⟨rfl, by rw [hU], by rw [hU]; exact hPc, va_K.moved hW.alike hKc, hDc.weaken (fun _ _ _ _ => trivial)⟩⟩ rfl rfl hl.1 rfl (lv_room (Nat.le_of_ble_eq_true rfl)) d_A_longestFit_11 ⟨Nat.le_of_ble_eq_true rfl, Nat.le_of_ble_eq_true rfl⟩) hS (fun q _ h => hFc q h) hFc (fun r9 u t H1 locs ht hvm hw hB hz1 hk1 hS => ?_)
    obtain ⟨hP1, hK1, hD1⟩ := hB
    rw [ht] at hP1
    rw [hw]
    obtain ⟨hP, hD⟩ := va_join (wr := (([] : List Nat).map (fun i => ((at_W h q g tq tg tn tx I A L)).getD i (0, .inr (0, []))))) (w1 := (at_W h q g tq tg tn tx I1 A1 L1)) hP hD [0, 1, 2, 3, 4, 5, 6] [] rfl rfl (by decide) (by decide) hk1 hFc hP1 hD1
    generalize H1 = H at hP hS ⊢
    have hP := hP.sub (ws' := (at_W h q g tq tg tn tx I1 A1 L1)) [0, 1, 2, 3, 4, 5, 6] rfl
    have hD := hD.sub (ws' := (at_W h q g tq tg tn tx I1 A1 L1)) [0, 1, 2, 3, 4, 5, 6] (by decide) rfl
    refine lv_lstore (lv' := [(4, .long r1), (3, .int (-1)), (0, .ref h), (1, .ref tq), (2, .int k2)]) hx hb d_A_longestFit_14 hl (by decide) rfl (fun ls hl => ?_)
    have hl : lv_has ls 7 [(4, .long r1), (3, .int (-1)), (0, .ref h), (1, .ref tq), (2, .int k2)] := hl
    refine lv_iload_n hx hb d_A_longestFit_16 rfl (lv_at hl 4 rfl) ?_
    refine lv_istore (lv' := [(6, .int k2), (4, .long r1), (3, .int (-1)), (0, .ref h), (1, .ref tq), (2, .int k2)]) hx hb d_A_longestFit_17 hl (by decide) rfl (fun ls hl => ?_)
    have hl : lv_has ls 7 [(6, .int k2), (4, .long r1), (3, .int (-1)), (0, .ref h), (1, .ref tq), (2, .int k2)] := hl
    exact hrc19 I1 A1 L1 (upd (upd (upd (fun _ => 0) 2 k2) 3 (-1)) 6 k2) (vp_updL (fun _ => 0) 4 r1) _ _ _ hf (lv_sub hl [3, 4, 5, 2, 1, 0] rfl) hP hD hS

-- 18.ccon02
set_option maxHeartbeats 8000000 in
set_option maxRecDepth 100000 in
theorem cm_A_seek (l : Launch) (dC : Nat → ClassId) (dI : Nat → Nat → Nat) (h : Nat) (q : Nat → Nat) (g : Nat → ClassId) (tq : Nat) (tg : ClassId) (tn : Nat) (tx : Nat → Int32) (sz : Nat) (I : MI) (A : MA) (L : ML) (k2 : Int32) (r : Int32) (I' : MI) (A' : MA) (L' : ML) (hf : f_A_seek tn tx I A L  k2 = some (r, I', A', L')) : Met l y_A_seek w_A_seek ({ frames := 4, cells := 0, slots := 0, locals := 103 }) (va_Pc [.ref h, .ref tq, .int k2] (fun U => U.heap.size = sz ∧ va_P (dC, dI) vwCl (at_W h q g tq tg tn tx I A L) U.heap ∧ va_K (dC, dI) vwCl (at_T h q g tq tg tn tx) U ∧ va_D (fun _ => True) (at_W h q g tq tg tn tx I A L))) (va_Qi (fun (r9 : Int32) (_ : Unit) => r9 = r) (fun (_ : Unit) t => va_P (dC, dI) vwCl (at_W h q g tq tg tn tx I' A' L') t.heap ∧ va_K (dC, dI) vwCl (at_T h q g tq tg tn tx) t ∧ va_D (va_A (at_W h q g tq tg tn tx I A L) sz) (at_W h q g tq tg tn tx I' A' L')) (va_A (at_W h q g tq tg tn tx I A L) sz)) 0 0 (va_A (at_W h q g tq tg tn tx I A L) sz) := by
  refine Met.ofW (cc := prog_2_method_5_code) (maxL := 5) (ret := (some .boolean)) (by decide) rfl ?_
  intro p e s m args below meth c s₁ B hml hv
  obtain ⟨rfl, hsz, hP, hK, hD0⟩ := hv
  have hx := B.exec
  have hb := B.bytes
  have hr := B.returns
  have hts := atoms_spec (ws := w_A_seek) B.pre
  have hown : s.vm.findClass "DraftTree$Automaton" = some m.cls := findClass_of_methodNamed B.named
  have hlocks := B.notSynchronized
  subst hsz
  have hD := hD0.self (sz := s.heap.size)
  generalize hAe : va_A (at_W h q g tq tg tn tx I A L) s.heap.size = B9 at hD ⊢
  have hA : ∀ q : Nat, s.heap.size ≤ q → B9 q := fun q h => by rw [← hAe]; exact Or.inr h
  clear hAe
  have hS : va_S B9 s.heap s.heap [] := va_S.rf
  have hl := lv_entry ([.ref h, .ref tq, .int k2]) (n := 5) (Nat.le_of_ble_eq_true rfl)
  rw [lg_entry_eq]
  generalize (lg_sl ([.ref h, .ref tq, .int k2]) ++ List.replicate (5 - (lg_sl ([.ref h, .ref tq, .int k2])).length) Slot.unset).toArray = ls at hl ⊢
  have hl : lv_has ls 5 [(0, .ref h), (1, .ref tq), (2, .int k2)] := hl
  have stp2 : ∀ (rc : Nat → MI → MA → ML → (Nat → Int32) → (Nat → Int64) → Option (Int32 × MI × MA × ML)) (hrc2 : ∀ (I : MI) (A : MA) (L : ML) (X : Nat → Int32) (Y : Nat → Int64) (ls : Array Slot) (H : Heap) (locs : List Loc), rc 2 I A L X Y = some (r, I', A', L') → lv_has ls 5 [(0, .ref h), (1, .ref tq), (2, .int (X 2)), (3, .int (X 3))] → va_P (dC, dI) vwCl (at_W h q g tq tg tn tx I A L) H → va_D B9 (at_W h q g tq tg tn tx I A L) → va_S B9 s.heap H locs → W p l e (headSpec w_A_seek ({ frames := 4, cells := 0, slots := 0, locals := 103 })).room s m ([.ref h, .ref tq, .int k2] : List Value).toArray below meth c H locs 0 0 (MQ below (va_Qi (fun (r9 : Int32) (_ : Unit) => r9 = r) (fun (_ : Unit) t => va_P (dC, dI) vwCl (at_W h q g tq tg tn tx I' A' L') t.heap ∧ va_K (dC, dI) vwCl (at_T h q g tq tg tn tx) t ∧ va_D B9 (at_W h q g tq tg tn tx I' A' L')) B9) ([.ref h, .ref tq, .int k2] : List Value).toArray s 0 0 B9) (F0 m 2 ls [])), ∀ (I : MI) (A : MA) (L : ML) (X : Nat → Int32) (Y : Nat → Int64) (ls : Array Slot) (H : Heap) (locs : List Loc), f_A_seek_2 tn tx rc I A L X Y = some (r, I', A', L') → lv_has ls 5 [(0, .ref h), (1, .ref tq), (2, .int (X 2)), (3, .int (X 3))] → va_P (dC, dI) vwCl (at_W h q g tq tg tn tx I A L) H → va_D B9 (at_W h q g tq tg tn tx I A L) → va_S B9 s.heap H locs → W p l e (headSpec w_A_seek ({ frames := 4, cells := 0, slots := 0, locals := 103 })).room s m ([.ref h, .ref tq, .int k2] : List Value).toArray below meth c H locs 0 0 (MQ below (va_Qi (fun (r9 : Int32) (_ : Unit) => r9 = r) (fun (_ : Unit) t => va_P (dC, dI) vwCl (at_W h q g tq tg tn tx I' A' L') t.heap ∧ va_K (dC, dI) vwCl (at_T h q g tq tg tn tx) t ∧ va_D B9 (at_W h q g tq tg tn tx I' A' L')) B9) ([.ref h, .ref tq, .int k2] : List Value).toArray s 0 0 B9) (F0 m 2 ls []) := by
    intro rc hrc2 I A L X Y ls H locs hf hl hP hD hS
    unfold f_A_seek_2 at hf
    refine lv_iload_n hx hb d_A_seek_2 rfl (lv_at hl 3 rfl) ?_
    refine lv_aload_n hx hb d_A_seek_3 rfl (lv_at hl 1 rfl) ?_
    refine va_alen (v := (Int32.ofNat tn)) hx hb hK hP 6 5 rfl rfl rfl d_A_seek_4 ?_
    refine lv_icmp_ge (tgt := 41) hx hb d_A_seek_5 (by decide) (fun hc1 => ?_) (fun hc1 => ?_)
    ·
      have hf := wk_ift hc1 hf
      refine lv_iconst (v := 0) hx hb d_A_seek_41 (by decide) ?_
      obtain ⟨e0, e1, e2, e3⟩ := wk_inj3 hf
      subst e0
      subst e1
      subst e2
      subst e3
      exact W.zret (v := 0) hx hb hr rfl (fun t ht hW => ⟨⟨0, (), rfl, rfl, by rw [ht]; exact hP, va_K.moved hW.alike hK, hD⟩, hS.F ht⟩) hS.2.2 d_A_seek_42
    ·
      have hf := wk_iff hc1 hf
      refine lv_aload_n hx hb d_A_seek_8 rfl (lv_at hl 0 rfl) ?_
      refine lv_aload_n hx hb d_A_seek_9 rfl (lv_at hl 1 rfl) ?_
      refine lv_iload_n hx hb d_A_seek_10 rfl (lv_at hl 3 rfl) ?_
      have hPc := hP.sub (ws' := (at_W h q g tq tg tn tx I A L)) [0, 1, 2, 3, 4, 5, 6] rfl
      have hDc := hD.sub (ws' := (at_W h q g tq tg tn tx I A L)) [0, 1, 2, 3, 4, 5, 6] (by decide) rfl
      have hKc := hK.sub (tys' := (at_T h q g tq tg tn tx)) [0, 1, 2, 3, 4, 5] rfl
      have hFc := va_free (wc := (at_W h q g tq tg tn tx I A L)) hD hS hA [0, 1, 2, 3, 4, 5, 6] rfl
      cases hg1 : f_A_longestFit tn tx I A L (X 3) with
      | none => rw [hg1] at hf; cases hf
      | some z1 =>
        obtain ⟨r1, I1, A1, L1⟩ := z1
        rw [hg1] at hf
        dsimp only [Option.bind_some] at hf
        refine va_calli (va_runV (As := [.ref tq, .int (X 3)]) (rest := []) ⟨hx, hb, hml, hown, hts⟩ (cm_A_longestFit l dC dI h q g tq tg tn tx _  I A L (X 3) r1 I1 A1 L1 hg1) (cwV 2 hts (gd_v lk_297 lk_298 lk_299 lk_274 lk_296) rfl rfl rfl (by decide +kernel) ⟨Nat.le_of_ble_eq_true rfl, Nat.le_of_ble_eq_true rfl⟩) ⟨fun a U g mk q => by obtain ⟨q0, q1, qP, qK, qD⟩ := q; exact ⟨q0, q1, qP, va_K.moved (u := U) (U := U.calling g mk a) (Vm.Alike.refl U.vm) qK, qD⟩, va_recv (ci := 3) (q0 := 0) hK hP rfl rfl, fun U hU hW => ⟨rfl, by rw [hU], by rw [hU]; exact hPc, va_K.moved hW.alike hKc, hDc.weaken (fun _ _ _ _ => trivial)⟩⟩ rfl rfl hl.1 rfl (lv_room (Nat.le_of_ble_eq_true rfl)) d_A_seek_11 ⟨Nat.le_of_ble_eq_true rfl, Nat.le_of_ble_eq_true rfl⟩) hS (fun q _ h => hFc q h) hFc (fun r9 u t H1 locs ht hvm hw hB hz1 hk1 hS => ?_)
        obtain ⟨hP1, hK1, hD1⟩ := hB
        rw [ht] at hP1
        rw [hw]
        obtain ⟨hP, hD⟩ := va_join (wr := (([] : List Nat).map (fun i => ((at_W h q g tq tg tn tx I A L)).getD i (0, .inr (0, []))))) (w1 := (at_W h q g tq tg tn tx I1 A1 L1)) hP hD [0, 1, 2, 3, 4, 5, 6] [] rfl rfl (by decide) (by decide) hk1 hFc hP1 hD1
        generalize H1 = H at hP hS ⊢
        have hP := hP.sub (ws' := (at_W h q g tq tg tn tx I1 A1 L1)) [0, 1, 2, 3, 4, 5, 6] rfl
        have hD := hD.sub (ws' := (at_W h q g tq tg tn tx I1 A1 L1)) [0, 1, 2, 3, 4, 5, 6] (by decide) rfl
        refine lv_istore (lv' := [(4, .int r1), (0, .ref h), (1, .ref tq), (2, .int (X 2)), (3, .int (X 3))]) hx hb d_A_seek_14 hl (by decide) rfl (fun ls hl => ?_)
        have hl : lv_has ls 5 [(4, .int r1), (0, .ref h), (1, .ref tq), (2, .int (X 2)), (3, .int (X 3))] := hl
        refine lv_iload hx hb d_A_seek_16 (lv_at hl 0 rfl) ?_
        refine lv_iconst (v := (-1)) hx hb d_A_seek_18 (by decide) ?_
        refine lv_icmp_eq (tgt := 35) hx hb d_A_seek_19 (by decide) (fun hc2 => ?_) (fun hc2 => ?_)
        ·
          have hf := wk_ift hc2 hf
          refine lv_iinc (k := 4) (v := ((X 3) + 1)) (lv' := [(3, .int ((X 3) + 1)), (4, .int r1), (0, .ref h), (1, .ref tq), (2, .int (X 2))]) hx hb d_A_seek_35 hl rfl (wk_inc (by decide)) (by decide) rfl (fun ls hl => ?_)
          have hl : lv_has ls 5 [(3, .int ((X 3) + 1)), (4, .int r1), (0, .ref h), (1, .ref tq), (2, .int (X 2))] := hl
          refine lv_goto (tgt := 2) hx hb d_A_seek_38 (by decide) ?_
          exact hrc2 I1 A1 L1 (upd X 3 ((X 3) + 1)) Y _ _ _ hf (lv_sub hl [2, 3, 4, 0] rfl) hP hD hS
        ·
          have hf := wk_iff hc2 hf
          refine lv_aload_n hx hb d_A_seek_22 rfl (lv_at hl 1 rfl) ?_
          refine lv_iload_n hx hb d_A_seek_23 rfl (lv_at hl 4 rfl) ?_
          refine va_put (D := (dC, dI)) (ci := 3) (v := .int (X 3)) (ty := .int) (C := R_A) (T := F_A) (N := 10) hx hb hts (fun w h => List.mem_cons_of_mem _ (in_A w h)) t_A tk_A n_A hown hK hP hD hS 0 rfl rfl 8 (by decide) (hts _ (List.mem_cons_of_mem _ lk_300)) (fun _ h9 => h9) rfl (by decide +kernel) rfl rfl (Nat.le_of_ble_eq_true rfl) d_A_seek_24 (fun H locs hP hD hS => ?_)
          obtain ⟨I2, hI2, hf⟩ := wk_letE hf
          have hP : va_P (dC, dI) vwCl (at_W h q g tq tg tn tx I2 A1 L1) H := by rw [hI2]; exact hP
          have hD : va_D B9 (at_W h q g tq tg tn tx I2 A1 L1) := by rw [hI2]; exact hD
          clear hI2
          refine lv_aload_n hx hb d_A_seek_27 rfl (lv_at hl 1 rfl) ?_
          refine lv_iload hx hb d_A_seek_28 (lv_at hl 0 rfl) ?_
          refine va_put (D := (dC, dI)) (ci := 3) (v := .int r1) (ty := .int) (C := R_A) (T := F_A) (N := 10) hx hb hts (fun w h => List.mem_cons_of_mem _ (in_A w h)) t_A tk_A n_A hown hK hP hD hS 0 rfl rfl 9 (by decide) (hts _ (List.mem_cons_of_mem _ lk_301)) (fun _ h9 => h9) rfl (by decide +kernel) rfl rfl (Nat.le_of_ble_eq_true rfl) d_A_seek_30 (fun H locs hP hD hS => ?_)
          obtain ⟨I3, hI3, hf⟩ := wk_letE hf
          have hP : va_P (dC, dI) vwCl (at_W h q g tq tg tn tx I3 A1 L1) H := by rw [hI3]; exact hP
          have hD : va_D B9 (at_W h q g tq tg tn tx I3 A1 L1) := by rw [hI3]; exact hD
          clear hI3
          refine lv_iconst (v := 1) hx hb d_A_seek_33 (by decide) ?_
          obtain ⟨e0, e1, e2, e3⟩ := wk_inj3 hf
          subst e0
          subst e1
          subst e2
          subst e3
          exact W.zret (v := 1) hx hb hr rfl (fun t ht hW => ⟨⟨1, (), rfl, rfl, by rw [ht]; exact hP, va_K.moved hW.alike hK, hD⟩, hS.F ht⟩) hS.2.2 d_A_seek_34
  have key : ∀ n : Nat, (∀ (I : MI) (A : MA) (L : ML) (X : Nat → Int32) (Y : Nat → Int64) (ls : Array Slot) (H : Heap) (locs : List Loc), f_A_seek_go tn tx n 2 I A L X Y = some (r, I', A', L') → lv_has ls 5 [(0, .ref h), (1, .ref tq), (2, .int (X 2)), (3, .int (X 3))] → va_P (dC, dI) vwCl (at_W h q g tq tg tn tx I A L) H → va_D B9 (at_W h q g tq tg tn tx I A L) → va_S B9 s.heap H locs → W p l e (headSpec w_A_seek ({ frames := 4, cells := 0, slots := 0, locals := 103 })).room s m ([.ref h, .ref tq, .int k2] : List Value).toArray below meth c H locs 0 0 (MQ below (va_Qi (fun (r9 : Int32) (_ : Unit) => r9 = r) (fun (_ : Unit) t => va_P (dC, dI) vwCl (at_W h q g tq tg tn tx I' A' L') t.heap ∧ va_K (dC, dI) vwCl (at_T h q g tq tg tn tx) t ∧ va_D B9 (at_W h q g tq tg tn tx I' A' L')) B9) ([.ref h, .ref tq, .int k2] : List Value).toArray s 0 0 B9) (F0 m 2 ls [])) := by
    intro n
    induction n with
    | zero => exact fun I A L X Y ls H locs hf => (by cases hf)
    | succ n ih =>
      have ih2 := ih
      exact stp2 (f_A_seek_go tn tx n) ih2
  unfold f_A_seek f_A_seek_e at hf
  have hrc2 := key wk_FUEL
  refine lv_iload_n hx hb d_A_seek_0 rfl (lv_at hl 2 rfl) ?_
  refine lv_istore_n (lv' := [(3, .int k2), (0, .ref h), (1, .ref tq), (2, .int k2)]) hx hb d_A_seek_1 rfl hl (by decide) rfl (fun ls hl => ?_)
  have hl : lv_has ls 5 [(3, .int k2), (0, .ref h), (1, .ref tq), (2, .int k2)] := hl
  exact hrc2 I A L (upd (upd (fun _ => 0) 2 k2) 3 k2) (fun _ => 0) _ _ _ hf (lv_sub hl [1, 2, 3, 0] rfl) hP hD hS

set_option maxHeartbeats 8000000 in
set_option maxRecDepth 100000 in
theorem cm_D_collectMatches (l : Launch) (dC : Nat → ClassId) (dI : Nat → Nat → Nat) (h : Nat) (q : Nat → Nat) (g : Nat → ClassId) (hp : Nat) (qp : Nat → Nat) (gp : Nat → ClassId) (tq : Nat) (tg : ClassId) (tn : Nat) (tx : Nat → Int32) (sz : Nat) (I : MI) (A : MA) (M : MI) (MB : MA) (L : ML) (r : Int32) (I' : MI) (A' : MA) (M' : MI) (MB' : MA) (L' : ML) (hf : f_D_collectMatches tn tx I A M MB L  = some (r, I', A', M', MB', L')) : Met l y_D_collectMatches w_D_collectMatches ({ frames := 5, cells := 0, slots := 0, locals := 127 }) (va_Pc [.ref h] (fun U => U.heap.size = sz ∧ va_P (dC, dI) vwCl (dw_W h q g hp qp gp tq tg tn tx I A M MB L) U.heap ∧ va_K (dC, dI) vwCl (dw_T h q g hp qp gp tq tg tn tx) U ∧ va_D (fun _ => True) (dw_W h q g hp qp gp tq tg tn tx I A M MB L))) (va_Qi (fun (r9 : Int32) (_ : Unit) => r9 = r) (fun (_ : Unit) t => va_P (dC, dI) vwCl (dw_W h q g hp qp gp tq tg tn tx I' A' M' MB' L') t.heap ∧ va_K (dC, dI) vwCl (dw_T h q g hp qp gp tq tg tn tx) t ∧ va_D (va_A (dw_W h q g hp qp gp tq tg tn tx I A M MB L) sz) (dw_W h q g hp qp gp tq tg tn tx I' A' M' MB' L')) (va_A (dw_W h q g hp qp gp tq tg tn tx I A M MB L) sz)) 0 0 (va_A (dw_W h q g hp qp gp tq tg tn tx I A M MB L) sz) := by
  refine Met.ofW (cc := prog_1_method_26_code) (maxL := 3) (ret := (some .int)) (by decide) rfl ?_
  intro p e s m args below meth c s₁ B hml hv
  obtain ⟨rfl, hsz, hP, hK, hD0⟩ := hv
  have hx := B.exec
  have hb := B.bytes
  have hr := B.returns
  have hts := atoms_spec (ws := w_D_collectMatches) B.pre
  have hown : s.vm.findClass "DraftTree" = some m.cls := findClass_of_methodNamed B.named
  have hlocks := B.notSynchronized
  subst hsz
  have hD := hD0.self (sz := s.heap.size)
  generalize hAe : va_A (dw_W h q g hp qp gp tq tg tn tx I A M MB L) s.heap.size = B9 at hD ⊢
  have hA : ∀ q : Nat, s.heap.size ≤ q → B9 q := fun q h => by rw [← hAe]; exact Or.inr h
  clear hAe
  have hS : va_S B9 s.heap s.heap [] := va_S.rf
  have hl := lv_entry ([.ref h]) (n := 3) (Nat.le_of_ble_eq_true rfl)
  rw [lg_entry_eq]
  generalize (lg_sl ([.ref h]) ++ List.replicate (3 - (lg_sl ([.ref h])).length) Slot.unset).toArray = ls at hl ⊢
  have hl : lv_has ls 3 [(0, .ref h)] := hl
  have stp4 : ∀ (rc : Nat → MI → MA → MI → MA → ML → (Nat → Int32) → (Nat → Int64) → Option (Int32 × MI × MA × MI × MA × ML)) (hrc4 : ∀ (I : MI) (A : MA) (M : MI) (MB : MA) (L : ML) (X : Nat → Int32) (Y : Nat → Int64) (ls : Array Slot) (H : Heap) (locs : List Loc), rc 4 I A M MB L X Y = some (r, I', A', M', MB', L') → lv_has ls 3 [(0, .ref h), (1, .int (X 1)), (2, .int (X 2))] → va_P (dC, dI) vwCl (dw_W h q g hp qp gp tq tg tn tx I A M MB L) H → va_D B9 (dw_W h q g hp qp gp tq tg tn tx I A M MB L) → va_S B9 s.heap H locs → W p l e (headSpec w_D_collectMatches ({ frames := 5, cells := 0, slots := 0, locals := 127 })).room s m ([.ref h] : List Value).toArray below meth c H locs 0 0 (MQ below (va_Qi (fun (r9 : Int32) (_ : Unit) => r9 = r) (fun (_ : Unit) t => va_P (dC, dI) vwCl (dw_W h q g hp qp gp tq tg tn tx I' A' M' MB' L') t.heap ∧ va_K (dC, dI) vwCl (dw_T h q g hp qp gp tq tg tn tx) t ∧ va_D B9 (dw_W h q g hp qp gp tq tg tn tx I' A' M' MB' L')) B9) ([.ref h] : List Value).toArray s 0 0 B9) (F0 m 4 ls [])), ∀ (I : MI) (A : MA) (M : MI) (MB : MA) (L : ML) (X : Nat → Int32) (Y : Nat → Int64) (ls : Array Slot) (H : Heap) (locs : List Loc), f_D_collectMatches_4 tn tx rc I A M MB L X Y = some (r, I', A', M', MB', L') → lv_has ls 3 [(0, .ref h), (1, .int (X 1)), (2, .int (X 2))] → va_P (dC, dI) vwCl (dw_W h q g hp qp gp tq tg tn tx I A M MB L) H → va_D B9 (dw_W h q g hp qp gp tq tg tn tx I A M MB L) → va_S B9 s.heap H locs → W p l e (headSpec w_D_collectMatches ({ frames := 5, cells := 0, slots := 0, locals := 127 })).room s m ([.ref h] : List Value).toArray below meth c H locs 0 0 (MQ below (va_Qi (fun (r9 : Int32) (_ : Unit) => r9 = r) (fun (_ : Unit) t => va_P (dC, dI) vwCl (dw_W h q g hp qp gp tq tg tn tx I' A' M' MB' L') t.heap ∧ va_K (dC, dI) vwCl (dw_T h q g hp qp gp tq tg tn tx) t ∧ va_D B9 (dw_W h q g hp qp gp tq tg tn tx I' A' M' MB' L')) B9) ([.ref h] : List Value).toArray s 0 0 B9) (F0 m 4 ls []) := by
    intro rc hrc4 I A M MB L X Y ls H locs hf hl hP hD hS
    unfold f_D_collectMatches_4 at hf
    refine lv_iload_n hx hb d_D_collectMatches_4 rfl (lv_at hl 2 rfl) ?_
    refine lv_sipush (v := 160) hx hb d_D_collectMatches_5 (by decide) ?_
    refine lv_icmp_ge (tgt := 68) hx hb d_D_collectMatches_8 (by decide) (fun hc1 => ?_) (fun hc1 => ?_)
    ·
      have hf := wk_ift hc1 hf
      refine lv_sipush (v := 160) hx hb d_D_collectMatches_68 (by decide) ?_
      obtain ⟨e0, e1, e2, e3, e4, e5⟩ := wk_inj5 hf
      subst e0
      subst e1
      subst e2
      subst e3
      subst e4
      subst e5
      exact W.iret (v := 160) hx hb hr (fun t ht hW => ⟨⟨160, (), rfl, rfl, by rw [ht]; exact hP, va_K.moved hW.alike hK, hD⟩, hS.F ht⟩) hS.2.2 d_D_collectMatches_71
    ·
      have hf := wk_iff hc1 hf
      refine lv_aload_n hx hb d_D_collectMatches_11 rfl (lv_at hl 0 rfl) ?_
      refine va_get (D := (dC, dI)) (ci := 0) (v := .ref hp) (C := R_D) (T := F_D) (N := 14) hx hb hts (fun w h => List.mem_cons_of_mem _ (in_D w h)) hown hK hP 0 rfl rfl 9 (by decide) (hts _ (List.mem_cons_of_mem _ lk_247)) (fun _ h9 => h9) rfl d_D_collectMatches_12 ?_
      refine lv_aload_n hx hb d_D_collectMatches_15 rfl (lv_at hl 0 rfl) ?_
      refine va_get (D := (dC, dI)) (ci := 0) (v := .ref tq) (C := R_D) (T := F_D) (N := 14) hx hb hts (fun w h => List.mem_cons_of_mem _ (in_D w h)) hown hK hP 0 rfl rfl 5 (by decide) (hts _ (List.mem_cons_of_mem _ lk_242)) (fun _ h9 => h9) rfl d_D_collectMatches_16 ?_
      refine lv_iload_n hx hb d_D_collectMatches_19 rfl (lv_at hl 1 rfl) ?_
      have hPc := hP.sub (ws' := (at_W hp qp gp tq tg tn tx M MB L)) [4, 5, 6, 7, 8, 9, 10] rfl
      have hDc := hD.sub (ws' := (at_W hp qp gp tq tg tn tx M MB L)) [4, 5, 6, 7, 8, 9, 10] (by decide) rfl
      have hKc := hK.sub (tys' := (at_T hp qp gp tq tg tn tx)) [3, 4, 5, 6, 7, 8] rfl
      have hFc := va_free (wc := (at_W hp qp gp tq tg tn tx M MB L)) hD hS hA [4, 5, 6, 7, 8, 9, 10] rfl
      cases hg1 : f_A_seek tn tx M MB L (X 1) with
      | none => rw [hg1] at hf; cases hf
      | some z1 =>
        obtain ⟨r1, M1, MB1, L1⟩ := z1
        rw [hg1] at hf
        dsimp only [Option.bind_some] at hf
        refine va_calli (va_runV (As := [.ref tq, .int (X 1)]) (rest := []) ⟨hx, hb, hml, hown, hts⟩ (cm_A_seek l dC dI hp qp gp tq tg tn tx _  M MB L (X 1) r1 M1 MB1 L1 hg1) (cwV 2 hts (gd_v lk_303 lk_304 lk_305 lk_274 lk_302) rfl rfl rfl (by decide +kernel) ⟨Nat.le_of_ble_eq_true rfl, Nat.le_of_ble_eq_true rfl⟩) ⟨fun a U g mk q => by obtain ⟨q0, q1, qP, qK, qD⟩ := q; exact ⟨q0, q1, qP, va_K.moved (u := U) (U := U.calling g mk a) (Vm.Alike.refl U.vm) qK, qD⟩, va_recv (ci := 3) (q0 := 4) hK hP rfl rfl, fun U hU hW => ⟨rfl, by rw [hU], by rw [hU]; exact hPc, va_K.moved hW.alike hKc, hDc.weaken (fun _ _ _ _ => trivial)⟩⟩ rfl rfl hl.1 rfl (lv_room (Nat.le_of_ble_eq_true rfl)) d_D_collectMatches_20 ⟨Nat.le_of_ble_eq_true rfl, Nat.le_of_ble_eq_true rfl⟩) hS (fun q _ h => hFc q h) hFc (fun r9 u t H1 locs ht hvm hw hB hz1 hk1 hS => ?_)
        obtain ⟨hP1, hK1, hD1⟩ := hB
        rw [ht] at hP1
        rw [hw]
        obtain ⟨hP, hD⟩ := va_join (wr := (([0, 1, 2, 3] : List Nat).map (fun i => ((dw_W h q g hp qp gp tq tg tn tx I A M MB L)).getD i (0, .inr (0, []))))) (w1 := (at_W hp qp gp tq tg tn tx M1 MB1 L1)) hP hD [4, 5, 6, 7, 8, 9, 10] [0, 1, 2, 3] rfl rfl (by decide) (by decide) hk1 hFc hP1 hD1
        generalize H1 = H at hP hS ⊢
        have hP := hP.sub (ws' := (dw_W h q g hp qp gp tq tg tn tx I A M1 MB1 L1)) [0, 1, 2, 3, 4, 5, 6, 7, 8, 9, 10] rfl
        have hD := hD.sub (ws' := (dw_W h q g hp qp gp tq tg tn tx I A M1 MB1 L1)) [0, 1, 2, 3, 4, 5, 6, 7, 8, 9, 10] (by decide) rfl
        refine lv_if_ne (tgt := 28) hx hb d_D_collectMatches_23 (by decide) (fun hc2 => ?_) (fun hc2 => ?_)
        ·
          have hf := wk_iff hc2 hf
          refine lv_aload_n hx hb d_D_collectMatches_28 rfl (lv_at hl 0 rfl) ?_
          refine va_get (D := (dC, dI)) (ci := 0) (v := .ref (q 12)) (C := R_D) (T := F_D) (N := 14) hx hb hts (fun w h => List.mem_cons_of_mem _ (in_D w h)) hown hK hP 0 rfl rfl 12 (by decide) (hts _ (List.mem_cons_of_mem _ lk_306)) (fun _ h9 => h9) rfl d_D_collectMatches_29 ?_
          refine lv_iload_n hx hb d_D_collectMatches_32 rfl (lv_at hl 2 rfl) ?_
          refine lv_aload_n hx hb d_D_collectMatches_33 rfl (lv_at hl 0 rfl) ?_
          refine va_get (D := (dC, dI)) (ci := 0) (v := .ref hp) (C := R_D) (T := F_D) (N := 14) hx hb hts (fun w h => List.mem_cons_of_mem _ (in_D w h)) hown hK hP 0 rfl rfl 9 (by decide) (hts _ (List.mem_cons_of_mem _ lk_247)) (fun _ h9 => h9) rfl d_D_collectMatches_34 ?_
          refine va_get (D := (dC, dI)) (ci := 3) (v := .int (M1 8)) (C := R_A) (T := F_A) (N := 10) hx hb hts (fun w h => List.mem_cons_of_mem _ (in_A w h)) hown hK hP 4 rfl rfl 8 (by decide) (hts _ (List.mem_cons_of_mem _ lk_307)) (fun _ h9 => h9) rfl d_D_collectMatches_37 ?_
          obtain ⟨hc3, hf⟩ := wk_if hf
          refine va_iast hx hb hK hP hD hS 2 1 rfl rfl (wk_inb_ok hc3) d_D_collectMatches_40 (fun H locs hP hD hS => ?_)
          obtain ⟨A2, hA2, hf⟩ := wk_letE hf
          have hP : va_P (dC, dI) vwCl (dw_W h q g hp qp gp tq tg tn tx I A2 M1 MB1 L1) H := by rw [hA2]; exact hP
          have hD : va_D B9 (dw_W h q g hp qp gp tq tg tn tx I A2 M1 MB1 L1) := by rw [hA2]; exact hD
          clear hA2
          refine lv_aload_n hx hb d_D_collectMatches_41 rfl (lv_at hl 0 rfl) ?_
          refine va_get (D := (dC, dI)) (ci := 0) (v := .ref (q 13)) (C := R_D) (T := F_D) (N := 14) hx hb hts (fun w h => List.mem_cons_of_mem _ (in_D w h)) hown hK hP 0 rfl rfl 13 (by decide) (hts _ (List.mem_cons_of_mem _ lk_308)) (fun _ h9 => h9) rfl d_D_collectMatches_42 ?_
          refine lv_iload_n hx hb d_D_collectMatches_45 rfl (lv_at hl 2 rfl) ?_
          refine lv_aload_n hx hb d_D_collectMatches_46 rfl (lv_at hl 0 rfl) ?_
          refine va_get (D := (dC, dI)) (ci := 0) (v := .ref hp) (C := R_D) (T := F_D) (N := 14) hx hb hts (fun w h => List.mem_cons_of_mem _ (in_D w h)) hown hK hP 0 rfl rfl 9 (by decide) (hts _ (List.mem_cons_of_mem _ lk_247)) (fun _ h9 => h9) rfl d_D_collectMatches_47 ?_
          refine va_get (D := (dC, dI)) (ci := 3) (v := .int (M1 9)) (C := R_A) (T := F_A) (N := 10) hx hb hts (fun w h => List.mem_cons_of_mem _ (in_A w h)) hown hK hP 4 rfl rfl 9 (by decide) (hts _ (List.mem_cons_of_mem _ lk_309)) (fun _ h9 => h9) rfl d_D_collectMatches_50 ?_
          obtain ⟨hc4, hf⟩ := wk_if hf
          refine va_iast hx hb hK hP hD hS 3 2 rfl rfl (wk_inb_ok hc4) d_D_collectMatches_53 (fun H locs hP hD hS => ?_)
          obtain ⟨A3, hA3, hf⟩ := wk_letE hf
          have hP : va_P (dC, dI) vwCl (dw_W h q g hp qp gp tq tg tn tx I A3 M1 MB1 L1) H := by rw [hA3]; exact hP
          have hD : va_D B9 (dw_W h q g hp qp gp tq tg tn tx I A3 M1 MB1 L1) := by rw [hA3]; exact hD
          clear hA3
          refine lv_aload_n hx hb d_D_collectMatches_54 rfl (lv_at hl 0 rfl) ?_
          refine va_get (D := (dC, dI)) (ci := 0) (v := .ref hp) (C := R_D) (T := F_D) (N := 14) hx hb hts (fun w h => List.mem_cons_of_mem _ (in_D w h)) hown hK hP 0 rfl rfl 9 (by decide) (hts _ (List.mem_cons_of_mem _ lk_247)) (fun _ h9 => h9) rfl d_D_collectMatches_55 ?_
          refine va_get (D := (dC, dI)) (ci := 3) (v := .int (M1 9)) (C := R_A) (T := F_A) (N := 10) hx hb hts (fun w h => List.mem_cons_of_mem _ (in_A w h)) hown hK hP 4 rfl rfl 9 (by decide) (hts _ (List.mem_cons_of_mem _ lk_309)) (fun _ h9 => h9) rfl d_D_collectMatches_58 ?_
          refine lv_istore_n (lv' := [(1, .int (M1 9)), (0, .ref h), (2, .int (X 2))]) hx hb d_D_collectMatches_61 rfl hl (by decide) rfl (fun ls hl => ?_)
          have hl : lv_has ls 3 [(1, .int (M1 9)), (0, .ref h), (2, .int (X 2))] := hl
          refine lv_iinc (k := 2) (v := ((X 2) + 1)) (lv' := [(2, .int ((X 2) + 1)), (1, .int (M1 9)), (0, .ref h)]) hx hb d_D_collectMatches_62 hl rfl (wk_inc (by decide)) (by decide) rfl (fun ls hl => ?_)
          have hl : lv_has ls 3 [(2, .int ((X 2) + 1)), (1, .int (M1 9)), (0, .ref h)] := hl
          refine lv_goto (tgt := 4) hx hb d_D_collectMatches_65 (by decide) ?_
          exact hrc4 I A3 M1 MB1 L1 (upd (upd X 1 (M1 9)) 2 ((X 2) + 1)) Y _ _ _ hf (lv_sub hl [2, 1, 0] rfl) hP hD hS
        ·
          have hf := wk_ift hc2 hf
          refine lv_iload_n hx hb d_D_collectMatches_26 rfl (lv_at hl 2 rfl) ?_
          obtain ⟨e0, e1, e2, e3, e4, e5⟩ := wk_inj5 hf
          subst e0
          subst e1
          subst e2
          subst e3
          subst e4
          subst e5
          exact W.iret (v := (X 2)) hx hb hr (fun t ht hW => ⟨⟨(X 2), (), rfl, rfl, by rw [ht]; exact hP, va_K.moved hW.alike hK, hD⟩, hS.F ht⟩) hS.2.2 d_D_collectMatches_27
  have key : ∀ n : Nat, (∀ (I : MI) (A : MA) (M : MI) (MB : MA) (L : ML) (X : Nat → Int32) (Y : Nat → Int64) (ls : Array Slot) (H : Heap) (locs : List Loc), f_D_collectMatches_go tn tx n 4 I A M MB L X Y = some (r, I', A', M', MB', L') → lv_has ls 3 [(0, .ref h), (1, .int (X 1)), (2, .int (X 2))] → va_P (dC, dI) vwCl (dw_W h q g hp qp gp tq tg tn tx I A M MB L) H → va_D B9 (dw_W h q g hp qp gp tq tg tn tx I A M MB L) → va_S B9 s.heap H locs → W p l e (headSpec w_D_collectMatches ({ frames := 5, cells := 0, slots := 0, locals := 127 })).room s m ([.ref h] : List Value).toArray below meth c H locs 0 0 (MQ below (va_Qi (fun (r9 : Int32) (_ : Unit) => r9 = r) (fun (_ : Unit) t => va_P (dC, dI) vwCl (dw_W h q g hp qp gp tq tg tn tx I' A' M' MB' L') t.heap ∧ va_K (dC, dI) vwCl (dw_T h q g hp qp gp tq tg tn tx) t ∧ va_D B9 (dw_W h q g hp qp gp tq tg tn tx I' A' M' MB' L')) B9) ([.ref h] : List Value).toArray s 0 0 B9) (F0 m 4 ls [])) := by
    intro n
    induction n with
    | zero => exact fun I A M MB L X Y ls H locs hf => (by cases hf)
    | succ n ih =>
      have ih4 := ih
      exact stp4 (f_D_collectMatches_go tn tx n) ih4
  unfold f_D_collectMatches f_D_collectMatches_e at hf
  have hrc4 := key wk_FUEL
  refine lv_iconst (v := 0) hx hb d_D_collectMatches_0 (by decide) ?_
  refine lv_istore_n (lv' := [(1, .int 0), (0, .ref h)]) hx hb d_D_collectMatches_1 rfl hl (by decide) rfl (fun ls hl => ?_)
  have hl : lv_has ls 3 [(1, .int 0), (0, .ref h)] := hl
  refine lv_iconst (v := 0) hx hb d_D_collectMatches_2 (by decide) ?_
  refine lv_istore_n (lv' := [(2, .int 0), (1, .int 0), (0, .ref h)]) hx hb d_D_collectMatches_3 rfl hl (by decide) rfl (fun ls hl => ?_)
  have hl : lv_has ls 3 [(2, .int 0), (1, .int 0), (0, .ref h)] := hl
  exact hrc4 I A M MB L (upd (upd (fun _ => 0) 1 0) 2 0) (fun _ => 0) _ _ _ hf (lv_sub hl [2, 1, 0] rfl) hP hD hS

set_option maxHeartbeats 8000000 in
set_option maxRecDepth 100000 in
theorem cm_A_addNode (l : Launch) (dC : Nat → ClassId) (dI : Nat → Nat → Nat) (h : Nat) (q : Nat → Nat) (g : Nat → ClassId) (sz : Nat) (I : MI) (A : MA) (L : ML) (k1 : Int32) (r : Int32) (I' : MI) (A' : MA) (L' : ML) (hf : f_A_addNode I A L  k1 = some (r, I', A', L')) : Met l y_A_addNode w_A_addNode ({ frames := 0, cells := 0, slots := 0, locals := 0 }) (va_Pc [.ref h, .int k1] (fun U => U.heap.size = sz ∧ va_P (dC, dI) vwCl (aw_W h q g I A L) U.heap ∧ va_K (dC, dI) vwCl (aw_T h q g) U ∧ va_D (fun _ => True) (aw_W h q g I A L))) (va_Qi (fun (r9 : Int32) (_ : Unit) => r9 = r) (fun (_ : Unit) t => va_P (dC, dI) vwCl (aw_W h q g I' A' L') t.heap ∧ va_K (dC, dI) vwCl (aw_T h q g) t ∧ va_D (va_A (aw_W h q g I A L) sz) (aw_W h q g I' A' L')) (va_A (aw_W h q g I A L) sz)) 0 0 (va_A (aw_W h q g I A L) sz) := by
  refine Met.ofW (cc := prog_2_method_2_code) (maxL := 3) (ret := (some .int)) (by decide) rfl ?_
  intro p e s m args below meth c s₁ B hml hv
  obtain ⟨rfl, hsz, hP, hK, hD0⟩ := hv
  have hx := B.exec
  have hb := B.bytes
  have hr := B.returns
  have hts := atoms_spec (ws := w_A_addNode) B.pre
  have hown : s.vm.findClass "DraftTree$Automaton" = some m.cls := findClass_of_methodNamed B.named
  have hlocks := B.notSynchronized
  subst hsz
  have hD := hD0.self (sz := s.heap.size)
  generalize hAe : va_A (aw_W h q g I A L) s.heap.size = B9 at hD ⊢
  have hA : ∀ q : Nat, s.heap.size ≤ q → B9 q := fun q h => by rw [← hAe]; exact Or.inr h
  clear hAe
  have hS : va_S B9 s.heap s.heap [] := va_S.rf
  have hl := lv_entry ([.ref h, .int k1]) (n := 3) (Nat.le_of_ble_eq_true rfl)
  rw [lg_entry_eq]
  generalize (lg_sl ([.ref h, .int k1]) ++ List.replicate (3 - (lg_sl ([.ref h, .int k1])).length) Slot.unset).toArray = ls at hl ⊢
  have hl : lv_has ls 3 [(0, .ref h), (1, .int k1)] := hl
  unfold f_A_addNode at hf
  refine lv_aload_n hx hb d_A_addNode_0 rfl (lv_at hl 0 rfl) ?_
  refine va_get (D := (dC, dI)) (ci := 3) (v := .int (I 5)) (C := R_A) (T := F_A) (N := 10) hx hb hts (fun w h => List.mem_cons_of_mem _ (in_A w h)) hown hK hP 0 rfl rfl 5 (by decide) (hts _ (List.mem_cons_of_mem _ lk_259)) (fun _ h9 => h9) rfl d_A_addNode_1 ?_
  refine lv_istore_n (lv' := [(2, .int (I 5)), (0, .ref h), (1, .int k1)]) hx hb d_A_addNode_4 rfl hl (by decide) rfl (fun ls hl => ?_)
  have hl : lv_has ls 3 [(2, .int (I 5)), (0, .ref h), (1, .int k1)] := hl
  refine lv_aload_n hx hb d_A_addNode_5 rfl (lv_at hl 1 rfl) ?_
  refine va_get (D := (dC, dI)) (ci := 3) (v := .ref (q 0)) (C := R_A) (T := F_A) (N := 10) hx hb hts (fun w h => List.mem_cons_of_mem _ (in_A w h)) hown hK hP 0 rfl rfl 0 (by decide) (hts _ (List.mem_cons_of_mem _ lk_269)) (fun _ h9 => h9) rfl d_A_addNode_6 ?_
  refine lv_iload_n hx hb d_A_addNode_9 rfl (lv_at hl 0 rfl) ?_
  refine lv_iload_n hx hb d_A_addNode_10 rfl (lv_at hl 2 rfl) ?_
  obtain ⟨hc1, hf⟩ := wk_if hf
  refine va_iast hx hb hK hP hD hS 1 0 rfl rfl (wk_inb_ok hc1) d_A_addNode_11 (fun H locs hP hD hS => ?_)
  obtain ⟨A1, hA1, hf⟩ := wk_letE hf
  have hP : va_P (dC, dI) vwCl (aw_W h q g I A1 L) H := by rw [hA1]; exact hP
  have hD : va_D B9 (aw_W h q g I A1 L) := by rw [hA1]; exact hD
  clear hA1
  refine lv_aload_n hx hb d_A_addNode_12 rfl (lv_at hl 1 rfl) ?_
  refine va_get (D := (dC, dI)) (ci := 3) (v := .ref (q 1)) (C := R_A) (T := F_A) (N := 10) hx hb hts (fun w h => List.mem_cons_of_mem _ (in_A w h)) hown hK hP 0 rfl rfl 1 (by decide) (hts _ (List.mem_cons_of_mem _ lk_270)) (fun _ h9 => h9) rfl d_A_addNode_13 ?_
  refine lv_iload_n hx hb d_A_addNode_16 rfl (lv_at hl 0 rfl) ?_
  refine lv_iconst (v := (-1)) hx hb d_A_addNode_17 (by decide) ?_
  obtain ⟨hc2, hf⟩ := wk_if hf
  refine va_iast hx hb hK hP hD hS 2 1 rfl rfl (wk_inb_ok hc2) d_A_addNode_18 (fun H locs hP hD hS => ?_)
  obtain ⟨A2, hA2, hf⟩ := wk_letE hf
  have hP : va_P (dC, dI) vwCl (aw_W h q g I A2 L) H := by rw [hA2]; exact hP
  have hD : va_D B9 (aw_W h q g I A2 L) := by rw [hA2]; exact hD
  clear hA2
  refine lv_aload_n hx hb d_A_addNode_19 rfl (lv_at hl 1 rfl) ?_
  refine va_get (D := (dC, dI)) (ci := 3) (v := .ref (q 2)) (C := R_A) (T := F_A) (N := 10) hx hb hts (fun w h => List.mem_cons_of_mem _ (in_A w h)) hown hK hP 0 rfl rfl 2 (by decide) (hts _ (List.mem_cons_of_mem _ lk_275)) (fun _ h9 => h9) rfl d_A_addNode_20 ?_
  refine lv_iload_n hx hb d_A_addNode_23 rfl (lv_at hl 0 rfl) ?_
  refine lv_iconst (v := (-1)) hx hb d_A_addNode_24 (by decide) ?_
  obtain ⟨hc3, hf⟩ := wk_if hf
  refine va_iast hx hb hK hP hD hS 3 2 rfl rfl (wk_inb_ok hc3) d_A_addNode_25 (fun H locs hP hD hS => ?_)
  obtain ⟨A3, hA3, hf⟩ := wk_letE hf
  have hP : va_P (dC, dI) vwCl (aw_W h q g I A3 L) H := by rw [hA3]; exact hP
  have hD : va_D B9 (aw_W h q g I A3 L) := by rw [hA3]; exact hD
  clear hA3
  refine lv_aload_n hx hb d_A_addNode_26 rfl (lv_at hl 1 rfl) ?_
  refine va_get (D := (dC, dI)) (ci := 3) (v := .ref (q 3)) (C := R_A) (T := F_A) (N := 10) hx hb hts (fun w h => List.mem_cons_of_mem _ (in_A w h)) hown hK hP 0 rfl rfl 3 (by decide) (hts _ (List.mem_cons_of_mem _ lk_286)) (fun _ h9 => h9) rfl d_A_addNode_27 ?_
  refine lv_iload_n hx hb d_A_addNode_30 rfl (lv_at hl 0 rfl) ?_
  refine lv_lconst (v := 0) hx hb d_A_addNode_31 (by decide) ?_
  obtain ⟨hc4, hf⟩ := wk_if hf
  refine va_last hx hb hK hP hD hS 4 3 rfl rfl (wk_inb_ok hc4) d_A_addNode_32 (fun H locs hP hD hS => ?_)
  obtain ⟨L4, hL4, hf⟩ := wk_letE hf
  have hP : va_P (dC, dI) vwCl (aw_W h q g I A3 L4) H := by rw [hL4]; exact hP
  have hD : va_D B9 (aw_W h q g I A3 L4) := by rw [hL4]; exact hD
  clear hL4
  refine lv_aload_n hx hb d_A_addNode_33 rfl (lv_at hl 1 rfl) ?_
  refine va_get (D := (dC, dI)) (ci := 3) (v := .ref (q 4)) (C := R_A) (T := F_A) (N := 10) hx hb hts (fun w h => List.mem_cons_of_mem _ (in_A w h)) hown hK hP 0 rfl rfl 4 (by decide) (hts _ (List.mem_cons_of_mem _ lk_285)) (fun _ h9 => h9) rfl d_A_addNode_34 ?_
  refine lv_iload_n hx hb d_A_addNode_37 rfl (lv_at hl 0 rfl) ?_
  refine lv_lconst (v := 0) hx hb d_A_addNode_38 (by decide) ?_
  obtain ⟨hc5, hf⟩ := wk_if hf
  refine va_last hx hb hK hP hD hS 5 4 rfl rfl (wk_inb_ok hc5) d_A_addNode_39 (fun H locs hP hD hS => ?_)
  obtain ⟨L5, hL5, hf⟩ := wk_letE hf
  have hP : va_P (dC, dI) vwCl (aw_W h q g I A3 L5) H := by rw [hL5]; exact hP
  have hD : va_D B9 (aw_W h q g I A3 L5) := by rw [hL5]; exact hD
  clear hL5
  refine lv_aload_n hx hb d_A_addNode_40 rfl (lv_at hl 1 rfl) ?_
  refine lv_dup hx hb d_A_addNode_41 rfl ?_
  refine va_get (D := (dC, dI)) (ci := 3) (v := .int (I 5)) (C := R_A) (T := F_A) (N := 10) hx hb hts (fun w h => List.mem_cons_of_mem _ (in_A w h)) hown hK hP 0 rfl rfl 5 (by decide) (hts _ (List.mem_cons_of_mem _ lk_259)) (fun _ h9 => h9) rfl d_A_addNode_42 ?_
  refine lv_iconst (v := 1) hx hb d_A_addNode_45 (by decide) ?_
  refine lv_iadd hx hb d_A_addNode_46 ?_
  refine va_put (D := (dC, dI)) (ci := 3) (v := .int ((I 5) + 1)) (ty := .int) (C := R_A) (T := F_A) (N := 10) hx hb hts (fun w h => List.mem_cons_of_mem _ (in_A w h)) t_A tk_A n_A hown hK hP hD hS 0 rfl rfl 5 (by decide) (hts _ (List.mem_cons_of_mem _ lk_259)) (fun _ h9 => h9) rfl (by decide +kernel) rfl rfl (Nat.le_of_ble_eq_true rfl) d_A_addNode_47 (fun H locs hP hD hS => ?_)
  obtain ⟨I6, hI6, hf⟩ := wk_letE hf
  have hP : va_P (dC, dI) vwCl (aw_W h q g I6 A3 L5) H := by rw [hI6]; exact hP
  have hD : va_D B9 (aw_W h q g I6 A3 L5) := by rw [hI6]; exact hD
  clear hI6
  refine lv_iload_n hx hb d_A_addNode_50 rfl (lv_at hl 0 rfl) ?_
  obtain ⟨e0, e1, e2, e3⟩ := wk_inj3 hf
  subst e0
  subst e1
  subst e2
  subst e3
  exact W.iret (v := (I 5)) hx hb hr (fun t ht hW => ⟨⟨(I 5), (), rfl, rfl, by rw [ht]; exact hP, va_K.moved hW.alike hK, hD⟩, hS.F ht⟩) hS.2.2 d_A_addNode_51

set_option maxHeartbeats 8000000 in
set_option maxRecDepth 100000 in
theorem cm_P_beginRow (l : Launch) (dC : Nat → ClassId) (dI : Nat → Nat → Nat) (h : Nat) (q : Nat → Nat) (g : Nat → ClassId) (hm : Nat) (qm : Nat → Nat) (gm : Nat → ClassId) (so : Nat) (sg : ClassId) (sx : Nat → Int32) (sz : Nat) (I : MI) (A : MA) (M : MI) (MB : MA) (L : ML) (k1 : Int32) (r : Int32) (I' : MI) (A' : MA) (M' : MI) (MB' : MA) (L' : ML) (hf : f_P_beginRow sx I A M MB L  k1 = some (r, I', A', M', MB', L')) : Met l y_P_beginRow w_P_beginRow ({ frames := 0, cells := 0, slots := 0, locals := 0 }) (va_Pc [.ref h, .int k1] (fun U => U.heap.size = sz ∧ va_P (dC, dI) vwCl (rw_W h q g hm qm gm so sg sx I A M MB L) U.heap ∧ va_K (dC, dI) vwCl (rw_T h q g hm qm gm so sg sx) U ∧ va_D (fun _ => True) (rw_W h q g hm qm gm so sg sx I A M MB L))) (va_Qv (fun (u : Unit) => u = u) (fun (_ : Unit) t => va_P (dC, dI) vwCl (rw_W h q g hm qm gm so sg sx I' A' M' MB' L') t.heap ∧ va_K (dC, dI) vwCl (rw_T h q g hm qm gm so sg sx) t ∧ va_D (va_A (rw_W h q g hm qm gm so sg sx I A M MB L) sz) (rw_W h q g hm qm gm so sg sx I' A' M' MB' L')) (va_A (rw_W h q g hm qm gm so sg sx I A M MB L) sz)) 0 0 (va_A (rw_W h q g hm qm gm so sg sx I A M MB L) sz) := by
  refine Met.ofW (cc := prog_3_method_16_code) (maxL := 2) (ret := none) (by decide) rfl ?_
  intro p e s m args below meth c s₁ B hml hv
  obtain ⟨rfl, hsz, hP, hK, hD0⟩ := hv
  have hx := B.exec
  have hb := B.bytes
  have hr := B.returns
  have hts := atoms_spec (ws := w_P_beginRow) B.pre
  have hown : s.vm.findClass "DraftTree$PatternReader" = some m.cls := findClass_of_methodNamed B.named
  have hlocks := B.notSynchronized
  subst hsz
  have hD := hD0.self (sz := s.heap.size)
  generalize hAe : va_A (rw_W h q g hm qm gm so sg sx I A M MB L) s.heap.size = B9 at hD ⊢
  have hA : ∀ q : Nat, s.heap.size ≤ q → B9 q := fun q h => by rw [← hAe]; exact Or.inr h
  clear hAe
  have hS : va_S B9 s.heap s.heap [] := va_S.rf
  have hl := lv_entry ([.ref h, .int k1]) (n := 2) (Nat.le_of_ble_eq_true rfl)
  rw [lg_entry_eq]
  generalize (lg_sl ([.ref h, .int k1]) ++ List.replicate (2 - (lg_sl ([.ref h, .int k1])).length) Slot.unset).toArray = ls at hl ⊢
  have hl : lv_has ls 2 [(0, .ref h), (1, .int k1)] := hl
  unfold f_P_beginRow at hf
  refine lv_aload_n hx hb d_P_beginRow_0 rfl (lv_at hl 0 rfl) ?_
  refine va_get (D := (dC, dI)) (ci := 2) (v := .ref (q 2)) (C := R_P) (T := F_P) (N := 13) hx hb hts (fun w h => List.mem_cons_of_mem _ (in_P w h)) hown hK hP 0 rfl rfl 2 (by decide) (hts _ (List.mem_cons_of_mem _ lk_341)) (fun _ h9 => h9) rfl d_P_beginRow_1 ?_
  refine lv_aload_n hx hb d_P_beginRow_4 rfl (lv_at hl 0 rfl) ?_
  refine va_get (D := (dC, dI)) (ci := 2) (v := .int (I 8)) (C := R_P) (T := F_P) (N := 13) hx hb hts (fun w h => List.mem_cons_of_mem _ (in_P w h)) hown hK hP 0 rfl rfl 8 (by decide) (hts _ (List.mem_cons_of_mem _ lk_333)) (fun _ h9 => h9) rfl d_P_beginRow_5 ?_
  refine lv_iload_n hx hb d_P_beginRow_8 rfl (lv_at hl 1 rfl) ?_
  obtain ⟨hc1, hf⟩ := wk_if hf
  refine va_iast hx hb hK hP hD hS 3 2 rfl rfl (wk_inb_ok hc1) d_P_beginRow_9 (fun H locs hP hD hS => ?_)
  obtain ⟨A1, hA1, hf⟩ := wk_letE hf
  have hP : va_P (dC, dI) vwCl (rw_W h q g hm qm gm so sg sx I A1 M MB L) H := by rw [hA1]; exact hP
  have hD : va_D B9 (rw_W h q g hm qm gm so sg sx I A1 M MB L) := by rw [hA1]; exact hD
  clear hA1
  refine lv_aload_n hx hb d_P_beginRow_10 rfl (lv_at hl 0 rfl) ?_
  refine lv_iconst (v := (-1)) hx hb d_P_beginRow_11 (by decide) ?_
  refine va_put (D := (dC, dI)) (ci := 2) (v := .int (-1)) (ty := .int) (C := R_P) (T := F_P) (N := 13) hx hb hts (fun w h => List.mem_cons_of_mem _ (in_P w h)) t_P tk_P n_P hown hK hP hD hS 0 rfl rfl 10 (by decide) (hts _ (List.mem_cons_of_mem _ lk_342)) (fun _ h9 => h9) rfl (by decide +kernel) rfl rfl (Nat.le_of_ble_eq_true rfl) d_P_beginRow_12 (fun H locs hP hD hS => ?_)
  obtain ⟨I2, hI2, hf⟩ := wk_letE hf
  have hP : va_P (dC, dI) vwCl (rw_W h q g hm qm gm so sg sx I2 A1 M MB L) H := by rw [hI2]; exact hP
  have hD : va_D B9 (rw_W h q g hm qm gm so sg sx I2 A1 M MB L) := by rw [hI2]; exact hD
  clear hI2
  refine lv_aload_n hx hb d_P_beginRow_15 rfl (lv_at hl 0 rfl) ?_
  refine lv_iconst (v := (-1)) hx hb d_P_beginRow_16 (by decide) ?_
  refine va_put (D := (dC, dI)) (ci := 2) (v := .int (-1)) (ty := .int) (C := R_P) (T := F_P) (N := 13) hx hb hts (fun w h => List.mem_cons_of_mem _ (in_P w h)) t_P tk_P n_P hown hK hP hD hS 0 rfl rfl 11 (by decide) (hts _ (List.mem_cons_of_mem _ lk_343)) (fun _ h9 => h9) rfl (by decide +kernel) rfl rfl (Nat.le_of_ble_eq_true rfl) d_P_beginRow_17 (fun H locs hP hD hS => ?_)
  obtain ⟨I3, hI3, hf⟩ := wk_letE hf
  have hP : va_P (dC, dI) vwCl (rw_W h q g hm qm gm so sg sx I3 A1 M MB L) H := by rw [hI3]; exact hP
  have hD : va_D B9 (rw_W h q g hm qm gm so sg sx I3 A1 M MB L) := by rw [hI3]; exact hD
  clear hI3
  refine lv_aload_n hx hb d_P_beginRow_20 rfl (lv_at hl 0 rfl) ?_
  refine lv_iload_n hx hb d_P_beginRow_21 rfl (lv_at hl 1 rfl) ?_
  refine va_put (D := (dC, dI)) (ci := 2) (v := .int k1) (ty := .int) (C := R_P) (T := F_P) (N := 13) hx hb hts (fun w h => List.mem_cons_of_mem _ (in_P w h)) t_P tk_P n_P hown hK hP hD hS 0 rfl rfl 12 (by decide) (hts _ (List.mem_cons_of_mem _ lk_344)) (fun _ h9 => h9) rfl (by decide +kernel) rfl rfl (Nat.le_of_ble_eq_true rfl) d_P_beginRow_22 (fun H locs hP hD hS => ?_)
  obtain ⟨I4, hI4, hf⟩ := wk_letE hf
  have hP : va_P (dC, dI) vwCl (rw_W h q g hm qm gm so sg sx I4 A1 M MB L) H := by rw [hI4]; exact hP
  have hD : va_D B9 (rw_W h q g hm qm gm so sg sx I4 A1 M MB L) := by rw [hI4]; exact hD
  clear hI4
  obtain ⟨e0, e1, e2, e3, e4, e5⟩ := wk_inj5 hf
  subst e0
  subst e1
  subst e2
  subst e3
  subst e4
  subst e5
  exact W.vret hx hb hr (fun t ht hW => ⟨⟨(), rfl, rfl, by rw [ht]; exact hP, va_K.moved hW.alike hK, hD⟩, hS.F ht⟩) hS.2.2 d_P_beginRow_25

set_option maxHeartbeats 8000000 in
set_option maxRecDepth 100000 in
theorem cm_P_openChoice (l : Launch) (dC : Nat → ClassId) (dI : Nat → Nat → Nat) (h : Nat) (q : Nat → Nat) (g : Nat → ClassId) (hm : Nat) (qm : Nat → Nat) (gm : Nat → ClassId) (so : Nat) (sg : ClassId) (sx : Nat → Int32) (sz : Nat) (I : MI) (A : MA) (M : MI) (MB : MA) (L : ML) (k1 : Int32) (r : Int32) (I' : MI) (A' : MA) (M' : MI) (MB' : MA) (L' : ML) (hf : f_P_openChoice sx I A M MB L  k1 = some (r, I', A', M', MB', L')) : Met l y_P_openChoice w_P_openChoice ({ frames := 1, cells := 0, slots := 0, locals := 22 }) (va_Pc [.ref h, .int k1] (fun U => U.heap.size = sz ∧ va_P (dC, dI) vwCl (rw_W h q g hm qm gm so sg sx I A M MB L) U.heap ∧ va_K (dC, dI) vwCl (rw_T h q g hm qm gm so sg sx) U ∧ va_D (fun _ => True) (rw_W h q g hm qm gm so sg sx I A M MB L))) (va_Qv (fun (u : Unit) => u = u) (fun (_ : Unit) t => va_P (dC, dI) vwCl (rw_W h q g hm qm gm so sg sx I' A' M' MB' L') t.heap ∧ va_K (dC, dI) vwCl (rw_T h q g hm qm gm so sg sx) t ∧ va_D (va_A (rw_W h q g hm qm gm so sg sx I A M MB L) sz) (rw_W h q g hm qm gm so sg sx I' A' M' MB' L')) (va_A (rw_W h q g hm qm gm so sg sx I A M MB L) sz)) 0 0 (va_A (rw_W h q g hm qm gm so sg sx I A M MB L) sz) := by
  refine Met.ofW (cc := prog_3_method_12_code) (maxL := 3) (ret := none) (by decide) rfl ?_
  intro p e s m args below meth c s₁ B hml hv
  obtain ⟨rfl, hsz, hP, hK, hD0⟩ := hv
  have hx := B.exec
  have hb := B.bytes
  have hr := B.returns
  have hts := atoms_spec (ws := w_P_openChoice) B.pre
  have hown : s.vm.findClass "DraftTree$PatternReader" = some m.cls := findClass_of_methodNamed B.named
  have hlocks := B.notSynchronized
  subst hsz
  have hD := hD0.self (sz := s.heap.size)
  generalize hAe : va_A (rw_W h q g hm qm gm so sg sx I A M MB L) s.heap.size = B9 at hD ⊢
  have hA : ∀ q : Nat, s.heap.size ≤ q → B9 q := fun q h => by rw [← hAe]; exact Or.inr h
  clear hAe
  have hS : va_S B9 s.heap s.heap [] := va_S.rf
  have hl := lv_entry ([.ref h, .int k1]) (n := 3) (Nat.le_of_ble_eq_true rfl)
  rw [lg_entry_eq]
  generalize (lg_sl ([.ref h, .int k1]) ++ List.replicate (3 - (lg_sl ([.ref h, .int k1])).length) Slot.unset).toArray = ls at hl ⊢
  have hl : lv_has ls 3 [(0, .ref h), (1, .int k1)] := hl
  unfold f_P_openChoice at hf
  refine lv_aload_n hx hb d_P_openChoice_0 rfl (lv_at hl 0 rfl) ?_
  refine va_get (D := (dC, dI)) (ci := 2) (v := .ref hm) (C := R_P) (T := F_P) (N := 13) hx hb hts (fun w h => List.mem_cons_of_mem _ (in_P w h)) hown hK hP 0 rfl rfl 4 (by decide) (hts _ (List.mem_cons_of_mem _ lk_331)) (fun _ h9 => h9) rfl d_P_openChoice_1 ?_
  refine lv_iconst (v := 0) hx hb d_P_openChoice_4 (by decide) ?_
  have hPc := hP.sub (ws' := (aw_W hm qm gm M MB L)) [5, 6, 7, 8, 9, 10] rfl
  have hDc := hD.sub (ws' := (aw_W hm qm gm M MB L)) [5, 6, 7, 8, 9, 10] (by decide) rfl
  have hKc := hK.sub (tys' := (aw_T hm qm gm)) [4, 5, 6, 7, 8] rfl
  have hFc := va_free (wc := (aw_W hm qm gm M MB L)) hD hS hA [5, 6, 7, 8, 9, 10] rfl
  cases hg1 : f_A_addNode M MB L 0 with
  | none => rw [hg1] at hf; cases hf
  | some z1 =>
    obtain ⟨r1, M1, MB1, L1⟩ := z1
    rw [hg1] at hf
    dsimp only [Option.bind_some] at hf
    refine va_calli (va_runV (As := [.int 0]) (rest := []) ⟨hx, hb, hml, hown, hts⟩ (cm_A_addNode l dC dI hm qm gm _  M MB L 0 r1 M1 MB1 L1 hg1) (cwV 1 hts (gd_v lk_335 lk_336 lk_337 lk_274 lk_334) rfl rfl rfl (by decide +kernel) ⟨Nat.le_of_ble_eq_true rfl, Nat.le_of_ble_eq_true rfl⟩) ⟨fun a U g mk q => by obtain ⟨q0, q1, qP, qK, qD⟩ := q; exact ⟨q0, q1, qP, va_K.moved (u := U) (U := U.calling g mk a) (Vm.Alike.refl U.vm) qK, qD⟩, va_recv (ci := 3) (q0 := 5) hK hP rfl rfl, fun U hU hW => ⟨rfl, by rw [hU], by rw [hU]; exact hPc, va_K.moved hW.alike hKc, hDc.weaken (fun _ _ _ _ => trivial)⟩⟩ rfl rfl hl.1 rfl (lv_room (Nat.le_of_ble_eq_true rfl)) d_P_openChoice_5 ⟨Nat.le_of_ble_eq_true rfl, Nat.le_of_ble_eq_true rfl⟩) hS (fun q _ h => hFc q h) hFc (fun r9 u t H1 locs ht hvm hw hB hz1 hk1 hS => ?_)
    obtain ⟨hP1, hK1, hD1⟩ := hB
    rw [ht] at hP1
    rw [hw]
    obtain ⟨hP, hD⟩ := va_join (wr := (([0, 1, 2, 3, 4, 11] : List Nat).map (fun i => ((rw_W h q g hm qm gm so sg sx I A M MB L)).getD i (0, .inr (0, []))))) (w1 := (aw_W hm qm gm M1 MB1 L1)) hP hD [5, 6, 7, 8, 9, 10] [0, 1, 2, 3, 4, 11] rfl rfl (by decide) (by decide) hk1 hFc hP1 hD1
    generalize H1 = H at hP hS ⊢
    have hP := hP.sub (ws' := (rw_W h q g hm qm gm so sg sx I A M1 MB1 L1)) [0, 1, 2, 3, 4, 6, 7, 8, 9, 10, 11, 5] rfl
    have hD := hD.sub (ws' := (rw_W h q g hm qm gm so sg sx I A M1 MB1 L1)) [0, 1, 2, 3, 4, 6, 7, 8, 9, 10, 11, 5] (by decide) rfl
    refine lv_istore_n (lv' := [(2, .int r1), (0, .ref h), (1, .int k1)]) hx hb d_P_openChoice_8 rfl hl (by decide) rfl (fun ls hl => ?_)
    have hl : lv_has ls 3 [(2, .int r1), (0, .ref h), (1, .int k1)] := hl
    refine lv_aload_n hx hb d_P_openChoice_9 rfl (lv_at hl 1 rfl) ?_
    refine va_get (D := (dC, dI)) (ci := 2) (v := .ref (q 0)) (C := R_P) (T := F_P) (N := 13) hx hb hts (fun w h => List.mem_cons_of_mem _ (in_P w h)) hown hK hP 0 rfl rfl 0 (by decide) (hts _ (List.mem_cons_of_mem _ lk_338)) (fun _ h9 => h9) rfl d_P_openChoice_10 ?_
    refine lv_aload_n hx hb d_P_openChoice_13 rfl (lv_at hl 1 rfl) ?_
    refine va_get (D := (dC, dI)) (ci := 2) (v := .int (I 8)) (C := R_P) (T := F_P) (N := 13) hx hb hts (fun w h => List.mem_cons_of_mem _ (in_P w h)) hown hK hP 0 rfl rfl 8 (by decide) (hts _ (List.mem_cons_of_mem _ lk_333)) (fun _ h9 => h9) rfl d_P_openChoice_14 ?_
    refine lv_iload_n hx hb d_P_openChoice_17 rfl (lv_at hl 0 rfl) ?_
    obtain ⟨hc1, hf⟩ := wk_if hf
    refine va_iast hx hb hK hP hD hS 1 0 rfl rfl (wk_inb_ok hc1) d_P_openChoice_18 (fun H locs hP hD hS => ?_)
    obtain ⟨A2, hA2, hf⟩ := wk_letE hf
    have hP : va_P (dC, dI) vwCl (rw_W h q g hm qm gm so sg sx I A2 M1 MB1 L1) H := by rw [hA2]; exact hP
    have hD : va_D B9 (rw_W h q g hm qm gm so sg sx I A2 M1 MB1 L1) := by rw [hA2]; exact hD
    clear hA2
    refine lv_aload_n hx hb d_P_openChoice_19 rfl (lv_at hl 1 rfl) ?_
    refine va_get (D := (dC, dI)) (ci := 2) (v := .ref (q 1)) (C := R_P) (T := F_P) (N := 13) hx hb hts (fun w h => List.mem_cons_of_mem _ (in_P w h)) hown hK hP 0 rfl rfl 1 (by decide) (hts _ (List.mem_cons_of_mem _ lk_339)) (fun _ h9 => h9) rfl d_P_openChoice_20 ?_
    refine lv_aload_n hx hb d_P_openChoice_23 rfl (lv_at hl 1 rfl) ?_
    refine va_get (D := (dC, dI)) (ci := 2) (v := .int (I 8)) (C := R_P) (T := F_P) (N := 13) hx hb hts (fun w h => List.mem_cons_of_mem _ (in_P w h)) hown hK hP 0 rfl rfl 8 (by decide) (hts _ (List.mem_cons_of_mem _ lk_333)) (fun _ h9 => h9) rfl d_P_openChoice_24 ?_
    refine lv_aload_n hx hb d_P_openChoice_27 rfl (lv_at hl 1 rfl) ?_
    refine va_get (D := (dC, dI)) (ci := 2) (v := .ref hm) (C := R_P) (T := F_P) (N := 13) hx hb hts (fun w h => List.mem_cons_of_mem _ (in_P w h)) hown hK hP 0 rfl rfl 4 (by decide) (hts _ (List.mem_cons_of_mem _ lk_331)) (fun _ h9 => h9) rfl d_P_openChoice_28 ?_
    refine lv_iconst (v := 0) hx hb d_P_openChoice_31 (by decide) ?_
    have hPc := hP.sub (ws' := (aw_W hm qm gm M1 MB1 L1)) [5, 6, 7, 8, 9, 10] rfl
    have hDc := hD.sub (ws' := (aw_W hm qm gm M1 MB1 L1)) [5, 6, 7, 8, 9, 10] (by decide) rfl
    have hKc := hK.sub (tys' := (aw_T hm qm gm)) [4, 5, 6, 7, 8] rfl
    have hFc := va_free (wc := (aw_W hm qm gm M1 MB1 L1)) hD hS hA [5, 6, 7, 8, 9, 10] rfl
    cases hg3 : f_A_addNode M1 MB1 L1 0 with
    | none => rw [hg3] at hf; cases hf
    | some z3 =>
      obtain ⟨r3, M3, MB3, L3⟩ := z3
      rw [hg3] at hf
      dsimp only [Option.bind_some] at hf
      refine va_calli (va_runV (As := [.int 0]) (rest := [.int (I 8), .ref (q 1)]) ⟨hx, hb, hml, hown, hts⟩ (cm_A_addNode l dC dI hm qm gm _  M1 MB1 L1 0 r3 M3 MB3 L3 hg3) (cwV 1 hts (gd_v lk_335 lk_336 lk_337 lk_274 lk_334) rfl rfl rfl (by decide +kernel) ⟨Nat.le_of_ble_eq_true rfl, Nat.le_of_ble_eq_true rfl⟩) ⟨fun a U g mk q => by obtain ⟨q0, q1, qP, qK, qD⟩ := q; exact ⟨q0, q1, qP, va_K.moved (u := U) (U := U.calling g mk a) (Vm.Alike.refl U.vm) qK, qD⟩, va_recv (ci := 3) (q0 := 5) hK hP rfl rfl, fun U hU hW => ⟨rfl, by rw [hU], by rw [hU]; exact hPc, va_K.moved hW.alike hKc, hDc.weaken (fun _ _ _ _ => trivial)⟩⟩ rfl rfl hl.1 rfl (lv_room (Nat.le_of_ble_eq_true rfl)) d_P_openChoice_32 ⟨Nat.le_of_ble_eq_true rfl, Nat.le_of_ble_eq_true rfl⟩) hS (fun q _ h => hFc q h) hFc (fun r9 u t H1 locs ht hvm hw hB hz1 hk1 hS => ?_)
      obtain ⟨hP1, hK1, hD1⟩ := hB
      rw [ht] at hP1
      rw [hw]
      obtain ⟨hP, hD⟩ := va_join (wr := (([0, 1, 2, 3, 4, 11] : List Nat).map (fun i => ((rw_W h q g hm qm gm so sg sx I A2 M1 MB1 L1)).getD i (0, .inr (0, []))))) (w1 := (aw_W hm qm gm M3 MB3 L3)) hP hD [5, 6, 7, 8, 9, 10] [0, 1, 2, 3, 4, 11] rfl rfl (by decide) (by decide) hk1 hFc hP1 hD1
      generalize H1 = H at hP hS ⊢
      have hP := hP.sub (ws' := (rw_W h q g hm qm gm so sg sx I A2 M3 MB3 L3)) [0, 1, 2, 3, 4, 6, 7, 8, 9, 10, 11, 5] rfl
      have hD := hD.sub (ws' := (rw_W h q g hm qm gm so sg sx I A2 M3 MB3 L3)) [0, 1, 2, 3, 4, 6, 7, 8, 9, 10, 11, 5] (by decide) rfl
      obtain ⟨hc2, hf⟩ := wk_if hf
      refine va_iast hx hb hK hP hD hS 2 1 rfl rfl (wk_inb_ok hc2) d_P_openChoice_35 (fun H locs hP hD hS => ?_)
      obtain ⟨A4, hA4, hf⟩ := wk_letE hf
      have hP : va_P (dC, dI) vwCl (rw_W h q g hm qm gm so sg sx I A4 M3 MB3 L3) H := by rw [hA4]; exact hP
      have hD : va_D B9 (rw_W h q g hm qm gm so sg sx I A4 M3 MB3 L3) := by rw [hA4]; exact hD
      clear hA4
      refine lv_aload_n hx hb d_P_openChoice_36 rfl (lv_at hl 1 rfl) ?_
      refine va_get (D := (dC, dI)) (ci := 2) (v := .ref (q 3)) (C := R_P) (T := F_P) (N := 13) hx hb hts (fun w h => List.mem_cons_of_mem _ (in_P w h)) hown hK hP 0 rfl rfl 3 (by decide) (hts _ (List.mem_cons_of_mem _ lk_340)) (fun _ h9 => h9) rfl d_P_openChoice_37 ?_
      refine lv_aload_n hx hb d_P_openChoice_40 rfl (lv_at hl 1 rfl) ?_
      refine va_get (D := (dC, dI)) (ci := 2) (v := .int (I 8)) (C := R_P) (T := F_P) (N := 13) hx hb hts (fun w h => List.mem_cons_of_mem _ (in_P w h)) hown hK hP 0 rfl rfl 8 (by decide) (hts _ (List.mem_cons_of_mem _ lk_333)) (fun _ h9 => h9) rfl d_P_openChoice_41 ?_
      refine lv_iload_n hx hb d_P_openChoice_44 rfl (lv_at hl 2 rfl) ?_
      obtain ⟨hc3, hf⟩ := wk_if hf
      refine va_iast hx hb hK hP hD hS 4 3 rfl rfl (wk_inb_ok hc3) d_P_openChoice_45 (fun H locs hP hD hS => ?_)
      obtain ⟨A5, hA5, hf⟩ := wk_letE hf
      have hP : va_P (dC, dI) vwCl (rw_W h q g hm qm gm so sg sx I A5 M3 MB3 L3) H := by rw [hA5]; exact hP
      have hD : va_D B9 (rw_W h q g hm qm gm so sg sx I A5 M3 MB3 L3) := by rw [hA5]; exact hD
      clear hA5
      refine lv_aload_n hx hb d_P_openChoice_46 rfl (lv_at hl 1 rfl) ?_
      refine lv_iload_n hx hb d_P_openChoice_47 rfl (lv_at hl 0 rfl) ?_
      have hPc := hP.sub (ws' := (rw_W h q g hm qm gm so sg sx I A5 M3 MB3 L3)) [0, 1, 2, 3, 4, 5, 6, 7, 8, 9, 10, 11] rfl
      have hDc := hD.sub (ws' := (rw_W h q g hm qm gm so sg sx I A5 M3 MB3 L3)) [0, 1, 2, 3, 4, 5, 6, 7, 8, 9, 10, 11] (by decide) rfl
      have hKc := hK.sub (tys' := (rw_T h q g hm qm gm so sg sx)) [0, 1, 2, 3, 4, 5, 6, 7, 8, 9] rfl
      have hFc := va_free (wc := (rw_W h q g hm qm gm so sg sx I A5 M3 MB3 L3)) hD hS hA [0, 1, 2, 3, 4, 5, 6, 7, 8, 9, 10, 11] rfl
      cases hg6 : f_P_beginRow sx I A5 M3 MB3 L3 r1 with
      | none => rw [hg6] at hf; cases hf
      | some z6 =>
        obtain ⟨r6, I6, A6, M6, MB6, L6⟩ := z6
        rw [hg6] at hf
        dsimp only [Option.bind_some] at hf
        refine va_callv (va_runV (As := [.int r1]) (rest := []) ⟨hx, hb, hml, hown, hts⟩ (cm_P_beginRow l dC dI h q g hm qm gm so sg sx _  I A5 M3 MB3 L3 r1 r6 I6 A6 M6 MB6 L6 hg6) (cwV 1 hts (gd_v lk_346 lk_347 lk_348 lk_349 lk_345) rfl rfl rfl (by decide +kernel) ⟨Nat.le_of_ble_eq_true rfl, Nat.le_of_ble_eq_true rfl⟩) ⟨fun a U g mk q => by obtain ⟨q0, q1, qP, qK, qD⟩ := q; exact ⟨q0, q1, qP, va_K.moved (u := U) (U := U.calling g mk a) (Vm.Alike.refl U.vm) qK, qD⟩, va_recv (ci := 2) (q0 := 0) hK hP rfl rfl, fun U hU hW => ⟨rfl, by rw [hU], by rw [hU]; exact hPc, va_K.moved hW.alike hKc, hDc.weaken (fun _ _ _ _ => trivial)⟩⟩ rfl rfl hl.1 rfl (lv_room (Nat.le_of_ble_eq_true rfl)) d_P_openChoice_48 ⟨Nat.le_of_ble_eq_true rfl, Nat.le_of_ble_eq_true rfl⟩) hS (fun q _ h => hFc q h) hFc (fun u t H1 locs ht hvm hw hB hz1 hk1 hS => ?_)
        obtain ⟨hP1, hK1, hD1⟩ := hB
        rw [ht] at hP1
        obtain ⟨hP, hD⟩ := va_join (wr := (([] : List Nat).map (fun i => ((rw_W h q g hm qm gm so sg sx I A5 M3 MB3 L3)).getD i (0, .inr (0, []))))) (w1 := (rw_W h q g hm qm gm so sg sx I6 A6 M6 MB6 L6)) hP hD [0, 1, 2, 3, 4, 5, 6, 7, 8, 9, 10, 11] [] rfl rfl (by decide) (by decide) hk1 hFc hP1 hD1
        generalize H1 = H at hP hS ⊢
        have hP := hP.sub (ws' := (rw_W h q g hm qm gm so sg sx I6 A6 M6 MB6 L6)) [0, 1, 2, 3, 4, 5, 6, 7, 8, 9, 10, 11] rfl
        have hD := hD.sub (ws' := (rw_W h q g hm qm gm so sg sx I6 A6 M6 MB6 L6)) [0, 1, 2, 3, 4, 5, 6, 7, 8, 9, 10, 11] (by decide) rfl
        obtain ⟨e0, e1, e2, e3, e4, e5⟩ := wk_inj5 hf
        subst e0
        subst e1
        subst e2
        subst e3
        subst e4
        subst e5
        exact W.vret hx hb hr (fun t ht hW => ⟨⟨(), rfl, rfl, by rw [ht]; exact hP, va_K.moved hW.alike hK, hD⟩, hS.F ht⟩) hS.2.2 d_P_openChoice_51

-- 18.ccon03
set_option maxHeartbeats 8000000 in
set_option maxRecDepth 100000 in
theorem cm_P_openGroup (l : Launch) (dC : Nat → ClassId) (dI : Nat → Nat → Nat) (h : Nat) (q : Nat → Nat) (g : Nat → ClassId) (hm : Nat) (qm : Nat → Nat) (gm : Nat → ClassId) (so : Nat) (sg : ClassId) (sx : Nat → Int32) (sz : Nat) (I : MI) (A : MA) (M : MI) (MB : MA) (L : ML) (r : Int32) (I' : MI) (A' : MA) (M' : MI) (MB' : MA) (L' : ML) (hf : f_P_openGroup sx I A M MB L  = some (r, I', A', M', MB', L')) : Met l y_P_openGroup w_P_openGroup ({ frames := 2, cells := 0, slots := 0, locals := 44 }) (va_Pc [.ref h] (fun U => U.heap.size = sz ∧ va_P (dC, dI) vwCl (rw_W h q g hm qm gm so sg sx I A M MB L) U.heap ∧ va_K (dC, dI) vwCl (rw_T h q g hm qm gm so sg sx) U ∧ va_D (fun _ => True) (rw_W h q g hm qm gm so sg sx I A M MB L))) (va_Qv (fun (u : Unit) => u = u) (fun (_ : Unit) t => va_P (dC, dI) vwCl (rw_W h q g hm qm gm so sg sx I' A' M' MB' L') t.heap ∧ va_K (dC, dI) vwCl (rw_T h q g hm qm gm so sg sx) t ∧ va_D (va_A (rw_W h q g hm qm gm so sg sx I A M MB L) sz) (rw_W h q g hm qm gm so sg sx I' A' M' MB' L')) (va_A (rw_W h q g hm qm gm so sg sx I A M MB L) sz)) 0 0 (va_A (rw_W h q g hm qm gm so sg sx I A M MB L) sz) := by
  refine Met.ofW (cc := prog_3_method_13_code) (maxL := 1) (ret := none) (by decide) rfl ?_
  intro p e s m args below meth c s₁ B hml hv
  obtain ⟨rfl, hsz, hP, hK, hD0⟩ := hv
  have hx := B.exec
  have hb := B.bytes
  have hr := B.returns
  have hts := atoms_spec (ws := w_P_openGroup) B.pre
  have hown : s.vm.findClass "DraftTree$PatternReader" = some m.cls := findClass_of_methodNamed B.named
  have hlocks := B.notSynchronized
  subst hsz
  have hD := hD0.self (sz := s.heap.size)
  generalize hAe : va_A (rw_W h q g hm qm gm so sg sx I A M MB L) s.heap.size = B9 at hD ⊢
  have hA : ∀ q : Nat, s.heap.size ≤ q → B9 q := fun q h => by rw [← hAe]; exact Or.inr h
  clear hAe
  have hS : va_S B9 s.heap s.heap [] := va_S.rf
  have hl := lv_entry ([.ref h]) (n := 1) (Nat.le_of_ble_eq_true rfl)
  rw [lg_entry_eq]
  generalize (lg_sl ([.ref h]) ++ List.replicate (1 - (lg_sl ([.ref h])).length) Slot.unset).toArray = ls at hl ⊢
  have hl : lv_has ls 1 [(0, .ref h)] := hl
  unfold f_P_openGroup at hf
  refine lv_aload_n hx hb d_P_openGroup_0 rfl (lv_at hl 0 rfl) ?_
  refine va_get (D := (dC, dI)) (ci := 2) (v := .int (I 8)) (C := R_P) (T := F_P) (N := 13) hx hb hts (fun w h => List.mem_cons_of_mem _ (in_P w h)) hown hK hP 0 rfl rfl 8 (by decide) (hts _ (List.mem_cons_of_mem _ lk_333)) (fun _ h9 => h9) rfl d_P_openGroup_1 ?_
  refine lv_bipush (v := 8) hx hb d_P_openGroup_4 (by decide) ?_
  refine lv_icmp_ne (tgt := 18) hx hb d_P_openGroup_6 (by decide) (fun hc1 => ?_) (fun hc1 => ?_)
  ·
    have hf := wk_iff hc1 hf
    refine lv_aload_n hx hb d_P_openGroup_18 rfl (lv_at hl 0 rfl) ?_
    refine lv_dup hx hb d_P_openGroup_19 rfl ?_
    refine va_get (D := (dC, dI)) (ci := 2) (v := .int (I 8)) (C := R_P) (T := F_P) (N := 13) hx hb hts (fun w h => List.mem_cons_of_mem _ (in_P w h)) hown hK hP 0 rfl rfl 8 (by decide) (hts _ (List.mem_cons_of_mem _ lk_333)) (fun _ h9 => h9) rfl d_P_openGroup_20 ?_
    refine lv_iconst (v := 1) hx hb d_P_openGroup_23 (by decide) ?_
    refine lv_iadd hx hb d_P_openGroup_24 ?_
    refine va_put (D := (dC, dI)) (ci := 2) (v := .int ((I 8) + 1)) (ty := .int) (C := R_P) (T := F_P) (N := 13) hx hb hts (fun w h => List.mem_cons_of_mem _ (in_P w h)) t_P tk_P n_P hown hK hP hD hS 0 rfl rfl 8 (by decide) (hts _ (List.mem_cons_of_mem _ lk_333)) (fun _ h9 => h9) rfl (by decide +kernel) rfl rfl (Nat.le_of_ble_eq_true rfl) d_P_openGroup_25 (fun H locs hP hD hS => ?_)
    obtain ⟨I1, hI1, hf⟩ := wk_letE hf
    have hP : va_P (dC, dI) vwCl (rw_W h q g hm qm gm so sg sx I1 A M MB L) H := by rw [hI1]; exact hP
    have hD : va_D B9 (rw_W h q g hm qm gm so sg sx I1 A M MB L) := by rw [hI1]; exact hD
    clear hI1
    refine lv_aload_n hx hb d_P_openGroup_28 rfl (lv_at hl 0 rfl) ?_
    refine lv_aload_n hx hb d_P_openGroup_29 rfl (lv_at hl 0 rfl) ?_
    refine va_get (D := (dC, dI)) (ci := 2) (v := .int (I1 12)) (C := R_P) (T := F_P) (N := 13) hx hb hts (fun w h => List.mem_cons_of_mem _ (in_P w h)) hown hK hP 0 rfl rfl 12 (by decide) (hts _ (List.mem_cons_of_mem _ lk_344)) (fun _ h9 => h9) rfl d_P_openGroup_30 ?_
    have hPc := hP.sub (ws' := (rw_W h q g hm qm gm so sg sx I1 A M MB L)) [0, 1, 2, 3, 4, 5, 6, 7, 8, 9, 10, 11] rfl
    have hDc := hD.sub (ws' := (rw_W h q g hm qm gm so sg sx I1 A M MB L)) [0, 1, 2, 3, 4, 5, 6, 7, 8, 9, 10, 11] (by decide) rfl
    have hKc := hK.sub (tys' := (rw_T h q g hm qm gm so sg sx)) [0, 1, 2, 3, 4, 5, 6, 7, 8, 9] rfl
    have hFc := va_free (wc := (rw_W h q g hm qm gm so sg sx I1 A M MB L)) hD hS hA [0, 1, 2, 3, 4, 5, 6, 7, 8, 9, 10, 11] rfl
    cases hg2 : f_P_openChoice sx I1 A M MB L (I1 12) with
    | none => rw [hg2] at hf; cases hf
    | some z2 =>
      obtain ⟨r2, I2, A2, M2, MB2, L2⟩ := z2
      rw [hg2] at hf
      dsimp only [Option.bind_some] at hf
      refine va_callv (va_runV (As := [.int (I1 12)]) (rest := []) ⟨hx, hb, hml, hown, hts⟩ (cm_P_openChoice l dC dI h q g hm qm gm so sg sx _  I1 A M MB L (I1 12) r2 I2 A2 M2 MB2 L2 hg2) (cwV 1 hts (gd_v lk_351 lk_352 lk_353 lk_349 lk_350) rfl rfl rfl (by decide +kernel) ⟨Nat.le_of_ble_eq_true rfl, Nat.le_of_ble_eq_true rfl⟩) ⟨fun a U g mk q => by obtain ⟨q0, q1, qP, qK, qD⟩ := q; exact ⟨q0, q1, qP, va_K.moved (u := U) (U := U.calling g mk a) (Vm.Alike.refl U.vm) qK, qD⟩, va_recv (ci := 2) (q0 := 0) hK hP rfl rfl, fun U hU hW => ⟨rfl, by rw [hU], by rw [hU]; exact hPc, va_K.moved hW.alike hKc, hDc.weaken (fun _ _ _ _ => trivial)⟩⟩ rfl rfl hl.1 rfl (lv_room (Nat.le_of_ble_eq_true rfl)) d_P_openGroup_33 ⟨Nat.le_of_ble_eq_true rfl, Nat.le_of_ble_eq_true rfl⟩) hS (fun q _ h => hFc q h) hFc (fun u t H1 locs ht hvm hw hB hz1 hk1 hS => ?_)
      obtain ⟨hP1, hK1, hD1⟩ := hB
      rw [ht] at hP1
      obtain ⟨hP, hD⟩ := va_join (wr := (([] : List Nat).map (fun i => ((rw_W h q g hm qm gm so sg sx I1 A M MB L)).getD i (0, .inr (0, []))))) (w1 := (rw_W h q g hm qm gm so sg sx I2 A2 M2 MB2 L2)) hP hD [0, 1, 2, 3, 4, 5, 6, 7, 8, 9, 10, 11] [] rfl rfl (by decide) (by decide) hk1 hFc hP1 hD1
      generalize H1 = H at hP hS ⊢
      have hP := hP.sub (ws' := (rw_W h q g hm qm gm so sg sx I2 A2 M2 MB2 L2)) [0, 1, 2, 3, 4, 5, 6, 7, 8, 9, 10, 11] rfl
      have hD := hD.sub (ws' := (rw_W h q g hm qm gm so sg sx I2 A2 M2 MB2 L2)) [0, 1, 2, 3, 4, 5, 6, 7, 8, 9, 10, 11] (by decide) rfl
      obtain ⟨e0, e1, e2, e3, e4, e5⟩ := wk_inj5 hf
      subst e0
      subst e1
      subst e2
      subst e3
      subst e4
      subst e5
      exact W.vret hx hb hr (fun t ht hW => ⟨⟨(), rfl, rfl, by rw [ht]; exact hP, va_K.moved hW.alike hK, hD⟩, hS.F ht⟩) hS.2.2 d_P_openGroup_36
  ·
    have hf := wk_ift hc1 hf
    refine lv_aload_n hx hb d_P_openGroup_9 rfl (lv_at hl 0 rfl) ?_
    refine lv_aload_n hx hb d_P_openGroup_10 rfl (lv_at hl 0 rfl) ?_
    refine va_get (D := (dC, dI)) (ci := 2) (v := .int (I 7)) (C := R_P) (T := F_P) (N := 13) hx hb hts (fun w h => List.mem_cons_of_mem _ (in_P w h)) hown hK hP 0 rfl rfl 7 (by decide) (hts _ (List.mem_cons_of_mem _ lk_329)) (fun _ h9 => h9) rfl d_P_openGroup_11 ?_
    refine va_put (D := (dC, dI)) (ci := 2) (v := .int (I 7)) (ty := .int) (C := R_P) (T := F_P) (N := 13) hx hb hts (fun w h => List.mem_cons_of_mem _ (in_P w h)) t_P tk_P n_P hown hK hP hD hS 0 rfl rfl 9 (by decide) (hts _ (List.mem_cons_of_mem _ lk_330)) (fun _ h9 => h9) rfl (by decide +kernel) rfl rfl (Nat.le_of_ble_eq_true rfl) d_P_openGroup_14 (fun H locs hP hD hS => ?_)
    obtain ⟨I1, hI1, hf⟩ := wk_letE hf
    have hP : va_P (dC, dI) vwCl (rw_W h q g hm qm gm so sg sx I1 A M MB L) H := by rw [hI1]; exact hP
    have hD : va_D B9 (rw_W h q g hm qm gm so sg sx I1 A M MB L) := by rw [hI1]; exact hD
    clear hI1
    obtain ⟨e0, e1, e2, e3, e4, e5⟩ := wk_inj5 hf
    subst e0
    subst e1
    subst e2
    subst e3
    subst e4
    subst e5
    exact W.vret hx hb hr (fun t ht hW => ⟨⟨(), rfl, rfl, by rw [ht]; exact hP, va_K.moved hW.alike hK, hD⟩, hS.F ht⟩) hS.2.2 d_P_openGroup_17

set_option maxHeartbeats 8000000 in
set_option maxRecDepth 100000 in
theorem cm_P_addPart (l : Launch) (dC : Nat → ClassId) (dI : Nat → Nat → Nat) (h : Nat) (q : Nat → Nat) (g : Nat → ClassId) (hm : Nat) (qm : Nat → Nat) (gm : Nat → ClassId) (so : Nat) (sg : ClassId) (sx : Nat → Int32) (sz : Nat) (I : MI) (A : MA) (M : MI) (MB : MA) (L : ML) (k1 : Int32) (k2 : Int32) (r : Int32) (I' : MI) (A' : MA) (M' : MI) (MB' : MA) (L' : ML) (hf : f_P_addPart sx I A M MB L  k1 k2 = some (r, I', A', M', MB', L')) : Met l y_P_addPart w_P_addPart ({ frames := 0, cells := 0, slots := 0, locals := 0 }) (va_Pc [.ref h, .int k1, .int k2] (fun U => U.heap.size = sz ∧ va_P (dC, dI) vwCl (rw_W h q g hm qm gm so sg sx I A M MB L) U.heap ∧ va_K (dC, dI) vwCl (rw_T h q g hm qm gm so sg sx) U ∧ va_D (fun _ => True) (rw_W h q g hm qm gm so sg sx I A M MB L))) (va_Qv (fun (u : Unit) => u = u) (fun (_ : Unit) t => va_P (dC, dI) vwCl (rw_W h q g hm qm gm so sg sx I' A' M' MB' L') t.heap ∧ va_K (dC, dI) vwCl (rw_T h q g hm qm gm so sg sx) t ∧ va_D (va_A (rw_W h q g hm qm gm so sg sx I A M MB L) sz) (rw_W h q g hm qm gm so sg sx I' A' M' MB' L')) (va_A (rw_W h q g hm qm gm so sg sx I A M MB L) sz)) 0 0 (va_A (rw_W h q g hm qm gm so sg sx I A M MB L) sz) := by
  refine Met.ofW (cc := prog_3_method_18_code) (maxL := 3) (ret := none) (by decide) rfl ?_
  intro p e s m args below meth c s₁ B hml hv
  obtain ⟨rfl, hsz, hP, hK, hD0⟩ := hv
  have hx := B.exec
  have hb := B.bytes
  have hr := B.returns
  have hts := atoms_spec (ws := w_P_addPart) B.pre
  have hown : s.vm.findClass "DraftTree$PatternReader" = some m.cls := findClass_of_methodNamed B.named
  have hlocks := B.notSynchronized
  subst hsz
  have hD := hD0.self (sz := s.heap.size)
  generalize hAe : va_A (rw_W h q g hm qm gm so sg sx I A M MB L) s.heap.size = B9 at hD ⊢
  have hA : ∀ q : Nat, s.heap.size ≤ q → B9 q := fun q h => by rw [← hAe]; exact Or.inr h
  clear hAe
  have hS : va_S B9 s.heap s.heap [] := va_S.rf
  have hl := lv_entry ([.ref h, .int k1, .int k2]) (n := 3) (Nat.le_of_ble_eq_true rfl)
  rw [lg_entry_eq]
  generalize (lg_sl ([.ref h, .int k1, .int k2]) ++ List.replicate (3 - (lg_sl ([.ref h, .int k1, .int k2])).length) Slot.unset).toArray = ls at hl ⊢
  have hl : lv_has ls 3 [(0, .ref h), (1, .int k1), (2, .int k2)] := hl
  unfold f_P_addPart at hf
  refine lv_aload_n hx hb d_P_addPart_0 rfl (lv_at hl 0 rfl) ?_
  refine lv_aload_n hx hb d_P_addPart_1 rfl (lv_at hl 0 rfl) ?_
  refine va_get (D := (dC, dI)) (ci := 2) (v := .int (I 12)) (C := R_P) (T := F_P) (N := 13) hx hb hts (fun w h => List.mem_cons_of_mem _ (in_P w h)) hown hK hP 0 rfl rfl 12 (by decide) (hts _ (List.mem_cons_of_mem _ lk_344)) (fun _ h9 => h9) rfl d_P_addPart_2 ?_
  refine va_put (D := (dC, dI)) (ci := 2) (v := .int (I 12)) (ty := .int) (C := R_P) (T := F_P) (N := 13) hx hb hts (fun w h => List.mem_cons_of_mem _ (in_P w h)) t_P tk_P n_P hown hK hP hD hS 0 rfl rfl 10 (by decide) (hts _ (List.mem_cons_of_mem _ lk_342)) (fun _ h9 => h9) rfl (by decide +kernel) rfl rfl (Nat.le_of_ble_eq_true rfl) d_P_addPart_5 (fun H locs hP hD hS => ?_)
  obtain ⟨I1, hI1, hf⟩ := wk_letE hf
  have hP : va_P (dC, dI) vwCl (rw_W h q g hm qm gm so sg sx I1 A M MB L) H := by rw [hI1]; exact hP
  have hD : va_D B9 (rw_W h q g hm qm gm so sg sx I1 A M MB L) := by rw [hI1]; exact hD
  clear hI1
  refine lv_aload_n hx hb d_P_addPart_8 rfl (lv_at hl 0 rfl) ?_
  refine va_get (D := (dC, dI)) (ci := 2) (v := .ref hm) (C := R_P) (T := F_P) (N := 13) hx hb hts (fun w h => List.mem_cons_of_mem _ (in_P w h)) hown hK hP 0 rfl rfl 4 (by decide) (hts _ (List.mem_cons_of_mem _ lk_331)) (fun _ h9 => h9) rfl d_P_addPart_9 ?_
  refine va_get (D := (dC, dI)) (ci := 3) (v := .ref (qm 1)) (C := R_A) (T := F_A) (N := 10) hx hb hts (fun w h => List.mem_cons_of_mem _ (in_A w h)) hown hK hP 5 rfl rfl 1 (by decide) (hts _ (List.mem_cons_of_mem _ lk_358)) (fun _ h9 => h9) rfl d_P_addPart_12 ?_
  refine lv_aload_n hx hb d_P_addPart_15 rfl (lv_at hl 0 rfl) ?_
  refine va_get (D := (dC, dI)) (ci := 2) (v := .int (I1 10)) (C := R_P) (T := F_P) (N := 13) hx hb hts (fun w h => List.mem_cons_of_mem _ (in_P w h)) hown hK hP 0 rfl rfl 10 (by decide) (hts _ (List.mem_cons_of_mem _ lk_342)) (fun _ h9 => h9) rfl d_P_addPart_16 ?_
  refine lv_iload_n hx hb d_P_addPart_19 rfl (lv_at hl 1 rfl) ?_
  obtain ⟨hc1, hf⟩ := wk_if hf
  refine va_iast hx hb hK hP hD hS 7 5 rfl rfl (wk_inb_ok hc1) d_P_addPart_20 (fun H locs hP hD hS => ?_)
  obtain ⟨MB2, hMB2, hf⟩ := wk_letE hf
  have hP : va_P (dC, dI) vwCl (rw_W h q g hm qm gm so sg sx I1 A M MB2 L) H := by rw [hMB2]; exact hP
  have hD : va_D B9 (rw_W h q g hm qm gm so sg sx I1 A M MB2 L) := by rw [hMB2]; exact hD
  clear hMB2
  refine lv_aload_n hx hb d_P_addPart_21 rfl (lv_at hl 0 rfl) ?_
  refine lv_iload_n hx hb d_P_addPart_22 rfl (lv_at hl 1 rfl) ?_
  refine va_put (D := (dC, dI)) (ci := 2) (v := .int k1) (ty := .int) (C := R_P) (T := F_P) (N := 13) hx hb hts (fun w h => List.mem_cons_of_mem _ (in_P w h)) t_P tk_P n_P hown hK hP hD hS 0 rfl rfl 11 (by decide) (hts _ (List.mem_cons_of_mem _ lk_343)) (fun _ h9 => h9) rfl (by decide +kernel) rfl rfl (Nat.le_of_ble_eq_true rfl) d_P_addPart_23 (fun H locs hP hD hS => ?_)
  obtain ⟨I3, hI3, hf⟩ := wk_letE hf
  have hP : va_P (dC, dI) vwCl (rw_W h q g hm qm gm so sg sx I3 A M MB2 L) H := by rw [hI3]; exact hP
  have hD : va_D B9 (rw_W h q g hm qm gm so sg sx I3 A M MB2 L) := by rw [hI3]; exact hD
  clear hI3
  refine lv_aload_n hx hb d_P_addPart_26 rfl (lv_at hl 0 rfl) ?_
  refine lv_iload_n hx hb d_P_addPart_27 rfl (lv_at hl 2 rfl) ?_
  refine va_put (D := (dC, dI)) (ci := 2) (v := .int k2) (ty := .int) (C := R_P) (T := F_P) (N := 13) hx hb hts (fun w h => List.mem_cons_of_mem _ (in_P w h)) t_P tk_P n_P hown hK hP hD hS 0 rfl rfl 12 (by decide) (hts _ (List.mem_cons_of_mem _ lk_344)) (fun _ h9 => h9) rfl (by decide +kernel) rfl rfl (Nat.le_of_ble_eq_true rfl) d_P_addPart_28 (fun H locs hP hD hS => ?_)
  obtain ⟨I4, hI4, hf⟩ := wk_letE hf
  have hP : va_P (dC, dI) vwCl (rw_W h q g hm qm gm so sg sx I4 A M MB2 L) H := by rw [hI4]; exact hP
  have hD : va_D B9 (rw_W h q g hm qm gm so sg sx I4 A M MB2 L) := by rw [hI4]; exact hD
  clear hI4
  obtain ⟨e0, e1, e2, e3, e4, e5⟩ := wk_inj5 hf
  subst e0
  subst e1
  subst e2
  subst e3
  subst e4
  subst e5
  exact W.vret hx hb hr (fun t ht hW => ⟨⟨(), rfl, rfl, by rw [ht]; exact hP, va_K.moved hW.alike hK, hD⟩, hS.F ht⟩) hS.2.2 d_P_addPart_31

set_option maxHeartbeats 8000000 in
set_option maxRecDepth 100000 in
theorem cm_P_closeGroup (l : Launch) (dC : Nat → ClassId) (dI : Nat → Nat → Nat) (h : Nat) (q : Nat → Nat) (g : Nat → ClassId) (hm : Nat) (qm : Nat → Nat) (gm : Nat → ClassId) (so : Nat) (sg : ClassId) (sx : Nat → Int32) (sz : Nat) (I : MI) (A : MA) (M : MI) (MB : MA) (L : ML) (r : Int32) (I' : MI) (A' : MA) (M' : MI) (MB' : MA) (L' : ML) (hf : f_P_closeGroup sx I A M MB L  = some (r, I', A', M', MB', L')) : Met l y_P_closeGroup w_P_closeGroup ({ frames := 1, cells := 0, slots := 0, locals := 22 }) (va_Pc [.ref h] (fun U => U.heap.size = sz ∧ va_P (dC, dI) vwCl (rw_W h q g hm qm gm so sg sx I A M MB L) U.heap ∧ va_K (dC, dI) vwCl (rw_T h q g hm qm gm so sg sx) U ∧ va_D (fun _ => True) (rw_W h q g hm qm gm so sg sx I A M MB L))) (va_Qv (fun (u : Unit) => u = u) (fun (_ : Unit) t => va_P (dC, dI) vwCl (rw_W h q g hm qm gm so sg sx I' A' M' MB' L') t.heap ∧ va_K (dC, dI) vwCl (rw_T h q g hm qm gm so sg sx) t ∧ va_D (va_A (rw_W h q g hm qm gm so sg sx I A M MB L) sz) (rw_W h q g hm qm gm so sg sx I' A' M' MB' L')) (va_A (rw_W h q g hm qm gm so sg sx I A M MB L) sz)) 0 0 (va_A (rw_W h q g hm qm gm so sg sx I A M MB L) sz) := by
  refine Met.ofW (cc := prog_3_method_14_code) (maxL := 3) (ret := none) (by decide) rfl ?_
  intro p e s m args below meth c s₁ B hml hv
  obtain ⟨rfl, hsz, hP, hK, hD0⟩ := hv
  have hx := B.exec
  have hb := B.bytes
  have hr := B.returns
  have hts := atoms_spec (ws := w_P_closeGroup) B.pre
  have hown : s.vm.findClass "DraftTree$PatternReader" = some m.cls := findClass_of_methodNamed B.named
  have hlocks := B.notSynchronized
  subst hsz
  have hD := hD0.self (sz := s.heap.size)
  generalize hAe : va_A (rw_W h q g hm qm gm so sg sx I A M MB L) s.heap.size = B9 at hD ⊢
  have hA : ∀ q : Nat, s.heap.size ≤ q → B9 q := fun q h => by rw [← hAe]; exact Or.inr h
  clear hAe
  have hS : va_S B9 s.heap s.heap [] := va_S.rf
  have hl := lv_entry ([.ref h]) (n := 3) (Nat.le_of_ble_eq_true rfl)
  rw [lg_entry_eq]
  generalize (lg_sl ([.ref h]) ++ List.replicate (3 - (lg_sl ([.ref h])).length) Slot.unset).toArray = ls at hl ⊢
  have hl : lv_has ls 3 [(0, .ref h)] := hl
  unfold f_P_closeGroup at hf
  refine lv_aload_n hx hb d_P_closeGroup_0 rfl (lv_at hl 0 rfl) ?_
  refine va_get (D := (dC, dI)) (ci := 2) (v := .int (I 8)) (C := R_P) (T := F_P) (N := 13) hx hb hts (fun w h => List.mem_cons_of_mem _ (in_P w h)) hown hK hP 0 rfl rfl 8 (by decide) (hts _ (List.mem_cons_of_mem _ lk_333)) (fun _ h9 => h9) rfl d_P_closeGroup_1 ?_
  refine lv_if_ne (tgt := 16) hx hb d_P_closeGroup_4 (by decide) (fun hc1 => ?_) (fun hc1 => ?_)
  ·
    have hf := wk_iff hc1 hf
    refine lv_aload_n hx hb d_P_closeGroup_16 rfl (lv_at hl 0 rfl) ?_
    refine va_get (D := (dC, dI)) (ci := 2) (v := .ref (q 0)) (C := R_P) (T := F_P) (N := 13) hx hb hts (fun w h => List.mem_cons_of_mem _ (in_P w h)) hown hK hP 0 rfl rfl 0 (by decide) (hts _ (List.mem_cons_of_mem _ lk_338)) (fun _ h9 => h9) rfl d_P_closeGroup_17 ?_
    refine lv_aload_n hx hb d_P_closeGroup_20 rfl (lv_at hl 0 rfl) ?_
    refine va_get (D := (dC, dI)) (ci := 2) (v := .int (I 8)) (C := R_P) (T := F_P) (N := 13) hx hb hts (fun w h => List.mem_cons_of_mem _ (in_P w h)) hown hK hP 0 rfl rfl 8 (by decide) (hts _ (List.mem_cons_of_mem _ lk_333)) (fun _ h9 => h9) rfl d_P_closeGroup_21 ?_
    obtain ⟨hc2, hf⟩ := wk_if hf
    refine va_iald hx hb hK hP 1 0 rfl rfl (wk_inb_ok hc2) d_P_closeGroup_24 ?_
    refine lv_istore_n (lv' := [(1, .int (A 0 ((I 8)).toNatClampNeg)), (0, .ref h)]) hx hb d_P_closeGroup_25 rfl hl (by decide) rfl (fun ls hl => ?_)
    have hl : lv_has ls 3 [(1, .int (A 0 ((I 8)).toNatClampNeg)), (0, .ref h)] := hl
    refine lv_aload_n hx hb d_P_closeGroup_26 rfl (lv_at hl 1 rfl) ?_
    refine va_get (D := (dC, dI)) (ci := 2) (v := .ref (q 1)) (C := R_P) (T := F_P) (N := 13) hx hb hts (fun w h => List.mem_cons_of_mem _ (in_P w h)) hown hK hP 0 rfl rfl 1 (by decide) (hts _ (List.mem_cons_of_mem _ lk_339)) (fun _ h9 => h9) rfl d_P_closeGroup_27 ?_
    refine lv_aload_n hx hb d_P_closeGroup_30 rfl (lv_at hl 1 rfl) ?_
    refine va_get (D := (dC, dI)) (ci := 2) (v := .int (I 8)) (C := R_P) (T := F_P) (N := 13) hx hb hts (fun w h => List.mem_cons_of_mem _ (in_P w h)) hown hK hP 0 rfl rfl 8 (by decide) (hts _ (List.mem_cons_of_mem _ lk_333)) (fun _ h9 => h9) rfl d_P_closeGroup_31 ?_
    obtain ⟨hc3, hf⟩ := wk_if hf
    refine va_iald hx hb hK hP 2 1 rfl rfl (wk_inb_ok hc3) d_P_closeGroup_34 ?_
    refine lv_istore_n (lv' := [(2, .int (A 1 ((I 8)).toNatClampNeg)), (1, .int (A 0 ((I 8)).toNatClampNeg)), (0, .ref h)]) hx hb d_P_closeGroup_35 rfl hl (by decide) rfl (fun ls hl => ?_)
    have hl : lv_has ls 3 [(2, .int (A 1 ((I 8)).toNatClampNeg)), (1, .int (A 0 ((I 8)).toNatClampNeg)), (0, .ref h)] := hl
    refine lv_aload_n hx hb d_P_closeGroup_36 rfl (lv_at hl 2 rfl) ?_
    refine va_get (D := (dC, dI)) (ci := 2) (v := .ref hm) (C := R_P) (T := F_P) (N := 13) hx hb hts (fun w h => List.mem_cons_of_mem _ (in_P w h)) hown hK hP 0 rfl rfl 4 (by decide) (hts _ (List.mem_cons_of_mem _ lk_331)) (fun _ h9 => h9) rfl d_P_closeGroup_37 ?_
    refine va_get (D := (dC, dI)) (ci := 3) (v := .ref (qm 1)) (C := R_A) (T := F_A) (N := 10) hx hb hts (fun w h => List.mem_cons_of_mem _ (in_A w h)) hown hK hP 5 rfl rfl 1 (by decide) (hts _ (List.mem_cons_of_mem _ lk_358)) (fun _ h9 => h9) rfl d_P_closeGroup_40 ?_
    refine lv_aload_n hx hb d_P_closeGroup_43 rfl (lv_at hl 2 rfl) ?_
    refine va_get (D := (dC, dI)) (ci := 2) (v := .int (I 12)) (C := R_P) (T := F_P) (N := 13) hx hb hts (fun w h => List.mem_cons_of_mem _ (in_P w h)) hown hK hP 0 rfl rfl 12 (by decide) (hts _ (List.mem_cons_of_mem _ lk_344)) (fun _ h9 => h9) rfl d_P_closeGroup_44 ?_
    refine lv_iload_n hx hb d_P_closeGroup_47 rfl (lv_at hl 0 rfl) ?_
    obtain ⟨hc4, hf⟩ := wk_if hf
    refine va_iast hx hb hK hP hD hS 7 5 rfl rfl (wk_inb_ok hc4) d_P_closeGroup_48 (fun H locs hP hD hS => ?_)
    obtain ⟨MB1, hMB1, hf⟩ := wk_letE hf
    have hP : va_P (dC, dI) vwCl (rw_W h q g hm qm gm so sg sx I A M MB1 L) H := by rw [hMB1]; exact hP
    have hD : va_D B9 (rw_W h q g hm qm gm so sg sx I A M MB1 L) := by rw [hMB1]; exact hD
    clear hMB1
    refine lv_aload_n hx hb d_P_closeGroup_49 rfl (lv_at hl 2 rfl) ?_
    refine lv_aload_n hx hb d_P_closeGroup_50 rfl (lv_at hl 2 rfl) ?_
    refine va_get (D := (dC, dI)) (ci := 2) (v := .ref (q 3)) (C := R_P) (T := F_P) (N := 13) hx hb hts (fun w h => List.mem_cons_of_mem _ (in_P w h)) hown hK hP 0 rfl rfl 3 (by decide) (hts _ (List.mem_cons_of_mem _ lk_340)) (fun _ h9 => h9) rfl d_P_closeGroup_51 ?_
    refine lv_aload_n hx hb d_P_closeGroup_54 rfl (lv_at hl 2 rfl) ?_
    refine va_get (D := (dC, dI)) (ci := 2) (v := .int (I 8)) (C := R_P) (T := F_P) (N := 13) hx hb hts (fun w h => List.mem_cons_of_mem _ (in_P w h)) hown hK hP 0 rfl rfl 8 (by decide) (hts _ (List.mem_cons_of_mem _ lk_333)) (fun _ h9 => h9) rfl d_P_closeGroup_55 ?_
    obtain ⟨hc5, hf⟩ := wk_if hf
    refine va_iald hx hb hK hP 4 3 rfl rfl (wk_inb_ok hc5) d_P_closeGroup_58 ?_
    refine va_put (D := (dC, dI)) (ci := 2) (v := .int (A 3 ((I 8)).toNatClampNeg)) (ty := .int) (C := R_P) (T := F_P) (N := 13) hx hb hts (fun w h => List.mem_cons_of_mem _ (in_P w h)) t_P tk_P n_P hown hK hP hD hS 0 rfl rfl 12 (by decide) (hts _ (List.mem_cons_of_mem _ lk_344)) (fun _ h9 => h9) rfl (by decide +kernel) rfl rfl (Nat.le_of_ble_eq_true rfl) d_P_closeGroup_59 (fun H locs hP hD hS => ?_)
    obtain ⟨I2, hI2, hf⟩ := wk_letE hf
    have hP : va_P (dC, dI) vwCl (rw_W h q g hm qm gm so sg sx I2 A M MB1 L) H := by rw [hI2]; exact hP
    have hD : va_D B9 (rw_W h q g hm qm gm so sg sx I2 A M MB1 L) := by rw [hI2]; exact hD
    clear hI2
    refine lv_aload_n hx hb d_P_closeGroup_62 rfl (lv_at hl 2 rfl) ?_
    refine lv_dup hx hb d_P_closeGroup_63 rfl ?_
    refine va_get (D := (dC, dI)) (ci := 2) (v := .int (I2 8)) (C := R_P) (T := F_P) (N := 13) hx hb hts (fun w h => List.mem_cons_of_mem _ (in_P w h)) hown hK hP 0 rfl rfl 8 (by decide) (hts _ (List.mem_cons_of_mem _ lk_333)) (fun _ h9 => h9) rfl d_P_closeGroup_64 ?_
    refine lv_iconst (v := 1) hx hb d_P_closeGroup_67 (by decide) ?_
    refine lv_isub hx hb d_P_closeGroup_68 ?_
    refine va_put (D := (dC, dI)) (ci := 2) (v := .int ((I2 8) - 1)) (ty := .int) (C := R_P) (T := F_P) (N := 13) hx hb hts (fun w h => List.mem_cons_of_mem _ (in_P w h)) t_P tk_P n_P hown hK hP hD hS 0 rfl rfl 8 (by decide) (hts _ (List.mem_cons_of_mem _ lk_333)) (fun _ h9 => h9) rfl (by decide +kernel) rfl rfl (Nat.le_of_ble_eq_true rfl) d_P_closeGroup_69 (fun H locs hP hD hS => ?_)
    obtain ⟨I3, hI3, hf⟩ := wk_letE hf
    have hP : va_P (dC, dI) vwCl (rw_W h q g hm qm gm so sg sx I3 A M MB1 L) H := by rw [hI3]; exact hP
    have hD : va_D B9 (rw_W h q g hm qm gm so sg sx I3 A M MB1 L) := by rw [hI3]; exact hD
    clear hI3
    refine lv_aload_n hx hb d_P_closeGroup_72 rfl (lv_at hl 2 rfl) ?_
    refine lv_iload_n hx hb d_P_closeGroup_73 rfl (lv_at hl 1 rfl) ?_
    refine lv_iload_n hx hb d_P_closeGroup_74 rfl (lv_at hl 0 rfl) ?_
    have hPc := hP.sub (ws' := (rw_W h q g hm qm gm so sg sx I3 A M MB1 L)) [0, 1, 2, 3, 4, 5, 6, 7, 8, 9, 10, 11] rfl
    have hDc := hD.sub (ws' := (rw_W h q g hm qm gm so sg sx I3 A M MB1 L)) [0, 1, 2, 3, 4, 5, 6, 7, 8, 9, 10, 11] (by decide) rfl
    have hKc := hK.sub (tys' := (rw_T h q g hm qm gm so sg sx)) [0, 1, 2, 3, 4, 5, 6, 7, 8, 9] rfl
    have hFc := va_free (wc := (rw_W h q g hm qm gm so sg sx I3 A M MB1 L)) hD hS hA [0, 1, 2, 3, 4, 5, 6, 7, 8, 9, 10, 11] rfl
    cases hg4 : f_P_addPart sx I3 A M MB1 L (A 0 ((I 8)).toNatClampNeg) (A 1 ((I 8)).toNatClampNeg) with
    | none => rw [hg4] at hf; cases hf
    | some z4 =>
      obtain ⟨r4, I4, A4, M4, MB4, L4⟩ := z4
      rw [hg4] at hf
      dsimp only [Option.bind_some] at hf
      refine va_callv (va_runV (As := [.int (A 0 ((I 8)).toNatClampNeg), .int (A 1 ((I 8)).toNatClampNeg)]) (rest := []) ⟨hx, hb, hml, hown, hts⟩ (cm_P_addPart l dC dI h q g hm qm gm so sg sx _  I3 A M MB1 L (A 0 ((I 8)).toNatClampNeg) (A 1 ((I 8)).toNatClampNeg) r4 I4 A4 M4 MB4 L4 hg4) (cwV 2 hts (gd_v lk_360 lk_361 lk_362 lk_349 lk_359) rfl rfl rfl (by decide +kernel) ⟨Nat.le_of_ble_eq_true rfl, Nat.le_of_ble_eq_true rfl⟩) ⟨fun a U g mk q => by obtain ⟨q0, q1, qP, qK, qD⟩ := q; exact ⟨q0, q1, qP, va_K.moved (u := U) (U := U.calling g mk a) (Vm.Alike.refl U.vm) qK, qD⟩, va_recv (ci := 2) (q0 := 0) hK hP rfl rfl, fun U hU hW => ⟨rfl, by rw [hU], by rw [hU]; exact hPc, va_K.moved hW.alike hKc, hDc.weaken (fun _ _ _ _ => trivial)⟩⟩ rfl rfl hl.1 rfl (lv_room (Nat.le_of_ble_eq_true rfl)) d_P_closeGroup_75 ⟨Nat.le_of_ble_eq_true rfl, Nat.le_of_ble_eq_true rfl⟩) hS (fun q _ h => hFc q h) hFc (fun u t H1 locs ht hvm hw hB hz1 hk1 hS => ?_)
      obtain ⟨hP1, hK1, hD1⟩ := hB
      rw [ht] at hP1
      obtain ⟨hP, hD⟩ := va_join (wr := (([] : List Nat).map (fun i => ((rw_W h q g hm qm gm so sg sx I3 A M MB1 L)).getD i (0, .inr (0, []))))) (w1 := (rw_W h q g hm qm gm so sg sx I4 A4 M4 MB4 L4)) hP hD [0, 1, 2, 3, 4, 5, 6, 7, 8, 9, 10, 11] [] rfl rfl (by decide) (by decide) hk1 hFc hP1 hD1
      generalize H1 = H at hP hS ⊢
      have hP := hP.sub (ws' := (rw_W h q g hm qm gm so sg sx I4 A4 M4 MB4 L4)) [0, 1, 2, 3, 4, 5, 6, 7, 8, 9, 10, 11] rfl
      have hD := hD.sub (ws' := (rw_W h q g hm qm gm so sg sx I4 A4 M4 MB4 L4)) [0, 1, 2, 3, 4, 5, 6, 7, 8, 9, 10, 11] (by decide) rfl
      obtain ⟨e0, e1, e2, e3, e4, e5⟩ := wk_inj5 hf
      subst e0
      subst e1
      subst e2
      subst e3
      subst e4
      subst e5
      exact W.vret hx hb hr (fun t ht hW => ⟨⟨(), rfl, rfl, by rw [ht]; exact hP, va_K.moved hW.alike hK, hD⟩, hS.F ht⟩) hS.2.2 d_P_closeGroup_78
  ·
    have hf := wk_ift hc1 hf
    refine lv_aload_n hx hb d_P_closeGroup_7 rfl (lv_at hl 0 rfl) ?_
    refine lv_aload_n hx hb d_P_closeGroup_8 rfl (lv_at hl 0 rfl) ?_
    refine va_get (D := (dC, dI)) (ci := 2) (v := .int (I 7)) (C := R_P) (T := F_P) (N := 13) hx hb hts (fun w h => List.mem_cons_of_mem _ (in_P w h)) hown hK hP 0 rfl rfl 7 (by decide) (hts _ (List.mem_cons_of_mem _ lk_329)) (fun _ h9 => h9) rfl d_P_closeGroup_9 ?_
    refine va_put (D := (dC, dI)) (ci := 2) (v := .int (I 7)) (ty := .int) (C := R_P) (T := F_P) (N := 13) hx hb hts (fun w h => List.mem_cons_of_mem _ (in_P w h)) t_P tk_P n_P hown hK hP hD hS 0 rfl rfl 9 (by decide) (hts _ (List.mem_cons_of_mem _ lk_330)) (fun _ h9 => h9) rfl (by decide +kernel) rfl rfl (Nat.le_of_ble_eq_true rfl) d_P_closeGroup_12 (fun H locs hP hD hS => ?_)
    obtain ⟨I1, hI1, hf⟩ := wk_letE hf
    have hP : va_P (dC, dI) vwCl (rw_W h q g hm qm gm so sg sx I1 A M MB L) H := by rw [hI1]; exact hP
    have hD : va_D B9 (rw_W h q g hm qm gm so sg sx I1 A M MB L) := by rw [hI1]; exact hD
    clear hI1
    obtain ⟨e0, e1, e2, e3, e4, e5⟩ := wk_inj5 hf
    subst e0
    subst e1
    subst e2
    subst e3
    subst e4
    subst e5
    exact W.vret hx hb hr (fun t ht hW => ⟨⟨(), rfl, rfl, by rw [ht]; exact hP, va_K.moved hW.alike hK, hD⟩, hS.F ht⟩) hS.2.2 d_P_closeGroup_15

set_option maxHeartbeats 8000000 in
set_option maxRecDepth 100000 in
theorem cm_P_repeatPart (l : Launch) (dC : Nat → ClassId) (dI : Nat → Nat → Nat) (h : Nat) (q : Nat → Nat) (g : Nat → ClassId) (hm : Nat) (qm : Nat → Nat) (gm : Nat → ClassId) (so : Nat) (sg : ClassId) (sx : Nat → Int32) (sz : Nat) (I : MI) (A : MA) (M : MI) (MB : MA) (L : ML) (k1 : Int32) (r : Int32) (I' : MI) (A' : MA) (M' : MI) (MB' : MA) (L' : ML) (hf : f_P_repeatPart sx I A M MB L  k1 = some (r, I', A', M', MB', L')) : Met l y_P_repeatPart w_P_repeatPart ({ frames := 1, cells := 0, slots := 0, locals := 22 }) (va_Pc [.ref h, .int k1] (fun U => U.heap.size = sz ∧ va_P (dC, dI) vwCl (rw_W h q g hm qm gm so sg sx I A M MB L) U.heap ∧ va_K (dC, dI) vwCl (rw_T h q g hm qm gm so sg sx) U ∧ va_D (fun _ => True) (rw_W h q g hm qm gm so sg sx I A M MB L))) (va_Qv (fun (u : Unit) => u = u) (fun (_ : Unit) t => va_P (dC, dI) vwCl (rw_W h q g hm qm gm so sg sx I' A' M' MB' L') t.heap ∧ va_K (dC, dI) vwCl (rw_T h q g hm qm gm so sg sx) t ∧ va_D (va_A (rw_W h q g hm qm gm so sg sx I A M MB L) sz) (rw_W h q g hm qm gm so sg sx I' A' M' MB' L')) (va_A (rw_W h q g hm qm gm so sg sx I A M MB L) sz)) 0 0 (va_A (rw_W h q g hm qm gm so sg sx I A M MB L) sz) := by
  refine Met.ofW (cc := prog_3_method_19_code) (maxL := 4) (ret := none) (by decide) rfl ?_
  intro p e s m args below meth c s₁ B hml hv
  obtain ⟨rfl, hsz, hP, hK, hD0⟩ := hv
  have hx := B.exec
  have hb := B.bytes
  have hr := B.returns
  have hts := atoms_spec (ws := w_P_repeatPart) B.pre
  have hown : s.vm.findClass "DraftTree$PatternReader" = some m.cls := findClass_of_methodNamed B.named
  have hlocks := B.notSynchronized
  subst hsz
  have hD := hD0.self (sz := s.heap.size)
  generalize hAe : va_A (rw_W h q g hm qm gm so sg sx I A M MB L) s.heap.size = B9 at hD ⊢
  have hA : ∀ q : Nat, s.heap.size ≤ q → B9 q := fun q h => by rw [← hAe]; exact Or.inr h
  clear hAe
  have hS : va_S B9 s.heap s.heap [] := va_S.rf
  have hl := lv_entry ([.ref h, .int k1]) (n := 4) (Nat.le_of_ble_eq_true rfl)
  rw [lg_entry_eq]
  generalize (lg_sl ([.ref h, .int k1]) ++ List.replicate (4 - (lg_sl ([.ref h, .int k1])).length) Slot.unset).toArray = ls at hl ⊢
  have hl : lv_has ls 4 [(0, .ref h), (1, .int k1)] := hl
  have blk108 : ∀ (I : MI) (A : MA) (M : MI) (MB : MA) (L : ML) (X : Nat → Int32) (Y : Nat → Int64) (ls : Array Slot) (H : Heap) (locs : List Loc), f_P_repeatPart_108 sx I A M MB L X Y = some (r, I', A', M', MB', L') → lv_has ls 4 [(0, .ref h), (1, .int (X 1)), (2, .int (X 2)), (3, .int (X 3))] → va_P (dC, dI) vwCl (rw_W h q g hm qm gm so sg sx I A M MB L) H → va_D B9 (rw_W h q g hm qm gm so sg sx I A M MB L) → va_S B9 s.heap H locs → W p l e (headSpec w_P_repeatPart ({ frames := 1, cells := 0, slots := 0, locals := 22 })).room s m ([.ref h, .int k1] : List Value).toArray below meth c H locs 0 0 (MQ below (va_Qv (fun (u : Unit) => u = u) (fun (_ : Unit) t => va_P (dC, dI) vwCl (rw_W h q g hm qm gm so sg sx I' A' M' MB' L') t.heap ∧ va_K (dC, dI) vwCl (rw_T h q g hm qm gm so sg sx) t ∧ va_D B9 (rw_W h q g hm qm gm so sg sx I' A' M' MB' L')) B9) ([.ref h, .int k1] : List Value).toArray s 0 0 B9) (F0 m 108 ls []) := by
    intro I A M MB L X Y ls H locs hf hl hP hD hS
    unfold f_P_repeatPart_108 at hf
    obtain ⟨e0, e1, e2, e3, e4, e5⟩ := wk_inj5 hf
    subst e0
    subst e1
    subst e2
    subst e3
    subst e4
    subst e5
    exact W.vret hx hb hr (fun t ht hW => ⟨⟨(), rfl, rfl, by rw [ht]; exact hP, va_K.moved hW.alike hK, hD⟩, hS.F ht⟩) hS.2.2 d_P_repeatPart_108
  have blk66 : ∀ (I : MI) (A : MA) (M : MI) (MB : MA) (L : ML) (X : Nat → Int32) (Y : Nat → Int64) (ls : Array Slot) (H : Heap) (locs : List Loc), f_P_repeatPart_66 sx I A M MB L X Y = some (r, I', A', M', MB', L') → lv_has ls 4 [(0, .ref h), (1, .int (X 1)), (2, .int (X 2)), (3, .int (X 3))] → va_P (dC, dI) vwCl (rw_W h q g hm qm gm so sg sx I A M MB L) H → va_D B9 (rw_W h q g hm qm gm so sg sx I A M MB L) → va_S B9 s.heap H locs → W p l e (headSpec w_P_repeatPart ({ frames := 1, cells := 0, slots := 0, locals := 22 })).room s m ([.ref h, .int k1] : List Value).toArray below meth c H locs 0 0 (MQ below (va_Qv (fun (u : Unit) => u = u) (fun (_ : Unit) t => va_P (dC, dI) vwCl (rw_W h q g hm qm gm so sg sx I' A' M' MB' L') t.heap ∧ va_K (dC, dI) vwCl (rw_T h q g hm qm gm so sg sx) t ∧ va_D B9 (rw_W h q g hm qm gm so sg sx I' A' M' MB' L')) B9) ([.ref h, .int k1] : List Value).toArray s 0 0 B9) (F0 m 66 ls []) := by
    intro I A M MB L X Y ls H locs hf hl hP hD hS
    unfold f_P_repeatPart_66 at hf
    refine lv_aload_n hx hb d_P_repeatPart_66 rfl (lv_at hl 0 rfl) ?_
    refine va_get (D := (dC, dI)) (ci := 2) (v := .ref hm) (C := R_P) (T := F_P) (N := 13) hx hb hts (fun w h => List.mem_cons_of_mem _ (in_P w h)) hown hK hP 0 rfl rfl 4 (by decide) (hts _ (List.mem_cons_of_mem _ lk_331)) (fun _ h9 => h9) rfl d_P_repeatPart_67 ?_
    refine va_get (D := (dC, dI)) (ci := 3) (v := .ref (qm 1)) (C := R_A) (T := F_A) (N := 10) hx hb hts (fun w h => List.mem_cons_of_mem _ (in_A w h)) hown hK hP 5 rfl rfl 1 (by decide) (hts _ (List.mem_cons_of_mem _ lk_358)) (fun _ h9 => h9) rfl d_P_repeatPart_70 ?_
    refine lv_aload_n hx hb d_P_repeatPart_73 rfl (lv_at hl 0 rfl) ?_
    refine va_get (D := (dC, dI)) (ci := 2) (v := .int (I 12)) (C := R_P) (T := F_P) (N := 13) hx hb hts (fun w h => List.mem_cons_of_mem _ (in_P w h)) hown hK hP 0 rfl rfl 12 (by decide) (hts _ (List.mem_cons_of_mem _ lk_344)) (fun _ h9 => h9) rfl d_P_repeatPart_74 ?_
    refine lv_iload_n hx hb d_P_repeatPart_77 rfl (lv_at hl 3 rfl) ?_
    obtain ⟨hc1, hf⟩ := wk_if hf
    refine va_iast hx hb hK hP hD hS 7 5 rfl rfl (wk_inb_ok hc1) d_P_repeatPart_78 (fun H locs hP hD hS => ?_)
    obtain ⟨MB1, hMB1, hf⟩ := wk_letE hf
    have hP : va_P (dC, dI) vwCl (rw_W h q g hm qm gm so sg sx I A M MB1 L) H := by rw [hMB1]; exact hP
    have hD : va_D B9 (rw_W h q g hm qm gm so sg sx I A M MB1 L) := by rw [hMB1]; exact hD
    clear hMB1
    refine lv_aload_n hx hb d_P_repeatPart_79 rfl (lv_at hl 0 rfl) ?_
    refine lv_iload_n hx hb d_P_repeatPart_80 rfl (lv_at hl 3 rfl) ?_
    refine va_put (D := (dC, dI)) (ci := 2) (v := .int (X 3)) (ty := .int) (C := R_P) (T := F_P) (N := 13) hx hb hts (fun w h => List.mem_cons_of_mem _ (in_P w h)) t_P tk_P n_P hown hK hP hD hS 0 rfl rfl 12 (by decide) (hts _ (List.mem_cons_of_mem _ lk_344)) (fun _ h9 => h9) rfl (by decide +kernel) rfl rfl (Nat.le_of_ble_eq_true rfl) d_P_repeatPart_81 (fun H locs hP hD hS => ?_)
    obtain ⟨I2, hI2, hf⟩ := wk_letE hf
    have hP : va_P (dC, dI) vwCl (rw_W h q g hm qm gm so sg sx I2 A M MB1 L) H := by rw [hI2]; exact hP
    have hD : va_D B9 (rw_W h q g hm qm gm so sg sx I2 A M MB1 L) := by rw [hI2]; exact hD
    clear hI2
    refine lv_iload_n hx hb d_P_repeatPart_84 rfl (lv_at hl 1 rfl) ?_
    refine lv_bipush (v := 43) hx hb d_P_repeatPart_85 (by decide) ?_
    refine lv_icmp_eq (tgt := 108) hx hb d_P_repeatPart_87 (by decide) (fun hc2 => ?_) (fun hc2 => ?_)
    ·
      have hf := wk_ift hc2 hf
      exact blk108 I2 A M MB1 L X Y _ _ _ hf (lv_sub hl [0, 1, 2, 3] rfl) hP hD hS
    ·
      have hf := wk_iff hc2 hf
      refine lv_aload_n hx hb d_P_repeatPart_90 rfl (lv_at hl 0 rfl) ?_
      refine va_get (D := (dC, dI)) (ci := 2) (v := .ref hm) (C := R_P) (T := F_P) (N := 13) hx hb hts (fun w h => List.mem_cons_of_mem _ (in_P w h)) hown hK hP 0 rfl rfl 4 (by decide) (hts _ (List.mem_cons_of_mem _ lk_331)) (fun _ h9 => h9) rfl d_P_repeatPart_91 ?_
      refine va_get (D := (dC, dI)) (ci := 3) (v := .ref (qm 1)) (C := R_A) (T := F_A) (N := 10) hx hb hts (fun w h => List.mem_cons_of_mem _ (in_A w h)) hown hK hP 5 rfl rfl 1 (by decide) (hts _ (List.mem_cons_of_mem _ lk_358)) (fun _ h9 => h9) rfl d_P_repeatPart_94 ?_
      refine lv_aload_n hx hb d_P_repeatPart_97 rfl (lv_at hl 0 rfl) ?_
      refine va_get (D := (dC, dI)) (ci := 2) (v := .int (I2 10)) (C := R_P) (T := F_P) (N := 13) hx hb hts (fun w h => List.mem_cons_of_mem _ (in_P w h)) hown hK hP 0 rfl rfl 10 (by decide) (hts _ (List.mem_cons_of_mem _ lk_342)) (fun _ h9 => h9) rfl d_P_repeatPart_98 ?_
      refine lv_iload_n hx hb d_P_repeatPart_101 rfl (lv_at hl 2 rfl) ?_
      obtain ⟨hc3, hf⟩ := wk_if hf
      refine va_iast hx hb hK hP hD hS 7 5 rfl rfl (wk_inb_ok hc3) d_P_repeatPart_102 (fun H locs hP hD hS => ?_)
      obtain ⟨MB3, hMB3, hf⟩ := wk_letE hf
      have hP : va_P (dC, dI) vwCl (rw_W h q g hm qm gm so sg sx I2 A M MB3 L) H := by rw [hMB3]; exact hP
      have hD : va_D B9 (rw_W h q g hm qm gm so sg sx I2 A M MB3 L) := by rw [hMB3]; exact hD
      clear hMB3
      refine lv_aload_n hx hb d_P_repeatPart_103 rfl (lv_at hl 0 rfl) ?_
      refine lv_iload_n hx hb d_P_repeatPart_104 rfl (lv_at hl 2 rfl) ?_
      refine va_put (D := (dC, dI)) (ci := 2) (v := .int (X 2)) (ty := .int) (C := R_P) (T := F_P) (N := 13) hx hb hts (fun w h => List.mem_cons_of_mem _ (in_P w h)) t_P tk_P n_P hown hK hP hD hS 0 rfl rfl 11 (by decide) (hts _ (List.mem_cons_of_mem _ lk_343)) (fun _ h9 => h9) rfl (by decide +kernel) rfl rfl (Nat.le_of_ble_eq_true rfl) d_P_repeatPart_105 (fun H locs hP hD hS => ?_)
      obtain ⟨I4, hI4, hf⟩ := wk_letE hf
      have hP : va_P (dC, dI) vwCl (rw_W h q g hm qm gm so sg sx I4 A M MB3 L) H := by rw [hI4]; exact hP
      have hD : va_D B9 (rw_W h q g hm qm gm so sg sx I4 A M MB3 L) := by rw [hI4]; exact hD
      clear hI4
      exact blk108 I4 A M MB3 L X Y _ _ _ hf (lv_sub hl [0, 1, 2, 3] rfl) hP hD hS
  unfold f_P_repeatPart at hf
  refine lv_aload_n hx hb d_P_repeatPart_0 rfl (lv_at hl 0 rfl) ?_
  refine va_get (D := (dC, dI)) (ci := 2) (v := .int (I 11)) (C := R_P) (T := F_P) (N := 13) hx hb hts (fun w h => List.mem_cons_of_mem _ (in_P w h)) hown hK hP 0 rfl rfl 11 (by decide) (hts _ (List.mem_cons_of_mem _ lk_343)) (fun _ h9 => h9) rfl d_P_repeatPart_1 ?_
  refine lv_iconst (v := (-1)) hx hb d_P_repeatPart_4 (by decide) ?_
  refine lv_icmp_ne (tgt := 17) hx hb d_P_repeatPart_5 (by decide) (fun hc1 => ?_) (fun hc1 => ?_)
  ·
    have hf := wk_iff hc1 hf
    refine lv_aload_n hx hb d_P_repeatPart_17 rfl (lv_at hl 0 rfl) ?_
    refine va_get (D := (dC, dI)) (ci := 2) (v := .ref hm) (C := R_P) (T := F_P) (N := 13) hx hb hts (fun w h => List.mem_cons_of_mem _ (in_P w h)) hown hK hP 0 rfl rfl 4 (by decide) (hts _ (List.mem_cons_of_mem _ lk_331)) (fun _ h9 => h9) rfl d_P_repeatPart_18 ?_
    refine lv_iconst (v := 0) hx hb d_P_repeatPart_21 (by decide) ?_
    have hPc := hP.sub (ws' := (aw_W hm qm gm M MB L)) [5, 6, 7, 8, 9, 10] rfl
    have hDc := hD.sub (ws' := (aw_W hm qm gm M MB L)) [5, 6, 7, 8, 9, 10] (by decide) rfl
    have hKc := hK.sub (tys' := (aw_T hm qm gm)) [4, 5, 6, 7, 8] rfl
    have hFc := va_free (wc := (aw_W hm qm gm M MB L)) hD hS hA [5, 6, 7, 8, 9, 10] rfl
    cases hg1 : f_A_addNode M MB L 0 with
    | none => rw [hg1] at hf; cases hf
    | some z1 =>
      obtain ⟨r1, M1, MB1, L1⟩ := z1
      rw [hg1] at hf
      dsimp only [Option.bind_some] at hf
      refine va_calli (va_runV (As := [.int 0]) (rest := []) ⟨hx, hb, hml, hown, hts⟩ (cm_A_addNode l dC dI hm qm gm _  M MB L 0 r1 M1 MB1 L1 hg1) (cwV 1 hts (gd_v lk_335 lk_336 lk_337 lk_274 lk_334) rfl rfl rfl (by decide +kernel) ⟨Nat.le_of_ble_eq_true rfl, Nat.le_of_ble_eq_true rfl⟩) ⟨fun a U g mk q => by obtain ⟨q0, q1, qP, qK, qD⟩ := q; exact ⟨q0, q1, qP, va_K.moved (u := U) (U := U.calling g mk a) (Vm.Alike.refl U.vm) qK, qD⟩, va_recv (ci := 3) (q0 := 5) hK hP rfl rfl, fun U hU hW => ⟨rfl, by rw [hU], by rw [hU]; exact hPc, va_K.moved hW.alike hKc, hDc.weaken (fun _ _ _ _ => trivial)⟩⟩ rfl rfl hl.1 rfl (lv_room (Nat.le_of_ble_eq_true rfl)) d_P_repeatPart_22 ⟨Nat.le_of_ble_eq_true rfl, Nat.le_of_ble_eq_true rfl⟩) hS (fun q _ h => hFc q h) hFc (fun r9 u t H1 locs ht hvm hw hB hz1 hk1 hS => ?_)
      obtain ⟨hP1, hK1, hD1⟩ := hB
      rw [ht] at hP1
      rw [hw]
      obtain ⟨hP, hD⟩ := va_join (wr := (([0, 1, 2, 3, 4, 11] : List Nat).map (fun i => ((rw_W h q g hm qm gm so sg sx I A M MB L)).getD i (0, .inr (0, []))))) (w1 := (aw_W hm qm gm M1 MB1 L1)) hP hD [5, 6, 7, 8, 9, 10] [0, 1, 2, 3, 4, 11] rfl rfl (by decide) (by decide) hk1 hFc hP1 hD1
      generalize H1 = H at hP hS ⊢
      have hP := hP.sub (ws' := (rw_W h q g hm qm gm so sg sx I A M1 MB1 L1)) [0, 1, 2, 3, 4, 6, 7, 8, 9, 10, 11, 5] rfl
      have hD := hD.sub (ws' := (rw_W h q g hm qm gm so sg sx I A M1 MB1 L1)) [0, 1, 2, 3, 4, 6, 7, 8, 9, 10, 11, 5] (by decide) rfl
      refine lv_istore_n (lv' := [(2, .int r1), (0, .ref h), (1, .int k1)]) hx hb d_P_repeatPart_25 rfl hl (by decide) rfl (fun ls hl => ?_)
      have hl : lv_has ls 4 [(2, .int r1), (0, .ref h), (1, .int k1)] := hl
      refine lv_aload_n hx hb d_P_repeatPart_26 rfl (lv_at hl 1 rfl) ?_
      refine va_get (D := (dC, dI)) (ci := 2) (v := .ref hm) (C := R_P) (T := F_P) (N := 13) hx hb hts (fun w h => List.mem_cons_of_mem _ (in_P w h)) hown hK hP 0 rfl rfl 4 (by decide) (hts _ (List.mem_cons_of_mem _ lk_331)) (fun _ h9 => h9) rfl d_P_repeatPart_27 ?_
      refine va_get (D := (dC, dI)) (ci := 3) (v := .ref (qm 2)) (C := R_A) (T := F_A) (N := 10) hx hb hts (fun w h => List.mem_cons_of_mem _ (in_A w h)) hown hK hP 5 rfl rfl 2 (by decide) (hts _ (List.mem_cons_of_mem _ lk_367)) (fun _ h9 => h9) rfl d_P_repeatPart_30 ?_
      refine lv_iload_n hx hb d_P_repeatPart_33 rfl (lv_at hl 0 rfl) ?_
      refine lv_aload_n hx hb d_P_repeatPart_34 rfl (lv_at hl 1 rfl) ?_
      refine va_get (D := (dC, dI)) (ci := 2) (v := .int (I 11)) (C := R_P) (T := F_P) (N := 13) hx hb hts (fun w h => List.mem_cons_of_mem _ (in_P w h)) hown hK hP 0 rfl rfl 11 (by decide) (hts _ (List.mem_cons_of_mem _ lk_343)) (fun _ h9 => h9) rfl d_P_repeatPart_35 ?_
      obtain ⟨hc2, hf⟩ := wk_if hf
      refine va_iast hx hb hK hP hD hS 8 6 rfl rfl (wk_inb_ok hc2) d_P_repeatPart_38 (fun H locs hP hD hS => ?_)
      obtain ⟨MB2, hMB2, hf⟩ := wk_letE hf
      have hP : va_P (dC, dI) vwCl (rw_W h q g hm qm gm so sg sx I A M1 MB2 L1) H := by rw [hMB2]; exact hP
      have hD : va_D B9 (rw_W h q g hm qm gm so sg sx I A M1 MB2 L1) := by rw [hMB2]; exact hD
      clear hMB2
      refine lv_iload_n hx hb d_P_repeatPart_39 rfl (lv_at hl 0 rfl) ?_
      refine lv_istore_n (lv' := [(3, .int r1), (2, .int r1), (0, .ref h), (1, .int k1)]) hx hb d_P_repeatPart_40 rfl hl (by decide) rfl (fun ls hl => ?_)
      have hl : lv_has ls 4 [(3, .int r1), (2, .int r1), (0, .ref h), (1, .int k1)] := hl
      refine lv_iload_n hx hb d_P_repeatPart_41 rfl (lv_at hl 3 rfl) ?_
      refine lv_bipush (v := 63) hx hb d_P_repeatPart_42 (by decide) ?_
      refine lv_icmp_ne (tgt := 66) hx hb d_P_repeatPart_44 (by decide) (fun hc3 => ?_) (fun hc3 => ?_)
      ·
        have hf := wk_iff hc3 hf
        exact blk66 I A M1 MB2 L1 (upd (upd (upd (fun _ => 0) 1 k1) 2 r1) 3 r1) (fun _ => 0) _ _ _ hf (lv_sub hl [2, 3, 1, 0] rfl) hP hD hS
      ·
        have hf := wk_ift hc3 hf
        refine lv_aload_n hx hb d_P_repeatPart_47 rfl (lv_at hl 2 rfl) ?_
        refine va_get (D := (dC, dI)) (ci := 2) (v := .ref hm) (C := R_P) (T := F_P) (N := 13) hx hb hts (fun w h => List.mem_cons_of_mem _ (in_P w h)) hown hK hP 0 rfl rfl 4 (by decide) (hts _ (List.mem_cons_of_mem _ lk_331)) (fun _ h9 => h9) rfl d_P_repeatPart_48 ?_
        refine lv_iconst (v := 0) hx hb d_P_repeatPart_51 (by decide) ?_
        have hPc := hP.sub (ws' := (aw_W hm qm gm M1 MB2 L1)) [5, 6, 7, 8, 9, 10] rfl
        have hDc := hD.sub (ws' := (aw_W hm qm gm M1 MB2 L1)) [5, 6, 7, 8, 9, 10] (by decide) rfl
        have hKc := hK.sub (tys' := (aw_T hm qm gm)) [4, 5, 6, 7, 8] rfl
        have hFc := va_free (wc := (aw_W hm qm gm M1 MB2 L1)) hD hS hA [5, 6, 7, 8, 9, 10] rfl
        cases hg3 : f_A_addNode M1 MB2 L1 0 with
        | none => rw [hg3] at hf; cases hf
        | some z3 =>
          obtain ⟨r3, M3, MB3, L3⟩ := z3
          rw [hg3] at hf
          dsimp only [Option.bind_some] at hf
          refine va_calli (va_runV (As := [.int 0]) (rest := []) ⟨hx, hb, hml, hown, hts⟩ (cm_A_addNode l dC dI hm qm gm _  M1 MB2 L1 0 r3 M3 MB3 L3 hg3) (cwV 1 hts (gd_v lk_335 lk_336 lk_337 lk_274 lk_334) rfl rfl rfl (by decide +kernel) ⟨Nat.le_of_ble_eq_true rfl, Nat.le_of_ble_eq_true rfl⟩) ⟨fun a U g mk q => by obtain ⟨q0, q1, qP, qK, qD⟩ := q; exact ⟨q0, q1, qP, va_K.moved (u := U) (U := U.calling g mk a) (Vm.Alike.refl U.vm) qK, qD⟩, va_recv (ci := 3) (q0 := 5) hK hP rfl rfl, fun U hU hW => ⟨rfl, by rw [hU], by rw [hU]; exact hPc, va_K.moved hW.alike hKc, hDc.weaken (fun _ _ _ _ => trivial)⟩⟩ rfl rfl hl.1 rfl (lv_room (Nat.le_of_ble_eq_true rfl)) d_P_repeatPart_52 ⟨Nat.le_of_ble_eq_true rfl, Nat.le_of_ble_eq_true rfl⟩) hS (fun q _ h => hFc q h) hFc (fun r9 u t H1 locs ht hvm hw hB hz1 hk1 hS => ?_)
          obtain ⟨hP1, hK1, hD1⟩ := hB
          rw [ht] at hP1
          rw [hw]
          obtain ⟨hP, hD⟩ := va_join (wr := (([0, 1, 2, 3, 4, 11] : List Nat).map (fun i => ((rw_W h q g hm qm gm so sg sx I A M1 MB2 L1)).getD i (0, .inr (0, []))))) (w1 := (aw_W hm qm gm M3 MB3 L3)) hP hD [5, 6, 7, 8, 9, 10] [0, 1, 2, 3, 4, 11] rfl rfl (by decide) (by decide) hk1 hFc hP1 hD1
          generalize H1 = H at hP hS ⊢
          have hP := hP.sub (ws' := (rw_W h q g hm qm gm so sg sx I A M3 MB3 L3)) [0, 1, 2, 3, 4, 6, 7, 8, 9, 10, 11, 5] rfl
          have hD := hD.sub (ws' := (rw_W h q g hm qm gm so sg sx I A M3 MB3 L3)) [0, 1, 2, 3, 4, 6, 7, 8, 9, 10, 11, 5] (by decide) rfl
          refine lv_istore_n (lv' := [(3, .int r3), (2, .int r1), (0, .ref h), (1, .int k1)]) hx hb d_P_repeatPart_55 rfl hl (by decide) rfl (fun ls hl => ?_)
          have hl : lv_has ls 4 [(3, .int r3), (2, .int r1), (0, .ref h), (1, .int k1)] := hl
          refine lv_aload_n hx hb d_P_repeatPart_56 rfl (lv_at hl 2 rfl) ?_
          refine va_get (D := (dC, dI)) (ci := 2) (v := .ref hm) (C := R_P) (T := F_P) (N := 13) hx hb hts (fun w h => List.mem_cons_of_mem _ (in_P w h)) hown hK hP 0 rfl rfl 4 (by decide) (hts _ (List.mem_cons_of_mem _ lk_331)) (fun _ h9 => h9) rfl d_P_repeatPart_57 ?_
          refine va_get (D := (dC, dI)) (ci := 3) (v := .ref (qm 1)) (C := R_A) (T := F_A) (N := 10) hx hb hts (fun w h => List.mem_cons_of_mem _ (in_A w h)) hown hK hP 5 rfl rfl 1 (by decide) (hts _ (List.mem_cons_of_mem _ lk_358)) (fun _ h9 => h9) rfl d_P_repeatPart_60 ?_
          refine lv_iload_n hx hb d_P_repeatPart_63 rfl (lv_at hl 1 rfl) ?_
          refine lv_iload_n hx hb d_P_repeatPart_64 rfl (lv_at hl 0 rfl) ?_
          obtain ⟨hc4, hf⟩ := wk_if hf
          refine va_iast hx hb hK hP hD hS 7 5 rfl rfl (wk_inb_ok hc4) d_P_repeatPart_65 (fun H locs hP hD hS => ?_)
          obtain ⟨MB4, hMB4, hf⟩ := wk_letE hf
          have hP : va_P (dC, dI) vwCl (rw_W h q g hm qm gm so sg sx I A M3 MB4 L3) H := by rw [hMB4]; exact hP
          have hD : va_D B9 (rw_W h q g hm qm gm so sg sx I A M3 MB4 L3) := by rw [hMB4]; exact hD
          clear hMB4
          exact blk66 I A M3 MB4 L3 (upd (upd (upd (fun _ => 0) 1 k1) 2 r1) 3 r3) (fun _ => 0) _ _ _ hf (lv_sub hl [2, 3, 1, 0] rfl) hP hD hS
  ·
    have hf := wk_ift hc1 hf
    refine lv_aload_n hx hb d_P_repeatPart_8 rfl (lv_at hl 0 rfl) ?_
    refine lv_aload_n hx hb d_P_repeatPart_9 rfl (lv_at hl 0 rfl) ?_
    refine va_get (D := (dC, dI)) (ci := 2) (v := .int (I 7)) (C := R_P) (T := F_P) (N := 13) hx hb hts (fun w h => List.mem_cons_of_mem _ (in_P w h)) hown hK hP 0 rfl rfl 7 (by decide) (hts _ (List.mem_cons_of_mem _ lk_329)) (fun _ h9 => h9) rfl d_P_repeatPart_10 ?_
    refine va_put (D := (dC, dI)) (ci := 2) (v := .int (I 7)) (ty := .int) (C := R_P) (T := F_P) (N := 13) hx hb hts (fun w h => List.mem_cons_of_mem _ (in_P w h)) t_P tk_P n_P hown hK hP hD hS 0 rfl rfl 9 (by decide) (hts _ (List.mem_cons_of_mem _ lk_330)) (fun _ h9 => h9) rfl (by decide +kernel) rfl rfl (Nat.le_of_ble_eq_true rfl) d_P_repeatPart_13 (fun H locs hP hD hS => ?_)
    obtain ⟨I1, hI1, hf⟩ := wk_letE hf
    have hP : va_P (dC, dI) vwCl (rw_W h q g hm qm gm so sg sx I1 A M MB L) H := by rw [hI1]; exact hP
    have hD : va_D B9 (rw_W h q g hm qm gm so sg sx I1 A M MB L) := by rw [hI1]; exact hD
    clear hI1
    obtain ⟨e0, e1, e2, e3, e4, e5⟩ := wk_inj5 hf
    subst e0
    subst e1
    subst e2
    subst e3
    subst e4
    subst e5
    exact W.vret hx hb hr (fun t ht hW => ⟨⟨(), rfl, rfl, by rw [ht]; exact hP, va_K.moved hW.alike hK, hD⟩, hS.F ht⟩) hS.2.2 d_P_repeatPart_16

set_option maxHeartbeats 8000000 in
set_option maxRecDepth 100000 in
theorem cm_P_addNodeAsPart (l : Launch) (dC : Nat → ClassId) (dI : Nat → Nat → Nat) (h : Nat) (q : Nat → Nat) (g : Nat → ClassId) (hm : Nat) (qm : Nat → Nat) (gm : Nat → ClassId) (so : Nat) (sg : ClassId) (sx : Nat → Int32) (sz : Nat) (I : MI) (A : MA) (M : MI) (MB : MA) (L : ML) (k1 : Int32) (r : Int32) (I' : MI) (A' : MA) (M' : MI) (MB' : MA) (L' : ML) (hf : f_P_addNodeAsPart sx I A M MB L  k1 = some (r, I', A', M', MB', L')) : Met l y_P_addNodeAsPart w_P_addNodeAsPart ({ frames := 1, cells := 0, slots := 0, locals := 22 }) (va_Pc [.ref h, .int k1] (fun U => U.heap.size = sz ∧ va_P (dC, dI) vwCl (rw_W h q g hm qm gm so sg sx I A M MB L) U.heap ∧ va_K (dC, dI) vwCl (rw_T h q g hm qm gm so sg sx) U ∧ va_D (fun _ => True) (rw_W h q g hm qm gm so sg sx I A M MB L))) (va_Qi (fun (r9 : Int32) (_ : Unit) => r9 = r) (fun (_ : Unit) t => va_P (dC, dI) vwCl (rw_W h q g hm qm gm so sg sx I' A' M' MB' L') t.heap ∧ va_K (dC, dI) vwCl (rw_T h q g hm qm gm so sg sx) t ∧ va_D (va_A (rw_W h q g hm qm gm so sg sx I A M MB L) sz) (rw_W h q g hm qm gm so sg sx I' A' M' MB' L')) (va_A (rw_W h q g hm qm gm so sg sx I A M MB L) sz)) 0 0 (va_A (rw_W h q g hm qm gm so sg sx I A M MB L) sz) := by
  refine Met.ofW (cc := prog_3_method_17_code) (maxL := 3) (ret := (some .int)) (by decide) rfl ?_
  intro p e s m args below meth c s₁ B hml hv
  obtain ⟨rfl, hsz, hP, hK, hD0⟩ := hv
  have hx := B.exec
  have hb := B.bytes
  have hr := B.returns
  have hts := atoms_spec (ws := w_P_addNodeAsPart) B.pre
  have hown : s.vm.findClass "DraftTree$PatternReader" = some m.cls := findClass_of_methodNamed B.named
  have hlocks := B.notSynchronized
  subst hsz
  have hD := hD0.self (sz := s.heap.size)
  generalize hAe : va_A (rw_W h q g hm qm gm so sg sx I A M MB L) s.heap.size = B9 at hD ⊢
  have hA : ∀ q : Nat, s.heap.size ≤ q → B9 q := fun q h => by rw [← hAe]; exact Or.inr h
  clear hAe
  have hS : va_S B9 s.heap s.heap [] := va_S.rf
  have hl := lv_entry ([.ref h, .int k1]) (n := 3) (Nat.le_of_ble_eq_true rfl)
  rw [lg_entry_eq]
  generalize (lg_sl ([.ref h, .int k1]) ++ List.replicate (3 - (lg_sl ([.ref h, .int k1])).length) Slot.unset).toArray = ls at hl ⊢
  have hl : lv_has ls 3 [(0, .ref h), (1, .int k1)] := hl
  unfold f_P_addNodeAsPart at hf
  refine lv_aload_n hx hb d_P_addNodeAsPart_0 rfl (lv_at hl 0 rfl) ?_
  refine va_get (D := (dC, dI)) (ci := 2) (v := .ref hm) (C := R_P) (T := F_P) (N := 13) hx hb hts (fun w h => List.mem_cons_of_mem _ (in_P w h)) hown hK hP 0 rfl rfl 4 (by decide) (hts _ (List.mem_cons_of_mem _ lk_331)) (fun _ h9 => h9) rfl d_P_addNodeAsPart_1 ?_
  refine lv_iload_n hx hb d_P_addNodeAsPart_4 rfl (lv_at hl 1 rfl) ?_
  have hPc := hP.sub (ws' := (aw_W hm qm gm M MB L)) [5, 6, 7, 8, 9, 10] rfl
  have hDc := hD.sub (ws' := (aw_W hm qm gm M MB L)) [5, 6, 7, 8, 9, 10] (by decide) rfl
  have hKc := hK.sub (tys' := (aw_T hm qm gm)) [4, 5, 6, 7, 8] rfl
  have hFc := va_free (wc := (aw_W hm qm gm M MB L)) hD hS hA [5, 6, 7, 8, 9, 10] rfl
  cases hg1 : f_A_addNode M MB L k1 with
  | none => rw [hg1] at hf; cases hf
  | some z1 =>
    obtain ⟨r1, M1, MB1, L1⟩ := z1
    rw [hg1] at hf
    dsimp only [Option.bind_some] at hf
    refine va_calli (va_runV (As := [.int k1]) (rest := []) ⟨hx, hb, hml, hown, hts⟩ (cm_A_addNode l dC dI hm qm gm _  M MB L k1 r1 M1 MB1 L1 hg1) (cwV 1 hts (gd_v lk_335 lk_336 lk_337 lk_274 lk_334) rfl rfl rfl (by decide +kernel) ⟨Nat.le_of_ble_eq_true rfl, Nat.le_of_ble_eq_true rfl⟩) ⟨fun a U g mk q => by obtain ⟨q0, q1, qP, qK, qD⟩ := q; exact ⟨q0, q1, qP, va_K.moved (u := U) (U := U.calling g mk a) (Vm.Alike.refl U.vm) qK, qD⟩, va_recv (ci := 3) (q0 := 5) hK hP rfl rfl, fun U hU hW => ⟨rfl, by rw [hU], by rw [hU]; exact hPc, va_K.moved hW.alike hKc, hDc.weaken (fun _ _ _ _ => trivial)⟩⟩ rfl rfl hl.1 rfl (lv_room (Nat.le_of_ble_eq_true rfl)) d_P_addNodeAsPart_5 ⟨Nat.le_of_ble_eq_true rfl, Nat.le_of_ble_eq_true rfl⟩) hS (fun q _ h => hFc q h) hFc (fun r9 u t H1 locs ht hvm hw hB hz1 hk1 hS => ?_)
    obtain ⟨hP1, hK1, hD1⟩ := hB
    rw [ht] at hP1
    rw [hw]
    obtain ⟨hP, hD⟩ := va_join (wr := (([0, 1, 2, 3, 4, 11] : List Nat).map (fun i => ((rw_W h q g hm qm gm so sg sx I A M MB L)).getD i (0, .inr (0, []))))) (w1 := (aw_W hm qm gm M1 MB1 L1)) hP hD [5, 6, 7, 8, 9, 10] [0, 1, 2, 3, 4, 11] rfl rfl (by decide) (by decide) hk1 hFc hP1 hD1
    generalize H1 = H at hP hS ⊢
    have hP := hP.sub (ws' := (rw_W h q g hm qm gm so sg sx I A M1 MB1 L1)) [0, 1, 2, 3, 4, 6, 7, 8, 9, 10, 11, 5] rfl
    have hD := hD.sub (ws' := (rw_W h q g hm qm gm so sg sx I A M1 MB1 L1)) [0, 1, 2, 3, 4, 6, 7, 8, 9, 10, 11, 5] (by decide) rfl
    refine lv_istore_n (lv' := [(2, .int r1), (0, .ref h), (1, .int k1)]) hx hb d_P_addNodeAsPart_8 rfl hl (by decide) rfl (fun ls hl => ?_)
    have hl : lv_has ls 3 [(2, .int r1), (0, .ref h), (1, .int k1)] := hl
    refine lv_aload_n hx hb d_P_addNodeAsPart_9 rfl (lv_at hl 1 rfl) ?_
    refine lv_iload_n hx hb d_P_addNodeAsPart_10 rfl (lv_at hl 0 rfl) ?_
    refine lv_iload_n hx hb d_P_addNodeAsPart_11 rfl (lv_at hl 0 rfl) ?_
    have hPc := hP.sub (ws' := (rw_W h q g hm qm gm so sg sx I A M1 MB1 L1)) [0, 1, 2, 3, 4, 5, 6, 7, 8, 9, 10, 11] rfl
    have hDc := hD.sub (ws' := (rw_W h q g hm qm gm so sg sx I A M1 MB1 L1)) [0, 1, 2, 3, 4, 5, 6, 7, 8, 9, 10, 11] (by decide) rfl
    have hKc := hK.sub (tys' := (rw_T h q g hm qm gm so sg sx)) [0, 1, 2, 3, 4, 5, 6, 7, 8, 9] rfl
    have hFc := va_free (wc := (rw_W h q g hm qm gm so sg sx I A M1 MB1 L1)) hD hS hA [0, 1, 2, 3, 4, 5, 6, 7, 8, 9, 10, 11] rfl
    cases hg2 : f_P_addPart sx I A M1 MB1 L1 r1 r1 with
    | none => rw [hg2] at hf; cases hf
    | some z2 =>
      obtain ⟨r2, I2, A2, M2, MB2, L2⟩ := z2
      rw [hg2] at hf
      dsimp only [Option.bind_some] at hf
      refine va_callv (va_runV (As := [.int r1, .int r1]) (rest := []) ⟨hx, hb, hml, hown, hts⟩ (cm_P_addPart l dC dI h q g hm qm gm so sg sx _  I A M1 MB1 L1 r1 r1 r2 I2 A2 M2 MB2 L2 hg2) (cwV 2 hts (gd_v lk_360 lk_361 lk_362 lk_349 lk_359) rfl rfl rfl (by decide +kernel) ⟨Nat.le_of_ble_eq_true rfl, Nat.le_of_ble_eq_true rfl⟩) ⟨fun a U g mk q => by obtain ⟨q0, q1, qP, qK, qD⟩ := q; exact ⟨q0, q1, qP, va_K.moved (u := U) (U := U.calling g mk a) (Vm.Alike.refl U.vm) qK, qD⟩, va_recv (ci := 2) (q0 := 0) hK hP rfl rfl, fun U hU hW => ⟨rfl, by rw [hU], by rw [hU]; exact hPc, va_K.moved hW.alike hKc, hDc.weaken (fun _ _ _ _ => trivial)⟩⟩ rfl rfl hl.1 rfl (lv_room (Nat.le_of_ble_eq_true rfl)) d_P_addNodeAsPart_12 ⟨Nat.le_of_ble_eq_true rfl, Nat.le_of_ble_eq_true rfl⟩) hS (fun q _ h => hFc q h) hFc (fun u t H1 locs ht hvm hw hB hz1 hk1 hS => ?_)
      obtain ⟨hP1, hK1, hD1⟩ := hB
      rw [ht] at hP1
      obtain ⟨hP, hD⟩ := va_join (wr := (([] : List Nat).map (fun i => ((rw_W h q g hm qm gm so sg sx I A M1 MB1 L1)).getD i (0, .inr (0, []))))) (w1 := (rw_W h q g hm qm gm so sg sx I2 A2 M2 MB2 L2)) hP hD [0, 1, 2, 3, 4, 5, 6, 7, 8, 9, 10, 11] [] rfl rfl (by decide) (by decide) hk1 hFc hP1 hD1
      generalize H1 = H at hP hS ⊢
      have hP := hP.sub (ws' := (rw_W h q g hm qm gm so sg sx I2 A2 M2 MB2 L2)) [0, 1, 2, 3, 4, 5, 6, 7, 8, 9, 10, 11] rfl
      have hD := hD.sub (ws' := (rw_W h q g hm qm gm so sg sx I2 A2 M2 MB2 L2)) [0, 1, 2, 3, 4, 5, 6, 7, 8, 9, 10, 11] (by decide) rfl
      refine lv_iload_n hx hb d_P_addNodeAsPart_15 rfl (lv_at hl 0 rfl) ?_
      obtain ⟨e0, e1, e2, e3, e4, e5⟩ := wk_inj5 hf
      subst e0
      subst e1
      subst e2
      subst e3
      subst e4
      subst e5
      exact W.iret (v := r1) hx hb hr (fun t ht hW => ⟨⟨r1, (), rfl, rfl, by rw [ht]; exact hP, va_K.moved hW.alike hK, hD⟩, hS.F ht⟩) hS.2.2 d_P_addNodeAsPart_16

-- 18.ccon04
set_option maxHeartbeats 8000000 in
set_option maxRecDepth 100000 in
theorem cm_A_takeCodes (l : Launch) (dC : Nat → ClassId) (dI : Nat → Nat → Nat) (h : Nat) (q : Nat → Nat) (g : Nat → ClassId) (sz : Nat) (I : MI) (A : MA) (L : ML) (k1 : Int32) (k2 : Int32) (k3 : Int32) (r : Int32) (I' : MI) (A' : MA) (L' : ML) (hf : f_A_takeCodes I A L  k1 k2 k3 = some (r, I', A', L')) : Met l y_A_takeCodes w_A_takeCodes ({ frames := 0, cells := 0, slots := 0, locals := 0 }) (va_Pc [.ref h, .int k1, .int k2, .int k3] (fun U => U.heap.size = sz ∧ va_P (dC, dI) vwCl (aw_W h q g I A L) U.heap ∧ va_K (dC, dI) vwCl (aw_T h q g) U ∧ va_D (fun _ => True) (aw_W h q g I A L))) (va_Qv (fun (u : Unit) => u = u) (fun (_ : Unit) t => va_P (dC, dI) vwCl (aw_W h q g I' A' L') t.heap ∧ va_K (dC, dI) vwCl (aw_T h q g) t ∧ va_D (va_A (aw_W h q g I A L) sz) (aw_W h q g I' A' L')) (va_A (aw_W h q g I A L) sz)) 0 0 (va_A (aw_W h q g I A L) sz) := by
  refine Met.ofW (cc := prog_2_method_3_code) (maxL := 5) (ret := none) (by decide) rfl ?_
  intro p e s m args below meth c s₁ B hml hv
  obtain ⟨rfl, hsz, hP, hK, hD0⟩ := hv
  have hx := B.exec
  have hb := B.bytes
  have hr := B.returns
  have hts := atoms_spec (ws := w_A_takeCodes) B.pre
  have hown : s.vm.findClass "DraftTree$Automaton" = some m.cls := findClass_of_methodNamed B.named
  have hlocks := B.notSynchronized
  subst hsz
  have hD := hD0.self (sz := s.heap.size)
  generalize hAe : va_A (aw_W h q g I A L) s.heap.size = B9 at hD ⊢
  have hA : ∀ q : Nat, s.heap.size ≤ q → B9 q := fun q h => by rw [← hAe]; exact Or.inr h
  clear hAe
  have hS : va_S B9 s.heap s.heap [] := va_S.rf
  have hl := lv_entry ([.ref h, .int k1, .int k2, .int k3]) (n := 5) (Nat.le_of_ble_eq_true rfl)
  rw [lg_entry_eq]
  generalize (lg_sl ([.ref h, .int k1, .int k2, .int k3]) ++ List.replicate (5 - (lg_sl ([.ref h, .int k1, .int k2, .int k3])).length) Slot.unset).toArray = ls at hl ⊢
  have hl : lv_has ls 5 [(0, .ref h), (1, .int k1), (2, .int k2), (3, .int k3)] := hl
  have blk48 : ∀ (rc : Nat → MI → MA → ML → (Nat → Int32) → (Nat → Int64) → Option (Int32 × MI × MA × ML)) (hrc3 : ∀ (I : MI) (A : MA) (L : ML) (X : Nat → Int32) (Y : Nat → Int64) (ls : Array Slot) (H : Heap) (locs : List Loc), rc 3 I A L X Y = some (r, I', A', L') → lv_has ls 5 [(0, .ref h), (1, .int (X 1)), (2, .int (X 2)), (3, .int (X 3)), (4, .int (X 4))] → va_P (dC, dI) vwCl (aw_W h q g I A L) H → va_D B9 (aw_W h q g I A L) → va_S B9 s.heap H locs → W p l e (headSpec w_A_takeCodes ({ frames := 0, cells := 0, slots := 0, locals := 0 })).room s m ([.ref h, .int k1, .int k2, .int k3] : List Value).toArray below meth c H locs 0 0 (MQ below (va_Qv (fun (u : Unit) => u = u) (fun (_ : Unit) t => va_P (dC, dI) vwCl (aw_W h q g I' A' L') t.heap ∧ va_K (dC, dI) vwCl (aw_T h q g) t ∧ va_D B9 (aw_W h q g I' A' L')) B9) ([.ref h, .int k1, .int k2, .int k3] : List Value).toArray s 0 0 B9) (F0 m 3 ls [])), ∀ (I : MI) (A : MA) (L : ML) (X : Nat → Int32) (Y : Nat → Int64) (ls : Array Slot) (H : Heap) (locs : List Loc), f_A_takeCodes_48 rc I A L X Y = some (r, I', A', L') → lv_has ls 5 [(0, .ref h), (1, .int (X 1)), (2, .int (X 2)), (3, .int (X 3)), (4, .int (X 4))] → va_P (dC, dI) vwCl (aw_W h q g I A L) H → va_D B9 (aw_W h q g I A L) → va_S B9 s.heap H locs → W p l e (headSpec w_A_takeCodes ({ frames := 0, cells := 0, slots := 0, locals := 0 })).room s m ([.ref h, .int k1, .int k2, .int k3] : List Value).toArray below meth c H locs 0 0 (MQ below (va_Qv (fun (u : Unit) => u = u) (fun (_ : Unit) t => va_P (dC, dI) vwCl (aw_W h q g I' A' L') t.heap ∧ va_K (dC, dI) vwCl (aw_T h q g) t ∧ va_D B9 (aw_W h q g I' A' L')) B9) ([.ref h, .int k1, .int k2, .int k3] : List Value).toArray s 0 0 B9) (F0 m 48 ls []) := by
    intro rc hrc3 I A L X Y ls H locs hf hl hP hD hS
    unfold f_A_takeCodes_48 at hf
    refine lv_iinc (k := 4) (v := ((X 4) + 1)) (lv' := [(4, .int ((X 4) + 1)), (0, .ref h), (1, .int (X 1)), (2, .int (X 2)), (3, .int (X 3))]) hx hb d_A_takeCodes_48 hl rfl (wk_inc (by decide)) (by decide) rfl (fun ls hl => ?_)
    have hl : lv_has ls 5 [(4, .int ((X 4) + 1)), (0, .ref h), (1, .int (X 1)), (2, .int (X 2)), (3, .int (X 3))] := hl
    refine lv_goto (tgt := 3) hx hb d_A_takeCodes_51 (by decide) ?_
    exact hrc3 I A L (upd X 4 ((X 4) + 1)) Y _ _ _ hf (lv_sub hl [1, 2, 3, 4, 0] rfl) hP hD hS
  have stp3 : ∀ (rc : Nat → MI → MA → ML → (Nat → Int32) → (Nat → Int64) → Option (Int32 × MI × MA × ML)) (hrc3 : ∀ (I : MI) (A : MA) (L : ML) (X : Nat → Int32) (Y : Nat → Int64) (ls : Array Slot) (H : Heap) (locs : List Loc), rc 3 I A L X Y = some (r, I', A', L') → lv_has ls 5 [(0, .ref h), (1, .int (X 1)), (2, .int (X 2)), (3, .int (X 3)), (4, .int (X 4))] → va_P (dC, dI) vwCl (aw_W h q g I A L) H → va_D B9 (aw_W h q g I A L) → va_S B9 s.heap H locs → W p l e (headSpec w_A_takeCodes ({ frames := 0, cells := 0, slots := 0, locals := 0 })).room s m ([.ref h, .int k1, .int k2, .int k3] : List Value).toArray below meth c H locs 0 0 (MQ below (va_Qv (fun (u : Unit) => u = u) (fun (_ : Unit) t => va_P (dC, dI) vwCl (aw_W h q g I' A' L') t.heap ∧ va_K (dC, dI) vwCl (aw_T h q g) t ∧ va_D B9 (aw_W h q g I' A' L')) B9) ([.ref h, .int k1, .int k2, .int k3] : List Value).toArray s 0 0 B9) (F0 m 3 ls [])), ∀ (I : MI) (A : MA) (L : ML) (X : Nat → Int32) (Y : Nat → Int64) (ls : Array Slot) (H : Heap) (locs : List Loc), f_A_takeCodes_3 rc I A L X Y = some (r, I', A', L') → lv_has ls 5 [(0, .ref h), (1, .int (X 1)), (2, .int (X 2)), (3, .int (X 3)), (4, .int (X 4))] → va_P (dC, dI) vwCl (aw_W h q g I A L) H → va_D B9 (aw_W h q g I A L) → va_S B9 s.heap H locs → W p l e (headSpec w_A_takeCodes ({ frames := 0, cells := 0, slots := 0, locals := 0 })).room s m ([.ref h, .int k1, .int k2, .int k3] : List Value).toArray below meth c H locs 0 0 (MQ below (va_Qv (fun (u : Unit) => u = u) (fun (_ : Unit) t => va_P (dC, dI) vwCl (aw_W h q g I' A' L') t.heap ∧ va_K (dC, dI) vwCl (aw_T h q g) t ∧ va_D B9 (aw_W h q g I' A' L')) B9) ([.ref h, .int k1, .int k2, .int k3] : List Value).toArray s 0 0 B9) (F0 m 3 ls []) := by
    intro rc hrc3 I A L X Y ls H locs hf hl hP hD hS
    unfold f_A_takeCodes_3 at hf
    refine lv_iload hx hb d_A_takeCodes_3 (lv_at hl 4 rfl) ?_
    refine lv_iload_n hx hb d_A_takeCodes_5 rfl (lv_at hl 3 rfl) ?_
    refine lv_icmp_gt (tgt := 54) hx hb d_A_takeCodes_6 (by decide) (fun hc1 => ?_) (fun hc1 => ?_)
    ·
      have hf := wk_ift hc1 hf
      obtain ⟨e0, e1, e2, e3⟩ := wk_inj3 hf
      subst e0
      subst e1
      subst e2
      subst e3
      exact W.vret hx hb hr (fun t ht hW => ⟨⟨(), rfl, rfl, by rw [ht]; exact hP, va_K.moved hW.alike hK, hD⟩, hS.F ht⟩) hS.2.2 d_A_takeCodes_54
    ·
      have hf := wk_iff hc1 hf
      refine lv_iload hx hb d_A_takeCodes_9 (lv_at hl 4 rfl) ?_
      refine lv_bipush (v := 64) hx hb d_A_takeCodes_11 (by decide) ?_
      refine lv_icmp_ge (tgt := 32) hx hb d_A_takeCodes_13 (by decide) (fun hc2 => ?_) (fun hc2 => ?_)
      ·
        have hf := wk_ift hc2 hf
        refine lv_aload_n hx hb d_A_takeCodes_32 rfl (lv_at hl 0 rfl) ?_
        refine va_get (D := (dC, dI)) (ci := 3) (v := .ref (q 4)) (C := R_A) (T := F_A) (N := 10) hx hb hts (fun w h => List.mem_cons_of_mem _ (in_A w h)) hown hK hP 0 rfl rfl 4 (by decide) (hts _ (List.mem_cons_of_mem _ lk_285)) (fun _ h9 => h9) rfl d_A_takeCodes_33 ?_
        refine lv_iload_n hx hb d_A_takeCodes_36 rfl (lv_at hl 1 rfl) ?_
        refine lv_dup2_11 hx hb d_A_takeCodes_37 rfl rfl ?_
        obtain ⟨hc3, hf⟩ := wk_if hf
        refine va_lald hx hb hK hP 5 4 rfl rfl (wk_inb_ok hc3) d_A_takeCodes_38 ?_
        refine lv_lconst (v := 1) hx hb d_A_takeCodes_39 (by decide) ?_
        refine lv_iload hx hb d_A_takeCodes_40 (lv_at hl 4 rfl) ?_
        refine lv_bipush (v := 64) hx hb d_A_takeCodes_42 (by decide) ?_
        refine lv_isub hx hb d_A_takeCodes_44 ?_
        refine lv_lshl hx hb d_A_takeCodes_45 rfl ?_
        refine lv_lor hx hb d_A_takeCodes_46 ?_
        obtain ⟨hc4, hf⟩ := wk_if hf
        refine va_last hx hb hK hP hD hS 5 4 rfl rfl (wk_inb_ok hc4) d_A_takeCodes_47 (fun H locs hP hD hS => ?_)
        obtain ⟨L1, hL1, hf⟩ := wk_letE hf
        have hP : va_P (dC, dI) vwCl (aw_W h q g I A L1) H := by rw [hL1]; exact hP
        have hD : va_D B9 (aw_W h q g I A L1) := by rw [hL1]; exact hD
        clear hL1
        exact blk48 rc hrc3 I A L1 X Y _ _ _ hf (lv_sub hl [0, 1, 2, 3, 4] rfl) hP hD hS
      ·
        have hf := wk_iff hc2 hf
        refine lv_aload_n hx hb d_A_takeCodes_16 rfl (lv_at hl 0 rfl) ?_
        refine va_get (D := (dC, dI)) (ci := 3) (v := .ref (q 3)) (C := R_A) (T := F_A) (N := 10) hx hb hts (fun w h => List.mem_cons_of_mem _ (in_A w h)) hown hK hP 0 rfl rfl 3 (by decide) (hts _ (List.mem_cons_of_mem _ lk_286)) (fun _ h9 => h9) rfl d_A_takeCodes_17 ?_
        refine lv_iload_n hx hb d_A_takeCodes_20 rfl (lv_at hl 1 rfl) ?_
        refine lv_dup2_11 hx hb d_A_takeCodes_21 rfl rfl ?_
        obtain ⟨hc3, hf⟩ := wk_if hf
        refine va_lald hx hb hK hP 4 3 rfl rfl (wk_inb_ok hc3) d_A_takeCodes_22 ?_
        refine lv_lconst (v := 1) hx hb d_A_takeCodes_23 (by decide) ?_
        refine lv_iload hx hb d_A_takeCodes_24 (lv_at hl 4 rfl) ?_
        refine lv_lshl hx hb d_A_takeCodes_26 rfl ?_
        refine lv_lor hx hb d_A_takeCodes_27 ?_
        obtain ⟨hc4, hf⟩ := wk_if hf
        refine va_last hx hb hK hP hD hS 4 3 rfl rfl (wk_inb_ok hc4) d_A_takeCodes_28 (fun H locs hP hD hS => ?_)
        obtain ⟨L1, hL1, hf⟩ := wk_letE hf
        have hP : va_P (dC, dI) vwCl (aw_W h q g I A L1) H := by rw [hL1]; exact hP
        have hD : va_D B9 (aw_W h q g I A L1) := by rw [hL1]; exact hD
        clear hL1
        refine lv_goto (tgt := 48) hx hb d_A_takeCodes_29 (by decide) ?_
        exact blk48 rc hrc3 I A L1 X Y _ _ _ hf (lv_sub hl [0, 1, 2, 3, 4] rfl) hP hD hS
  have key : ∀ n : Nat, (∀ (I : MI) (A : MA) (L : ML) (X : Nat → Int32) (Y : Nat → Int64) (ls : Array Slot) (H : Heap) (locs : List Loc), f_A_takeCodes_go n 3 I A L X Y = some (r, I', A', L') → lv_has ls 5 [(0, .ref h), (1, .int (X 1)), (2, .int (X 2)), (3, .int (X 3)), (4, .int (X 4))] → va_P (dC, dI) vwCl (aw_W h q g I A L) H → va_D B9 (aw_W h q g I A L) → va_S B9 s.heap H locs → W p l e (headSpec w_A_takeCodes ({ frames := 0, cells := 0, slots := 0, locals := 0 })).room s m ([.ref h, .int k1, .int k2, .int k3] : List Value).toArray below meth c H locs 0 0 (MQ below (va_Qv (fun (u : Unit) => u = u) (fun (_ : Unit) t => va_P (dC, dI) vwCl (aw_W h q g I' A' L') t.heap ∧ va_K (dC, dI) vwCl (aw_T h q g) t ∧ va_D B9 (aw_W h q g I' A' L')) B9) ([.ref h, .int k1, .int k2, .int k3] : List Value).toArray s 0 0 B9) (F0 m 3 ls [])) := by
    intro n
    induction n with
    | zero => exact fun I A L X Y ls H locs hf => (by cases hf)
    | succ n ih =>
      have ih3 := ih
      exact stp3 (f_A_takeCodes_go n) ih3
  unfold f_A_takeCodes f_A_takeCodes_e at hf
  have hrc3 := key wk_FUEL
  refine lv_iload_n hx hb d_A_takeCodes_0 rfl (lv_at hl 2 rfl) ?_
  refine lv_istore (lv' := [(4, .int k2), (0, .ref h), (1, .int k1), (2, .int k2), (3, .int k3)]) hx hb d_A_takeCodes_1 hl (by decide) rfl (fun ls hl => ?_)
  have hl : lv_has ls 5 [(4, .int k2), (0, .ref h), (1, .int k1), (2, .int k2), (3, .int k3)] := hl
  exact hrc3 I A L (upd (upd (upd (upd (fun _ => 0) 1 k1) 2 k2) 3 k3) 4 k2) (fun _ => 0) _ _ _ hf (lv_sub hl [1, 2, 3, 4, 0] rfl) hP hD hS

set_option maxHeartbeats 8000000 in
set_option maxRecDepth 100000 in
theorem cm_P_readRange (l : Launch) (dC : Nat → ClassId) (dI : Nat → Nat → Nat) (h : Nat) (q : Nat → Nat) (g : Nat → ClassId) (hm : Nat) (qm : Nat → Nat) (gm : Nat → ClassId) (so : Nat) (sg : ClassId) (sx : Nat → Int32) (sz : Nat) (I : MI) (A : MA) (M : MI) (MB : MA) (L : ML) (k1 : Int32) (r : Int32) (I' : MI) (A' : MA) (M' : MI) (MB' : MA) (L' : ML) (hf : f_P_readRange sx I A M MB L  k1 = some (r, I', A', M', MB', L')) : Met l y_P_readRange w_P_readRange ({ frames := 1, cells := 0, slots := 0, locals := 24 }) (va_Pc [.ref h, .int k1] (fun U => U.heap.size = sz ∧ va_P (dC, dI) vwCl (rw_W h q g hm qm gm so sg sx I A M MB L) U.heap ∧ va_K (dC, dI) vwCl (rw_T h q g hm qm gm so sg sx) U ∧ va_D (fun _ => True) (rw_W h q g hm qm gm so sg sx I A M MB L))) (va_Qv (fun (u : Unit) => u = u) (fun (_ : Unit) t => va_P (dC, dI) vwCl (rw_W h q g hm qm gm so sg sx I' A' M' MB' L') t.heap ∧ va_K (dC, dI) vwCl (rw_T h q g hm qm gm so sg sx) t ∧ va_D (va_A (rw_W h q g hm qm gm so sg sx I A M MB L) sz) (rw_W h q g hm qm gm so sg sx I' A' M' MB' L')) (va_A (rw_W h q g hm qm gm so sg sx I A M MB L) sz)) 0 0 (va_A (rw_W h q g hm qm gm so sg sx I A M MB L) sz) := by
  refine Met.ofW (cc := prog_3_method_11_code) (maxL := 4) (ret := none) (by decide) rfl ?_
  intro p e s m args below meth c s₁ B hml hv
  obtain ⟨rfl, hsz, hP, hK, hD0⟩ := hv
  have hx := B.exec
  have hb := B.bytes
  have hr := B.returns
  have hts := atoms_spec (ws := w_P_readRange) B.pre
  have hown : s.vm.findClass "DraftTree$PatternReader" = some m.cls := findClass_of_methodNamed B.named
  have hlocks := B.notSynchronized
  subst hsz
  have hD := hD0.self (sz := s.heap.size)
  generalize hAe : va_A (rw_W h q g hm qm gm so sg sx I A M MB L) s.heap.size = B9 at hD ⊢
  have hA : ∀ q : Nat, s.heap.size ≤ q → B9 q := fun q h => by rw [← hAe]; exact Or.inr h
  clear hAe
  have hS : va_S B9 s.heap s.heap [] := va_S.rf
  have hl := lv_entry ([.ref h, .int k1]) (n := 4) (Nat.le_of_ble_eq_true rfl)
  rw [lg_entry_eq]
  generalize (lg_sl ([.ref h, .int k1]) ++ List.replicate (4 - (lg_sl ([.ref h, .int k1])).length) Slot.unset).toArray = ls at hl ⊢
  have hl : lv_has ls 4 [(0, .ref h), (1, .int k1)] := hl
  have blk133 : ∀ (I : MI) (A : MA) (M : MI) (MB : MA) (L : ML) (X : Nat → Int32) (Y : Nat → Int64) (ls : Array Slot) (H : Heap) (locs : List Loc), f_P_readRange_133 sx I A M MB L X Y = some (r, I', A', M', MB', L') → lv_has ls 4 [(0, .ref h), (1, .int (X 1)), (2, .int (X 2)), (3, .int (X 3))] → va_P (dC, dI) vwCl (rw_W h q g hm qm gm so sg sx I A M MB L) H → va_D B9 (rw_W h q g hm qm gm so sg sx I A M MB L) → va_S B9 s.heap H locs → W p l e (headSpec w_P_readRange ({ frames := 1, cells := 0, slots := 0, locals := 24 })).room s m ([.ref h, .int k1] : List Value).toArray below meth c H locs 0 0 (MQ below (va_Qv (fun (u : Unit) => u = u) (fun (_ : Unit) t => va_P (dC, dI) vwCl (rw_W h q g hm qm gm so sg sx I' A' M' MB' L') t.heap ∧ va_K (dC, dI) vwCl (rw_T h q g hm qm gm so sg sx) t ∧ va_D B9 (rw_W h q g hm qm gm so sg sx I' A' M' MB' L')) B9) ([.ref h, .int k1] : List Value).toArray s 0 0 B9) (F0 m 133 ls []) := by
    intro I A M MB L X Y ls H locs hf hl hP hD hS
    unfold f_P_readRange_133 at hf
    obtain ⟨e0, e1, e2, e3, e4, e5⟩ := wk_inj5 hf
    subst e0
    subst e1
    subst e2
    subst e3
    subst e4
    subst e5
    exact W.vret hx hb hr (fun t ht hW => ⟨⟨(), rfl, rfl, by rw [ht]; exact hP, va_K.moved hW.alike hK, hD⟩, hS.F ht⟩) hS.2.2 d_P_readRange_133
  have blk75 : ∀ (I : MI) (A : MA) (M : MI) (MB : MA) (L : ML) (X : Nat → Int32) (Y : Nat → Int64) (s0 : Int32) (ls : Array Slot) (H : Heap) (locs : List Loc), f_P_readRange_75 sx I A M MB L X Y s0 = some (r, I', A', M', MB', L') → lv_has ls 4 [(0, .ref h), (1, .int (X 1)), (2, .int (X 2))] → va_P (dC, dI) vwCl (rw_W h q g hm qm gm so sg sx I A M MB L) H → va_D B9 (rw_W h q g hm qm gm so sg sx I A M MB L) → va_S B9 s.heap H locs → W p l e (headSpec w_P_readRange ({ frames := 1, cells := 0, slots := 0, locals := 24 })).room s m ([.ref h, .int k1] : List Value).toArray below meth c H locs 0 0 (MQ below (va_Qv (fun (u : Unit) => u = u) (fun (_ : Unit) t => va_P (dC, dI) vwCl (rw_W h q g hm qm gm so sg sx I' A' M' MB' L') t.heap ∧ va_K (dC, dI) vwCl (rw_T h q g hm qm gm so sg sx) t ∧ va_D B9 (rw_W h q g hm qm gm so sg sx I' A' M' MB' L')) B9) ([.ref h, .int k1] : List Value).toArray s 0 0 B9) (F0 m 75 ls [.int s0]) := by
    intro I A M MB L X Y s0 ls H locs hf hl hP hD hS
    unfold f_P_readRange_75 at hf
    refine lv_istore_n (lv' := [(3, .int s0), (0, .ref h), (1, .int (X 1)), (2, .int (X 2))]) hx hb d_P_readRange_75 rfl hl (by decide) rfl (fun ls hl => ?_)
    have hl : lv_has ls 4 [(3, .int s0), (0, .ref h), (1, .int (X 1)), (2, .int (X 2))] := hl
    refine lv_iload_n hx hb d_P_readRange_76 rfl (lv_at hl 0 rfl) ?_
    refine lv_if_eq (tgt := 113) hx hb d_P_readRange_77 (by decide) (fun hc1 => ?_) (fun hc1 => ?_)
    ·
      have hf := wk_ift hc1 hf
      refine lv_aload_n hx hb d_P_readRange_113 rfl (lv_at hl 1 rfl) ?_
      refine va_get (D := (dC, dI)) (ci := 2) (v := .ref hm) (C := R_P) (T := F_P) (N := 13) hx hb hts (fun w h => List.mem_cons_of_mem _ (in_P w h)) hown hK hP 0 rfl rfl 4 (by decide) (hts _ (List.mem_cons_of_mem _ lk_331)) (fun _ h9 => h9) rfl d_P_readRange_114 ?_
      refine lv_iload_n hx hb d_P_readRange_117 rfl (lv_at hl 2 rfl) ?_
      refine lv_iload_n hx hb d_P_readRange_118 rfl (lv_at hl 3 rfl) ?_
      refine lv_iload_n hx hb d_P_readRange_119 rfl (lv_at hl 3 rfl) ?_
      have hPc := hP.sub (ws' := (aw_W hm qm gm M MB L)) [5, 6, 7, 8, 9, 10] rfl
      have hDc := hD.sub (ws' := (aw_W hm qm gm M MB L)) [5, 6, 7, 8, 9, 10] (by decide) rfl
      have hKc := hK.sub (tys' := (aw_T hm qm gm)) [4, 5, 6, 7, 8] rfl
      have hFc := va_free (wc := (aw_W hm qm gm M MB L)) hD hS hA [5, 6, 7, 8, 9, 10] rfl
      cases hg1 : f_A_takeCodes M MB L (X 1) (X 2) (X 2) with
      | none => rw [hg1] at hf; cases hf
      | some z1 =>
        obtain ⟨r1, M1, MB1, L1⟩ := z1
        rw [hg1] at hf
        dsimp only [Option.bind_some] at hf
        refine va_callv (va_runV (As := [.int (X 1), .int (X 2), .int (X 2)]) (rest := []) ⟨hx, hb, hml, hown, hts⟩ (cm_A_takeCodes l dC dI hm qm gm _  M MB L (X 1) (X 2) (X 2) r1 M1 MB1 L1 hg1) (cwV 3 hts (gd_v lk_377 lk_378 lk_379 lk_274 lk_376) rfl rfl rfl (by decide +kernel) ⟨Nat.le_of_ble_eq_true rfl, Nat.le_of_ble_eq_true rfl⟩) ⟨fun a U g mk q => by obtain ⟨q0, q1, qP, qK, qD⟩ := q; exact ⟨q0, q1, qP, va_K.moved (u := U) (U := U.calling g mk a) (Vm.Alike.refl U.vm) qK, qD⟩, va_recv (ci := 3) (q0 := 5) hK hP rfl rfl, fun U hU hW => ⟨rfl, by rw [hU], by rw [hU]; exact hPc, va_K.moved hW.alike hKc, hDc.weaken (fun _ _ _ _ => trivial)⟩⟩ rfl rfl hl.1 rfl (lv_room (Nat.le_of_ble_eq_true rfl)) d_P_readRange_120 ⟨Nat.le_of_ble_eq_true rfl, Nat.le_of_ble_eq_true rfl⟩) hS (fun q _ h => hFc q h) hFc (fun u t H1 locs ht hvm hw hB hz1 hk1 hS => ?_)
        obtain ⟨hP1, hK1, hD1⟩ := hB
        rw [ht] at hP1
        obtain ⟨hP, hD⟩ := va_join (wr := (([0, 1, 2, 3, 4, 11] : List Nat).map (fun i => ((rw_W h q g hm qm gm so sg sx I A M MB L)).getD i (0, .inr (0, []))))) (w1 := (aw_W hm qm gm M1 MB1 L1)) hP hD [5, 6, 7, 8, 9, 10] [0, 1, 2, 3, 4, 11] rfl rfl (by decide) (by decide) hk1 hFc hP1 hD1
        generalize H1 = H at hP hS ⊢
        have hP := hP.sub (ws' := (rw_W h q g hm qm gm so sg sx I A M1 MB1 L1)) [0, 1, 2, 3, 4, 6, 7, 8, 9, 10, 11, 5] rfl
        have hD := hD.sub (ws' := (rw_W h q g hm qm gm so sg sx I A M1 MB1 L1)) [0, 1, 2, 3, 4, 6, 7, 8, 9, 10, 11, 5] (by decide) rfl
        refine lv_aload_n hx hb d_P_readRange_123 rfl (lv_at hl 1 rfl) ?_
        refine lv_dup hx hb d_P_readRange_124 rfl ?_
        refine va_get (D := (dC, dI)) (ci := 2) (v := .int (I 7)) (C := R_P) (T := F_P) (N := 13) hx hb hts (fun w h => List.mem_cons_of_mem _ (in_P w h)) hown hK hP 0 rfl rfl 7 (by decide) (hts _ (List.mem_cons_of_mem _ lk_329)) (fun _ h9 => h9) rfl d_P_readRange_125 ?_
        refine lv_iconst (v := 1) hx hb d_P_readRange_128 (by decide) ?_
        refine lv_iadd hx hb d_P_readRange_129 ?_
        refine va_put (D := (dC, dI)) (ci := 2) (v := .int ((I 7) + 1)) (ty := .int) (C := R_P) (T := F_P) (N := 13) hx hb hts (fun w h => List.mem_cons_of_mem _ (in_P w h)) t_P tk_P n_P hown hK hP hD hS 0 rfl rfl 7 (by decide) (hts _ (List.mem_cons_of_mem _ lk_329)) (fun _ h9 => h9) rfl (by decide +kernel) rfl rfl (Nat.le_of_ble_eq_true rfl) d_P_readRange_130 (fun H locs hP hD hS => ?_)
        obtain ⟨I2, hI2, hf⟩ := wk_letE hf
        have hP : va_P (dC, dI) vwCl (rw_W h q g hm qm gm so sg sx I2 A M1 MB1 L1) H := by rw [hI2]; exact hP
        have hD : va_D B9 (rw_W h q g hm qm gm so sg sx I2 A M1 MB1 L1) := by rw [hI2]; exact hD
        clear hI2
        exact blk133 I2 A M1 MB1 L1 (upd X 3 s0) Y _ _ _ hf (lv_sub hl [1, 2, 3, 0] rfl) hP hD hS
    ·
      have hf := wk_iff hc1 hf
      refine lv_aload_n hx hb d_P_readRange_80 rfl (lv_at hl 1 rfl) ?_
      refine va_get (D := (dC, dI)) (ci := 2) (v := .ref hm) (C := R_P) (T := F_P) (N := 13) hx hb hts (fun w h => List.mem_cons_of_mem _ (in_P w h)) hown hK hP 0 rfl rfl 4 (by decide) (hts _ (List.mem_cons_of_mem _ lk_331)) (fun _ h9 => h9) rfl d_P_readRange_81 ?_
      refine lv_iload_n hx hb d_P_readRange_84 rfl (lv_at hl 2 rfl) ?_
      refine lv_iload_n hx hb d_P_readRange_85 rfl (lv_at hl 3 rfl) ?_
      refine lv_aload_n hx hb d_P_readRange_86 rfl (lv_at hl 1 rfl) ?_
      refine va_get (D := (dC, dI)) (ci := 2) (v := .ref so) (C := R_P) (T := F_P) (N := 13) hx hb hts (fun w h => List.mem_cons_of_mem _ (in_P w h)) hown hK hP 0 rfl rfl 5 (by decide) (hts _ (List.mem_cons_of_mem _ lk_327)) (fun _ h9 => h9) rfl d_P_readRange_87 ?_
      refine lv_aload_n hx hb d_P_readRange_90 rfl (lv_at hl 1 rfl) ?_
      refine va_get (D := (dC, dI)) (ci := 2) (v := .int (I 7)) (C := R_P) (T := F_P) (N := 13) hx hb hts (fun w h => List.mem_cons_of_mem _ (in_P w h)) hown hK hP 0 rfl rfl 7 (by decide) (hts _ (List.mem_cons_of_mem _ lk_329)) (fun _ h9 => h9) rfl d_P_readRange_91 ?_
      refine lv_iconst (v := 2) hx hb d_P_readRange_94 (by decide) ?_
      refine lv_iadd hx hb d_P_readRange_95 ?_
      obtain ⟨hc2, hf⟩ := wk_if hf
      refine va_cald hx hb hK hP 11 9 rfl rfl (wk_inb_ok hc2) d_P_readRange_96 ?_
      have hPc := hP.sub (ws' := (aw_W hm qm gm M MB L)) [5, 6, 7, 8, 9, 10] rfl
      have hDc := hD.sub (ws' := (aw_W hm qm gm M MB L)) [5, 6, 7, 8, 9, 10] (by decide) rfl
      have hKc := hK.sub (tys' := (aw_T hm qm gm)) [4, 5, 6, 7, 8] rfl
      have hFc := va_free (wc := (aw_W hm qm gm M MB L)) hD hS hA [5, 6, 7, 8, 9, 10] rfl
      cases hg1 : f_A_takeCodes M MB L (X 1) (X 2) (sx (((I 7) + 2)).toNatClampNeg) with
      | none => rw [hg1] at hf; cases hf
      | some z1 =>
        obtain ⟨r1, M1, MB1, L1⟩ := z1
        rw [hg1] at hf
        dsimp only [Option.bind_some] at hf
        refine va_callv (va_runV (As := [.int (X 1), .int (X 2), .int (sx (((I 7) + 2)).toNatClampNeg)]) (rest := []) ⟨hx, hb, hml, hown, hts⟩ (cm_A_takeCodes l dC dI hm qm gm _  M MB L (X 1) (X 2) (sx (((I 7) + 2)).toNatClampNeg) r1 M1 MB1 L1 hg1) (cwV 3 hts (gd_v lk_377 lk_378 lk_379 lk_274 lk_376) rfl rfl rfl (by decide +kernel) ⟨Nat.le_of_ble_eq_true rfl, Nat.le_of_ble_eq_true rfl⟩) ⟨fun a U g mk q => by obtain ⟨q0, q1, qP, qK, qD⟩ := q; exact ⟨q0, q1, qP, va_K.moved (u := U) (U := U.calling g mk a) (Vm.Alike.refl U.vm) qK, qD⟩, va_recv (ci := 3) (q0 := 5) hK hP rfl rfl, fun U hU hW => ⟨rfl, by rw [hU], by rw [hU]; exact hPc, va_K.moved hW.alike hKc, hDc.weaken (fun _ _ _ _ => trivial)⟩⟩ rfl rfl hl.1 rfl (lv_room (Nat.le_of_ble_eq_true rfl)) d_P_readRange_97 ⟨Nat.le_of_ble_eq_true rfl, Nat.le_of_ble_eq_true rfl⟩) hS (fun q _ h => hFc q h) hFc (fun u t H1 locs ht hvm hw hB hz1 hk1 hS => ?_)
        obtain ⟨hP1, hK1, hD1⟩ := hB
        rw [ht] at hP1
        obtain ⟨hP, hD⟩ := va_join (wr := (([0, 1, 2, 3, 4, 11] : List Nat).map (fun i => ((rw_W h q g hm qm gm so sg sx I A M MB L)).getD i (0, .inr (0, []))))) (w1 := (aw_W hm qm gm M1 MB1 L1)) hP hD [5, 6, 7, 8, 9, 10] [0, 1, 2, 3, 4, 11] rfl rfl (by decide) (by decide) hk1 hFc hP1 hD1
        generalize H1 = H at hP hS ⊢
        have hP := hP.sub (ws' := (rw_W h q g hm qm gm so sg sx I A M1 MB1 L1)) [0, 1, 2, 3, 4, 6, 7, 8, 9, 10, 11, 5] rfl
        have hD := hD.sub (ws' := (rw_W h q g hm qm gm so sg sx I A M1 MB1 L1)) [0, 1, 2, 3, 4, 6, 7, 8, 9, 10, 11, 5] (by decide) rfl
        refine lv_aload_n hx hb d_P_readRange_100 rfl (lv_at hl 1 rfl) ?_
        refine lv_dup hx hb d_P_readRange_101 rfl ?_
        refine va_get (D := (dC, dI)) (ci := 2) (v := .int (I 7)) (C := R_P) (T := F_P) (N := 13) hx hb hts (fun w h => List.mem_cons_of_mem _ (in_P w h)) hown hK hP 0 rfl rfl 7 (by decide) (hts _ (List.mem_cons_of_mem _ lk_329)) (fun _ h9 => h9) rfl d_P_readRange_102 ?_
        refine lv_iconst (v := 3) hx hb d_P_readRange_105 (by decide) ?_
        refine lv_iadd hx hb d_P_readRange_106 ?_
        refine va_put (D := (dC, dI)) (ci := 2) (v := .int ((I 7) + 3)) (ty := .int) (C := R_P) (T := F_P) (N := 13) hx hb hts (fun w h => List.mem_cons_of_mem _ (in_P w h)) t_P tk_P n_P hown hK hP hD hS 0 rfl rfl 7 (by decide) (hts _ (List.mem_cons_of_mem _ lk_329)) (fun _ h9 => h9) rfl (by decide +kernel) rfl rfl (Nat.le_of_ble_eq_true rfl) d_P_readRange_107 (fun H locs hP hD hS => ?_)
        obtain ⟨I2, hI2, hf⟩ := wk_letE hf
        have hP : va_P (dC, dI) vwCl (rw_W h q g hm qm gm so sg sx I2 A M1 MB1 L1) H := by rw [hI2]; exact hP
        have hD : va_D B9 (rw_W h q g hm qm gm so sg sx I2 A M1 MB1 L1) := by rw [hI2]; exact hD
        clear hI2
        refine lv_goto (tgt := 133) hx hb d_P_readRange_110 (by decide) ?_
        exact blk133 I2 A M1 MB1 L1 (upd X 3 s0) Y _ _ _ hf (lv_sub hl [1, 2, 3, 0] rfl) hP hD hS
  have blk74 : ∀ (I : MI) (A : MA) (M : MI) (MB : MA) (L : ML) (X : Nat → Int32) (Y : Nat → Int64) (ls : Array Slot) (H : Heap) (locs : List Loc), f_P_readRange_74 sx I A M MB L X Y = some (r, I', A', M', MB', L') → lv_has ls 4 [(0, .ref h), (1, .int (X 1)), (2, .int (X 2))] → va_P (dC, dI) vwCl (rw_W h q g hm qm gm so sg sx I A M MB L) H → va_D B9 (rw_W h q g hm qm gm so sg sx I A M MB L) → va_S B9 s.heap H locs → W p l e (headSpec w_P_readRange ({ frames := 1, cells := 0, slots := 0, locals := 24 })).room s m ([.ref h, .int k1] : List Value).toArray below meth c H locs 0 0 (MQ below (va_Qv (fun (u : Unit) => u = u) (fun (_ : Unit) t => va_P (dC, dI) vwCl (rw_W h q g hm qm gm so sg sx I' A' M' MB' L') t.heap ∧ va_K (dC, dI) vwCl (rw_T h q g hm qm gm so sg sx) t ∧ va_D B9 (rw_W h q g hm qm gm so sg sx I' A' M' MB' L')) B9) ([.ref h, .int k1] : List Value).toArray s 0 0 B9) (F0 m 74 ls []) := by
    intro I A M MB L X Y ls H locs hf hl hP hD hS
    unfold f_P_readRange_74 at hf
    refine lv_iconst (v := 0) hx hb d_P_readRange_74 (by decide) ?_
    exact blk75 I A M MB L X Y 0 _ _ _ hf (lv_sub hl [0, 1, 2] rfl) hP hD hS
  unfold f_P_readRange at hf
  refine lv_aload_n hx hb d_P_readRange_0 rfl (lv_at hl 0 rfl) ?_
  refine va_get (D := (dC, dI)) (ci := 2) (v := .ref so) (C := R_P) (T := F_P) (N := 13) hx hb hts (fun w h => List.mem_cons_of_mem _ (in_P w h)) hown hK hP 0 rfl rfl 5 (by decide) (hts _ (List.mem_cons_of_mem _ lk_327)) (fun _ h9 => h9) rfl d_P_readRange_1 ?_
  refine lv_aload_n hx hb d_P_readRange_4 rfl (lv_at hl 0 rfl) ?_
  refine va_get (D := (dC, dI)) (ci := 2) (v := .int (I 7)) (C := R_P) (T := F_P) (N := 13) hx hb hts (fun w h => List.mem_cons_of_mem _ (in_P w h)) hown hK hP 0 rfl rfl 7 (by decide) (hts _ (List.mem_cons_of_mem _ lk_329)) (fun _ h9 => h9) rfl d_P_readRange_5 ?_
  obtain ⟨hc1, hf⟩ := wk_if hf
  refine va_cald hx hb hK hP 11 9 rfl rfl (wk_inb_ok hc1) d_P_readRange_8 ?_
  refine lv_istore_n (lv' := [(2, .int (sx ((I 7)).toNatClampNeg)), (0, .ref h), (1, .int k1)]) hx hb d_P_readRange_9 rfl hl (by decide) rfl (fun ls hl => ?_)
  have hl : lv_has ls 4 [(2, .int (sx ((I 7)).toNatClampNeg)), (0, .ref h), (1, .int k1)] := hl
  refine lv_aload_n hx hb d_P_readRange_10 rfl (lv_at hl 1 rfl) ?_
  refine va_get (D := (dC, dI)) (ci := 2) (v := .int (I 7)) (C := R_P) (T := F_P) (N := 13) hx hb hts (fun w h => List.mem_cons_of_mem _ (in_P w h)) hown hK hP 0 rfl rfl 7 (by decide) (hts _ (List.mem_cons_of_mem _ lk_329)) (fun _ h9 => h9) rfl d_P_readRange_11 ?_
  refine lv_iconst (v := 2) hx hb d_P_readRange_14 (by decide) ?_
  refine lv_iadd hx hb d_P_readRange_15 ?_
  refine lv_aload_n hx hb d_P_readRange_16 rfl (lv_at hl 1 rfl) ?_
  refine va_get (D := (dC, dI)) (ci := 2) (v := .int (I 6)) (C := R_P) (T := F_P) (N := 13) hx hb hts (fun w h => List.mem_cons_of_mem _ (in_P w h)) hown hK hP 0 rfl rfl 6 (by decide) (hts _ (List.mem_cons_of_mem _ lk_328)) (fun _ h9 => h9) rfl d_P_readRange_17 ?_
  refine lv_icmp_ge (tgt := 74) hx hb d_P_readRange_20 (by decide) (fun hc2 => ?_) (fun hc2 => ?_)
  ·
    have hf := wk_ift hc2 hf
    exact blk74 I A M MB L (upd (upd (fun _ => 0) 1 k1) 2 (sx ((I 7)).toNatClampNeg)) (fun _ => 0) _ _ _ hf (lv_sub hl [1, 2, 0] rfl) hP hD hS
  ·
    have hf := wk_iff hc2 hf
    refine lv_aload_n hx hb d_P_readRange_23 rfl (lv_at hl 1 rfl) ?_
    refine va_get (D := (dC, dI)) (ci := 2) (v := .ref so) (C := R_P) (T := F_P) (N := 13) hx hb hts (fun w h => List.mem_cons_of_mem _ (in_P w h)) hown hK hP 0 rfl rfl 5 (by decide) (hts _ (List.mem_cons_of_mem _ lk_327)) (fun _ h9 => h9) rfl d_P_readRange_24 ?_
    refine lv_aload_n hx hb d_P_readRange_27 rfl (lv_at hl 1 rfl) ?_
    refine va_get (D := (dC, dI)) (ci := 2) (v := .int (I 7)) (C := R_P) (T := F_P) (N := 13) hx hb hts (fun w h => List.mem_cons_of_mem _ (in_P w h)) hown hK hP 0 rfl rfl 7 (by decide) (hts _ (List.mem_cons_of_mem _ lk_329)) (fun _ h9 => h9) rfl d_P_readRange_28 ?_
    refine lv_iconst (v := 1) hx hb d_P_readRange_31 (by decide) ?_
    refine lv_iadd hx hb d_P_readRange_32 ?_
    obtain ⟨hc3, hf⟩ := wk_if hf
    refine va_cald hx hb hK hP 11 9 rfl rfl (wk_inb_ok hc3) d_P_readRange_33 ?_
    refine lv_bipush (v := 45) hx hb d_P_readRange_34 (by decide) ?_
    refine lv_icmp_ne (tgt := 74) hx hb d_P_readRange_36 (by decide) (fun hc4 => ?_) (fun hc4 => ?_)
    ·
      have hf := wk_iff hc4 hf
      exact blk74 I A M MB L (upd (upd (fun _ => 0) 1 k1) 2 (sx ((I 7)).toNatClampNeg)) (fun _ => 0) _ _ _ hf (lv_sub hl [1, 2, 0] rfl) hP hD hS
    ·
      have hf := wk_ift hc4 hf
      refine lv_aload_n hx hb d_P_readRange_39 rfl (lv_at hl 1 rfl) ?_
      refine va_get (D := (dC, dI)) (ci := 2) (v := .ref so) (C := R_P) (T := F_P) (N := 13) hx hb hts (fun w h => List.mem_cons_of_mem _ (in_P w h)) hown hK hP 0 rfl rfl 5 (by decide) (hts _ (List.mem_cons_of_mem _ lk_327)) (fun _ h9 => h9) rfl d_P_readRange_40 ?_
      refine lv_aload_n hx hb d_P_readRange_43 rfl (lv_at hl 1 rfl) ?_
      refine va_get (D := (dC, dI)) (ci := 2) (v := .int (I 7)) (C := R_P) (T := F_P) (N := 13) hx hb hts (fun w h => List.mem_cons_of_mem _ (in_P w h)) hown hK hP 0 rfl rfl 7 (by decide) (hts _ (List.mem_cons_of_mem _ lk_329)) (fun _ h9 => h9) rfl d_P_readRange_44 ?_
      refine lv_iconst (v := 2) hx hb d_P_readRange_47 (by decide) ?_
      refine lv_iadd hx hb d_P_readRange_48 ?_
      obtain ⟨hc5, hf⟩ := wk_if hf
      refine va_cald hx hb hK hP 11 9 rfl rfl (wk_inb_ok hc5) d_P_readRange_49 ?_
      refine lv_bipush (v := 93) hx hb d_P_readRange_50 (by decide) ?_
      refine lv_icmp_eq (tgt := 74) hx hb d_P_readRange_52 (by decide) (fun hc6 => ?_) (fun hc6 => ?_)
      ·
        have hf := wk_ift hc6 hf
        exact blk74 I A M MB L (upd (upd (fun _ => 0) 1 k1) 2 (sx ((I 7)).toNatClampNeg)) (fun _ => 0) _ _ _ hf (lv_sub hl [1, 2, 0] rfl) hP hD hS
      ·
        have hf := wk_iff hc6 hf
        refine lv_aload_n hx hb d_P_readRange_55 rfl (lv_at hl 1 rfl) ?_
        refine va_get (D := (dC, dI)) (ci := 2) (v := .ref so) (C := R_P) (T := F_P) (N := 13) hx hb hts (fun w h => List.mem_cons_of_mem _ (in_P w h)) hown hK hP 0 rfl rfl 5 (by decide) (hts _ (List.mem_cons_of_mem _ lk_327)) (fun _ h9 => h9) rfl d_P_readRange_56 ?_
        refine lv_aload_n hx hb d_P_readRange_59 rfl (lv_at hl 1 rfl) ?_
        refine va_get (D := (dC, dI)) (ci := 2) (v := .int (I 7)) (C := R_P) (T := F_P) (N := 13) hx hb hts (fun w h => List.mem_cons_of_mem _ (in_P w h)) hown hK hP 0 rfl rfl 7 (by decide) (hts _ (List.mem_cons_of_mem _ lk_329)) (fun _ h9 => h9) rfl d_P_readRange_60 ?_
        refine lv_iconst (v := 2) hx hb d_P_readRange_63 (by decide) ?_
        refine lv_iadd hx hb d_P_readRange_64 ?_
        obtain ⟨hc7, hf⟩ := wk_if hf
        refine va_cald hx hb hK hP 11 9 rfl rfl (wk_inb_ok hc7) d_P_readRange_65 ?_
        refine lv_iload_n hx hb d_P_readRange_66 rfl (lv_at hl 0 rfl) ?_
        refine lv_icmp_lt (tgt := 74) hx hb d_P_readRange_67 (by decide) (fun hc8 => ?_) (fun hc8 => ?_)
        ·
          have hf := wk_ift hc8 hf
          exact blk74 I A M MB L (upd (upd (fun _ => 0) 1 k1) 2 (sx ((I 7)).toNatClampNeg)) (fun _ => 0) _ _ _ hf (lv_sub hl [1, 2, 0] rfl) hP hD hS
        ·
          have hf := wk_iff hc8 hf
          refine lv_iconst (v := 1) hx hb d_P_readRange_70 (by decide) ?_
          refine lv_goto (tgt := 75) hx hb d_P_readRange_71 (by decide) ?_
          exact blk75 I A M MB L (upd (upd (fun _ => 0) 1 k1) 2 (sx ((I 7)).toNatClampNeg)) (fun _ => 0) 1 _ _ _ hf (lv_sub hl [1, 2, 0] rfl) hP hD hS

set_option maxHeartbeats 8000000 in
set_option maxRecDepth 100000 in
theorem cm_A_takeOtherCodes (l : Launch) (dC : Nat → ClassId) (dI : Nat → Nat → Nat) (h : Nat) (q : Nat → Nat) (g : Nat → ClassId) (sz : Nat) (I : MI) (A : MA) (L : ML) (k1 : Int32) (r : Int32) (I' : MI) (A' : MA) (L' : ML) (hf : f_A_takeOtherCodes I A L  k1 = some (r, I', A', L')) : Met l y_A_takeOtherCodes w_A_takeOtherCodes ({ frames := 0, cells := 0, slots := 0, locals := 0 }) (va_Pc [.ref h, .int k1] (fun U => U.heap.size = sz ∧ va_P (dC, dI) vwCl (aw_W h q g I A L) U.heap ∧ va_K (dC, dI) vwCl (aw_T h q g) U ∧ va_D (fun _ => True) (aw_W h q g I A L))) (va_Qv (fun (u : Unit) => u = u) (fun (_ : Unit) t => va_P (dC, dI) vwCl (aw_W h q g I' A' L') t.heap ∧ va_K (dC, dI) vwCl (aw_T h q g) t ∧ va_D (va_A (aw_W h q g I A L) sz) (aw_W h q g I' A' L')) (va_A (aw_W h q g I A L) sz)) 0 0 (va_A (aw_W h q g I A L) sz) := by
  refine Met.ofW (cc := prog_2_method_4_code) (maxL := 2) (ret := none) (by decide) rfl ?_
  intro p e s m args below meth c s₁ B hml hv
  obtain ⟨rfl, hsz, hP, hK, hD0⟩ := hv
  have hx := B.exec
  have hb := B.bytes
  have hr := B.returns
  have hts := atoms_spec (ws := w_A_takeOtherCodes) B.pre
  have hown : s.vm.findClass "DraftTree$Automaton" = some m.cls := findClass_of_methodNamed B.named
  have hlocks := B.notSynchronized
  subst hsz
  have hD := hD0.self (sz := s.heap.size)
  generalize hAe : va_A (aw_W h q g I A L) s.heap.size = B9 at hD ⊢
  have hA : ∀ q : Nat, s.heap.size ≤ q → B9 q := fun q h => by rw [← hAe]; exact Or.inr h
  clear hAe
  have hS : va_S B9 s.heap s.heap [] := va_S.rf
  have hl := lv_entry ([.ref h, .int k1]) (n := 2) (Nat.le_of_ble_eq_true rfl)
  rw [lg_entry_eq]
  generalize (lg_sl ([.ref h, .int k1]) ++ List.replicate (2 - (lg_sl ([.ref h, .int k1])).length) Slot.unset).toArray = ls at hl ⊢
  have hl : lv_has ls 2 [(0, .ref h), (1, .int k1)] := hl
  unfold f_A_takeOtherCodes at hf
  refine lv_aload_n hx hb d_A_takeOtherCodes_0 rfl (lv_at hl 0 rfl) ?_
  refine va_get (D := (dC, dI)) (ci := 3) (v := .ref (q 3)) (C := R_A) (T := F_A) (N := 10) hx hb hts (fun w h => List.mem_cons_of_mem _ (in_A w h)) hown hK hP 0 rfl rfl 3 (by decide) (hts _ (List.mem_cons_of_mem _ lk_286)) (fun _ h9 => h9) rfl d_A_takeOtherCodes_1 ?_
  refine lv_iload_n hx hb d_A_takeOtherCodes_4 rfl (lv_at hl 1 rfl) ?_
  refine lv_aload_n hx hb d_A_takeOtherCodes_5 rfl (lv_at hl 0 rfl) ?_
  refine va_get (D := (dC, dI)) (ci := 3) (v := .ref (q 3)) (C := R_A) (T := F_A) (N := 10) hx hb hts (fun w h => List.mem_cons_of_mem _ (in_A w h)) hown hK hP 0 rfl rfl 3 (by decide) (hts _ (List.mem_cons_of_mem _ lk_286)) (fun _ h9 => h9) rfl d_A_takeOtherCodes_6 ?_
  refine lv_iload_n hx hb d_A_takeOtherCodes_9 rfl (lv_at hl 1 rfl) ?_
  obtain ⟨hc1, hf⟩ := wk_if hf
  refine va_lald hx hb hK hP 4 3 rfl rfl (wk_inb_ok hc1) d_A_takeOtherCodes_10 ?_
  refine lv_ldc2 (v := (-1)) hx hb hown (hts _ (List.mem_cons_of_mem _ lk_280)) d_A_takeOtherCodes_11 ?_
  refine lv_lxor hx hb d_A_takeOtherCodes_14 ?_
  obtain ⟨hc2, hf⟩ := wk_if hf
  refine va_last hx hb hK hP hD hS 4 3 rfl rfl (wk_inb_ok hc2) d_A_takeOtherCodes_15 (fun H locs hP hD hS => ?_)
  obtain ⟨L1, hL1, hf⟩ := wk_letE hf
  have hP : va_P (dC, dI) vwCl (aw_W h q g I A L1) H := by rw [hL1]; exact hP
  have hD : va_D B9 (aw_W h q g I A L1) := by rw [hL1]; exact hD
  clear hL1
  refine lv_aload_n hx hb d_A_takeOtherCodes_16 rfl (lv_at hl 0 rfl) ?_
  refine va_get (D := (dC, dI)) (ci := 3) (v := .ref (q 4)) (C := R_A) (T := F_A) (N := 10) hx hb hts (fun w h => List.mem_cons_of_mem _ (in_A w h)) hown hK hP 0 rfl rfl 4 (by decide) (hts _ (List.mem_cons_of_mem _ lk_285)) (fun _ h9 => h9) rfl d_A_takeOtherCodes_17 ?_
  refine lv_iload_n hx hb d_A_takeOtherCodes_20 rfl (lv_at hl 1 rfl) ?_
  refine lv_aload_n hx hb d_A_takeOtherCodes_21 rfl (lv_at hl 0 rfl) ?_
  refine va_get (D := (dC, dI)) (ci := 3) (v := .ref (q 4)) (C := R_A) (T := F_A) (N := 10) hx hb hts (fun w h => List.mem_cons_of_mem _ (in_A w h)) hown hK hP 0 rfl rfl 4 (by decide) (hts _ (List.mem_cons_of_mem _ lk_285)) (fun _ h9 => h9) rfl d_A_takeOtherCodes_22 ?_
  refine lv_iload_n hx hb d_A_takeOtherCodes_25 rfl (lv_at hl 1 rfl) ?_
  obtain ⟨hc3, hf⟩ := wk_if hf
  refine va_lald hx hb hK hP 5 4 rfl rfl (wk_inb_ok hc3) d_A_takeOtherCodes_26 ?_
  refine lv_ldc2 (v := (-1)) hx hb hown (hts _ (List.mem_cons_of_mem _ lk_280)) d_A_takeOtherCodes_27 ?_
  refine lv_lxor hx hb d_A_takeOtherCodes_30 ?_
  obtain ⟨hc4, hf⟩ := wk_if hf
  refine va_last hx hb hK hP hD hS 5 4 rfl rfl (wk_inb_ok hc4) d_A_takeOtherCodes_31 (fun H locs hP hD hS => ?_)
  obtain ⟨L2, hL2, hf⟩ := wk_letE hf
  have hP : va_P (dC, dI) vwCl (aw_W h q g I A L2) H := by rw [hL2]; exact hP
  have hD : va_D B9 (aw_W h q g I A L2) := by rw [hL2]; exact hD
  clear hL2
  obtain ⟨e0, e1, e2, e3⟩ := wk_inj3 hf
  subst e0
  subst e1
  subst e2
  subst e3
  exact W.vret hx hb hr (fun t ht hW => ⟨⟨(), rfl, rfl, by rw [ht]; exact hP, va_K.moved hW.alike hK, hD⟩, hS.F ht⟩) hS.2.2 d_A_takeOtherCodes_32

set_option maxHeartbeats 8000000 in
set_option maxRecDepth 100000 in
theorem cm_P_readSet (l : Launch) (dC : Nat → ClassId) (dI : Nat → Nat → Nat) (h : Nat) (q : Nat → Nat) (g : Nat → ClassId) (hm : Nat) (qm : Nat → Nat) (gm : Nat → ClassId) (so : Nat) (sg : ClassId) (sx : Nat → Int32) (sz : Nat) (I : MI) (A : MA) (M : MI) (MB : MA) (L : ML) (r : Int32) (I' : MI) (A' : MA) (M' : MI) (MB' : MA) (L' : ML) (hf : f_P_readSet sx I A M MB L  = some (r, I', A', M', MB', L')) : Met l y_P_readSet w_P_readSet ({ frames := 2, cells := 0, slots := 0, locals := 47 }) (va_Pc [.ref h] (fun U => U.heap.size = sz ∧ va_P (dC, dI) vwCl (rw_W h q g hm qm gm so sg sx I A M MB L) U.heap ∧ va_K (dC, dI) vwCl (rw_T h q g hm qm gm so sg sx) U ∧ va_D (fun _ => True) (rw_W h q g hm qm gm so sg sx I A M MB L))) (va_Qv (fun (u : Unit) => u = u) (fun (_ : Unit) t => va_P (dC, dI) vwCl (rw_W h q g hm qm gm so sg sx I' A' M' MB' L') t.heap ∧ va_K (dC, dI) vwCl (rw_T h q g hm qm gm so sg sx) t ∧ va_D (va_A (rw_W h q g hm qm gm so sg sx I A M MB L) sz) (rw_W h q g hm qm gm so sg sx I' A' M' MB' L')) (va_A (rw_W h q g hm qm gm so sg sx I A M MB L) sz)) 0 0 (va_A (rw_W h q g hm qm gm so sg sx I A M MB L) sz) := by
  refine Met.ofW (cc := prog_3_method_10_code) (maxL := 5) (ret := none) (by decide) rfl ?_
  intro p e s m args below meth c s₁ B hml hv
  obtain ⟨rfl, hsz, hP, hK, hD0⟩ := hv
  have hx := B.exec
  have hb := B.bytes
  have hr := B.returns
  have hts := atoms_spec (ws := w_P_readSet) B.pre
  have hown : s.vm.findClass "DraftTree$PatternReader" = some m.cls := findClass_of_methodNamed B.named
  have hlocks := B.notSynchronized
  subst hsz
  have hD := hD0.self (sz := s.heap.size)
  generalize hAe : va_A (rw_W h q g hm qm gm so sg sx I A M MB L) s.heap.size = B9 at hD ⊢
  have hA : ∀ q : Nat, s.heap.size ≤ q → B9 q := fun q h => by rw [← hAe]; exact Or.inr h
  clear hAe
  have hS : va_S B9 s.heap s.heap [] := va_S.rf
  have hl := lv_entry ([.ref h]) (n := 5) (Nat.le_of_ble_eq_true rfl)
  rw [lg_entry_eq]
  generalize (lg_sl ([.ref h]) ++ List.replicate (5 - (lg_sl ([.ref h])).length) Slot.unset).toArray = ls at hl ⊢
  have hl : lv_has ls 5 [(0, .ref h)] := hl
  have blk49 : ∀ (rc : Nat → MI → MA → MI → MA → ML → (Nat → Int32) → (Nat → Int64) → Option (Int32 × MI × MA × MI × MA × ML)) (hrc67 : ∀ (I : MI) (A : MA) (M : MI) (MB : MA) (L : ML) (X : Nat → Int32) (Y : Nat → Int64) (ls : Array Slot) (H : Heap) (locs : List Loc), rc 67 I A M MB L X Y = some (r, I', A', M', MB', L') → lv_has ls 5 [(0, .ref h), (1, .int (X 1)), (2, .int (X 2)), (3, .int (X 3)), (4, .int (X 4))] → va_P (dC, dI) vwCl (rw_W h q g hm qm gm so sg sx I A M MB L) H → va_D B9 (rw_W h q g hm qm gm so sg sx I A M MB L) → va_S B9 s.heap H locs → W p l e (headSpec w_P_readSet ({ frames := 2, cells := 0, slots := 0, locals := 47 })).room s m ([.ref h] : List Value).toArray below meth c H locs 0 0 (MQ below (va_Qv (fun (u : Unit) => u = u) (fun (_ : Unit) t => va_P (dC, dI) vwCl (rw_W h q g hm qm gm so sg sx I' A' M' MB' L') t.heap ∧ va_K (dC, dI) vwCl (rw_T h q g hm qm gm so sg sx) t ∧ va_D B9 (rw_W h q g hm qm gm so sg sx I' A' M' MB' L')) B9) ([.ref h] : List Value).toArray s 0 0 B9) (F0 m 67 ls [])), ∀ (I : MI) (A : MA) (M : MI) (MB : MA) (L : ML) (X : Nat → Int32) (Y : Nat → Int64) (s0 : Int32) (s1 : Int32) (ls : Array Slot) (H : Heap) (locs : List Loc), f_P_readSet_49 sx rc I A M MB L X Y s0 s1 = some (r, I', A', M', MB', L') → lv_has ls 5 [(0, .ref h), (1, .int (X 1))] → va_P (dC, dI) vwCl (rw_W h q g hm qm gm so sg sx I A M MB L) H → va_D B9 (rw_W h q g hm qm gm so sg sx I A M MB L) → va_S B9 s.heap H locs → W p l e (headSpec w_P_readSet ({ frames := 2, cells := 0, slots := 0, locals := 47 })).room s m ([.ref h] : List Value).toArray below meth c H locs 0 0 (MQ below (va_Qv (fun (u : Unit) => u = u) (fun (_ : Unit) t => va_P (dC, dI) vwCl (rw_W h q g hm qm gm so sg sx I' A' M' MB' L') t.heap ∧ va_K (dC, dI) vwCl (rw_T h q g hm qm gm so sg sx) t ∧ va_D B9 (rw_W h q g hm qm gm so sg sx I' A' M' MB' L')) B9) ([.ref h] : List Value).toArray s 0 0 B9) (F0 m 49 ls [.int s0, .int s1, .ref h]) := by
    intro rc hrc67 I A M MB L X Y s0 s1 ls H locs hf hl hP hD hS
    unfold f_P_readSet_49 at hf
    refine lv_iadd hx hb d_P_readSet_49 ?_
    refine va_put (D := (dC, dI)) (ci := 2) (v := .int (s1 + s0)) (ty := .int) (C := R_P) (T := F_P) (N := 13) hx hb hts (fun w h => List.mem_cons_of_mem _ (in_P w h)) t_P tk_P n_P hown hK hP hD hS 0 rfl rfl 7 (by decide) (hts _ (List.mem_cons_of_mem _ lk_329)) (fun _ h9 => h9) rfl (by decide +kernel) rfl rfl (Nat.le_of_ble_eq_true rfl) d_P_readSet_50 (fun H locs hP hD hS => ?_)
    obtain ⟨I1, hI1, hf⟩ := wk_letE hf
    have hP : va_P (dC, dI) vwCl (rw_W h q g hm qm gm so sg sx I1 A M MB L) H := by rw [hI1]; exact hP
    have hD : va_D B9 (rw_W h q g hm qm gm so sg sx I1 A M MB L) := by rw [hI1]; exact hD
    clear hI1
    refine lv_aload_n hx hb d_P_readSet_53 rfl (lv_at hl 0 rfl) ?_
    refine va_get (D := (dC, dI)) (ci := 2) (v := .int (I1 7)) (C := R_P) (T := F_P) (N := 13) hx hb hts (fun w h => List.mem_cons_of_mem _ (in_P w h)) hown hK hP 0 rfl rfl 7 (by decide) (hts _ (List.mem_cons_of_mem _ lk_329)) (fun _ h9 => h9) rfl d_P_readSet_54 ?_
    refine lv_istore_n (lv' := [(2, .int (I1 7)), (0, .ref h), (1, .int (X 1))]) hx hb d_P_readSet_57 rfl hl (by decide) rfl (fun ls hl => ?_)
    have hl : lv_has ls 5 [(2, .int (I1 7)), (0, .ref h), (1, .int (X 1))] := hl
    refine lv_aload_n hx hb d_P_readSet_58 rfl (lv_at hl 1 rfl) ?_
    refine lv_iconst (v := 1) hx hb d_P_readSet_59 (by decide) ?_
    have hPc := hP.sub (ws' := (rw_W h q g hm qm gm so sg sx I1 A M MB L)) [0, 1, 2, 3, 4, 5, 6, 7, 8, 9, 10, 11] rfl
    have hDc := hD.sub (ws' := (rw_W h q g hm qm gm so sg sx I1 A M MB L)) [0, 1, 2, 3, 4, 5, 6, 7, 8, 9, 10, 11] (by decide) rfl
    have hKc := hK.sub (tys' := (rw_T h q g hm qm gm so sg sx)) [0, 1, 2, 3, 4, 5, 6, 7, 8, 9] rfl
    have hFc := va_free (wc := (rw_W h q g hm qm gm so sg sx I1 A M MB L)) hD hS hA [0, 1, 2, 3, 4, 5, 6, 7, 8, 9, 10, 11] rfl
    cases hg2 : f_P_addNodeAsPart sx I1 A M MB L 1 with
    | none => rw [hg2] at hf; cases hf
    | some z2 =>
      obtain ⟨r2, I2, A2, M2, MB2, L2⟩ := z2
      rw [hg2] at hf
      dsimp only [Option.bind_some] at hf
      refine va_calli (va_runV (As := [.int 1]) (rest := []) ⟨hx, hb, hml, hown, hts⟩ (cm_P_addNodeAsPart l dC dI h q g hm qm gm so sg sx _  I1 A M MB L 1 r2 I2 A2 M2 MB2 L2 hg2) (cwV 1 hts (gd_v lk_373 lk_374 lk_375 lk_349 lk_372) rfl rfl rfl (by decide +kernel) ⟨Nat.le_of_ble_eq_true rfl, Nat.le_of_ble_eq_true rfl⟩) ⟨fun a U g mk q => by obtain ⟨q0, q1, qP, qK, qD⟩ := q; exact ⟨q0, q1, qP, va_K.moved (u := U) (U := U.calling g mk a) (Vm.Alike.refl U.vm) qK, qD⟩, va_recv (ci := 2) (q0 := 0) hK hP rfl rfl, fun U hU hW => ⟨rfl, by rw [hU], by rw [hU]; exact hPc, va_K.moved hW.alike hKc, hDc.weaken (fun _ _ _ _ => trivial)⟩⟩ rfl rfl hl.1 rfl (lv_room (Nat.le_of_ble_eq_true rfl)) d_P_readSet_60 ⟨Nat.le_of_ble_eq_true rfl, Nat.le_of_ble_eq_true rfl⟩) hS (fun q _ h => hFc q h) hFc (fun r9 u t H1 locs ht hvm hw hB hz1 hk1 hS => ?_)
      obtain ⟨hP1, hK1, hD1⟩ := hB
      rw [ht] at hP1
      rw [hw]
      obtain ⟨hP, hD⟩ := va_join (wr := (([] : List Nat).map (fun i => ((rw_W h q g hm qm gm so sg sx I1 A M MB L)).getD i (0, .inr (0, []))))) (w1 := (rw_W h q g hm qm gm so sg sx I2 A2 M2 MB2 L2)) hP hD [0, 1, 2, 3, 4, 5, 6, 7, 8, 9, 10, 11] [] rfl rfl (by decide) (by decide) hk1 hFc hP1 hD1
      generalize H1 = H at hP hS ⊢
      have hP := hP.sub (ws' := (rw_W h q g hm qm gm so sg sx I2 A2 M2 MB2 L2)) [0, 1, 2, 3, 4, 5, 6, 7, 8, 9, 10, 11] rfl
      have hD := hD.sub (ws' := (rw_W h q g hm qm gm so sg sx I2 A2 M2 MB2 L2)) [0, 1, 2, 3, 4, 5, 6, 7, 8, 9, 10, 11] (by decide) rfl
      refine lv_istore_n (lv' := [(3, .int r2), (2, .int (I1 7)), (0, .ref h), (1, .int (X 1))]) hx hb d_P_readSet_63 rfl hl (by decide) rfl (fun ls hl => ?_)
      have hl : lv_has ls 5 [(3, .int r2), (2, .int (I1 7)), (0, .ref h), (1, .int (X 1))] := hl
      refine lv_iconst (v := 0) hx hb d_P_readSet_64 (by decide) ?_
      refine lv_istore (lv' := [(4, .int 0), (3, .int r2), (2, .int (I1 7)), (0, .ref h), (1, .int (X 1))]) hx hb d_P_readSet_65 hl (by decide) rfl (fun ls hl => ?_)
      have hl : lv_has ls 5 [(4, .int 0), (3, .int r2), (2, .int (I1 7)), (0, .ref h), (1, .int (X 1))] := hl
      exact hrc67 I2 A2 M2 MB2 L2 (upd (upd (upd X 2 (I1 7)) 3 r2) 4 0) Y _ _ _ hf (lv_sub hl [3, 4, 2, 1, 0] rfl) hP hD hS
  have blk34 : ∀ (rc : Nat → MI → MA → MI → MA → ML → (Nat → Int32) → (Nat → Int64) → Option (Int32 × MI × MA × MI × MA × ML)) (hrc67 : ∀ (I : MI) (A : MA) (M : MI) (MB : MA) (L : ML) (X : Nat → Int32) (Y : Nat → Int64) (ls : Array Slot) (H : Heap) (locs : List Loc), rc 67 I A M MB L X Y = some (r, I', A', M', MB', L') → lv_has ls 5 [(0, .ref h), (1, .int (X 1)), (2, .int (X 2)), (3, .int (X 3)), (4, .int (X 4))] → va_P (dC, dI) vwCl (rw_W h q g hm qm gm so sg sx I A M MB L) H → va_D B9 (rw_W h q g hm qm gm so sg sx I A M MB L) → va_S B9 s.heap H locs → W p l e (headSpec w_P_readSet ({ frames := 2, cells := 0, slots := 0, locals := 47 })).room s m ([.ref h] : List Value).toArray below meth c H locs 0 0 (MQ below (va_Qv (fun (u : Unit) => u = u) (fun (_ : Unit) t => va_P (dC, dI) vwCl (rw_W h q g hm qm gm so sg sx I' A' M' MB' L') t.heap ∧ va_K (dC, dI) vwCl (rw_T h q g hm qm gm so sg sx) t ∧ va_D B9 (rw_W h q g hm qm gm so sg sx I' A' M' MB' L')) B9) ([.ref h] : List Value).toArray s 0 0 B9) (F0 m 67 ls [])), ∀ (I : MI) (A : MA) (M : MI) (MB : MA) (L : ML) (X : Nat → Int32) (Y : Nat → Int64) (s0 : Int32) (ls : Array Slot) (H : Heap) (locs : List Loc), f_P_readSet_34 sx rc I A M MB L X Y s0 = some (r, I', A', M', MB', L') → lv_has ls 5 [(0, .ref h)] → va_P (dC, dI) vwCl (rw_W h q g hm qm gm so sg sx I A M MB L) H → va_D B9 (rw_W h q g hm qm gm so sg sx I A M MB L) → va_S B9 s.heap H locs → W p l e (headSpec w_P_readSet ({ frames := 2, cells := 0, slots := 0, locals := 47 })).room s m ([.ref h] : List Value).toArray below meth c H locs 0 0 (MQ below (va_Qv (fun (u : Unit) => u = u) (fun (_ : Unit) t => va_P (dC, dI) vwCl (rw_W h q g hm qm gm so sg sx I' A' M' MB' L') t.heap ∧ va_K (dC, dI) vwCl (rw_T h q g hm qm gm so sg sx) t ∧ va_D B9 (rw_W h q g hm qm gm so sg sx I' A' M' MB' L')) B9) ([.ref h] : List Value).toArray s 0 0 B9) (F0 m 34 ls [.int s0]) := by
    intro rc hrc67 I A M MB L X Y s0 ls H locs hf hl hP hD hS
    unfold f_P_readSet_34 at hf
    refine lv_istore_n (lv' := [(1, .int s0), (0, .ref h)]) hx hb d_P_readSet_34 rfl hl (by decide) rfl (fun ls hl => ?_)
    have hl : lv_has ls 5 [(1, .int s0), (0, .ref h)] := hl
    refine lv_aload_n hx hb d_P_readSet_35 rfl (lv_at hl 1 rfl) ?_
    refine lv_dup hx hb d_P_readSet_36 rfl ?_
    refine va_get (D := (dC, dI)) (ci := 2) (v := .int (I 7)) (C := R_P) (T := F_P) (N := 13) hx hb hts (fun w h => List.mem_cons_of_mem _ (in_P w h)) hown hK hP 0 rfl rfl 7 (by decide) (hts _ (List.mem_cons_of_mem _ lk_329)) (fun _ h9 => h9) rfl d_P_readSet_37 ?_
    refine lv_iload_n hx hb d_P_readSet_40 rfl (lv_at hl 0 rfl) ?_
    refine lv_if_eq (tgt := 48) hx hb d_P_readSet_41 (by decide) (fun hc1 => ?_) (fun hc1 => ?_)
    ·
      have hf := wk_ift hc1 hf
      refine lv_iconst (v := 1) hx hb d_P_readSet_48 (by decide) ?_
      exact blk49 rc hrc67 I A M MB L (upd X 1 s0) Y 1 (I 7) _ _ _ hf (lv_sub hl [1, 0] rfl) hP hD hS
    ·
      have hf := wk_iff hc1 hf
      refine lv_iconst (v := 2) hx hb d_P_readSet_44 (by decide) ?_
      refine lv_goto (tgt := 49) hx hb d_P_readSet_45 (by decide) ?_
      exact blk49 rc hrc67 I A M MB L (upd X 1 s0) Y 2 (I 7) _ _ _ hf (lv_sub hl [1, 0] rfl) hP hD hS
  have blk33 : ∀ (rc : Nat → MI → MA → MI → MA → ML → (Nat → Int32) → (Nat → Int64) → Option (Int32 × MI × MA × MI × MA × ML)) (hrc67 : ∀ (I : MI) (A : MA) (M : MI) (MB : MA) (L : ML) (X : Nat → Int32) (Y : Nat → Int64) (ls : Array Slot) (H : Heap) (locs : List Loc), rc 67 I A M MB L X Y = some (r, I', A', M', MB', L') → lv_has ls 5 [(0, .ref h), (1, .int (X 1)), (2, .int (X 2)), (3, .int (X 3)), (4, .int (X 4))] → va_P (dC, dI) vwCl (rw_W h q g hm qm gm so sg sx I A M MB L) H → va_D B9 (rw_W h q g hm qm gm so sg sx I A M MB L) → va_S B9 s.heap H locs → W p l e (headSpec w_P_readSet ({ frames := 2, cells := 0, slots := 0, locals := 47 })).room s m ([.ref h] : List Value).toArray below meth c H locs 0 0 (MQ below (va_Qv (fun (u : Unit) => u = u) (fun (_ : Unit) t => va_P (dC, dI) vwCl (rw_W h q g hm qm gm so sg sx I' A' M' MB' L') t.heap ∧ va_K (dC, dI) vwCl (rw_T h q g hm qm gm so sg sx) t ∧ va_D B9 (rw_W h q g hm qm gm so sg sx I' A' M' MB' L')) B9) ([.ref h] : List Value).toArray s 0 0 B9) (F0 m 67 ls [])), ∀ (I : MI) (A : MA) (M : MI) (MB : MA) (L : ML) (X : Nat → Int32) (Y : Nat → Int64) (ls : Array Slot) (H : Heap) (locs : List Loc), f_P_readSet_33 sx rc I A M MB L X Y = some (r, I', A', M', MB', L') → lv_has ls 5 [(0, .ref h)] → va_P (dC, dI) vwCl (rw_W h q g hm qm gm so sg sx I A M MB L) H → va_D B9 (rw_W h q g hm qm gm so sg sx I A M MB L) → va_S B9 s.heap H locs → W p l e (headSpec w_P_readSet ({ frames := 2, cells := 0, slots := 0, locals := 47 })).room s m ([.ref h] : List Value).toArray below meth c H locs 0 0 (MQ below (va_Qv (fun (u : Unit) => u = u) (fun (_ : Unit) t => va_P (dC, dI) vwCl (rw_W h q g hm qm gm so sg sx I' A' M' MB' L') t.heap ∧ va_K (dC, dI) vwCl (rw_T h q g hm qm gm so sg sx) t ∧ va_D B9 (rw_W h q g hm qm gm so sg sx I' A' M' MB' L')) B9) ([.ref h] : List Value).toArray s 0 0 B9) (F0 m 33 ls []) := by
    intro rc hrc67 I A M MB L X Y ls H locs hf hl hP hD hS
    unfold f_P_readSet_33 at hf
    refine lv_iconst (v := 0) hx hb d_P_readSet_33 (by decide) ?_
    exact blk34 rc hrc67 I A M MB L X Y 0 _ _ _ hf (lv_sub hl [0] rfl) hP hD hS
  have blk131 : ∀ (rc : Nat → MI → MA → MI → MA → ML → (Nat → Int32) → (Nat → Int64) → Option (Int32 × MI × MA × MI × MA × ML)) (hrc67 : ∀ (I : MI) (A : MA) (M : MI) (MB : MA) (L : ML) (X : Nat → Int32) (Y : Nat → Int64) (ls : Array Slot) (H : Heap) (locs : List Loc), rc 67 I A M MB L X Y = some (r, I', A', M', MB', L') → lv_has ls 5 [(0, .ref h), (1, .int (X 1)), (2, .int (X 2)), (3, .int (X 3)), (4, .int (X 4))] → va_P (dC, dI) vwCl (rw_W h q g hm qm gm so sg sx I A M MB L) H → va_D B9 (rw_W h q g hm qm gm so sg sx I A M MB L) → va_S B9 s.heap H locs → W p l e (headSpec w_P_readSet ({ frames := 2, cells := 0, slots := 0, locals := 47 })).room s m ([.ref h] : List Value).toArray below meth c H locs 0 0 (MQ below (va_Qv (fun (u : Unit) => u = u) (fun (_ : Unit) t => va_P (dC, dI) vwCl (rw_W h q g hm qm gm so sg sx I' A' M' MB' L') t.heap ∧ va_K (dC, dI) vwCl (rw_T h q g hm qm gm so sg sx) t ∧ va_D B9 (rw_W h q g hm qm gm so sg sx I' A' M' MB' L')) B9) ([.ref h] : List Value).toArray s 0 0 B9) (F0 m 67 ls [])), ∀ (I : MI) (A : MA) (M : MI) (MB : MA) (L : ML) (X : Nat → Int32) (Y : Nat → Int64) (ls : Array Slot) (H : Heap) (locs : List Loc), f_P_readSet_131 sx rc I A M MB L X Y = some (r, I', A', M', MB', L') → lv_has ls 5 [(0, .ref h), (1, .int (X 1)), (2, .int (X 2)), (3, .int (X 3)), (4, .int (X 4))] → va_P (dC, dI) vwCl (rw_W h q g hm qm gm so sg sx I A M MB L) H → va_D B9 (rw_W h q g hm qm gm so sg sx I A M MB L) → va_S B9 s.heap H locs → W p l e (headSpec w_P_readSet ({ frames := 2, cells := 0, slots := 0, locals := 47 })).room s m ([.ref h] : List Value).toArray below meth c H locs 0 0 (MQ below (va_Qv (fun (u : Unit) => u = u) (fun (_ : Unit) t => va_P (dC, dI) vwCl (rw_W h q g hm qm gm so sg sx I' A' M' MB' L') t.heap ∧ va_K (dC, dI) vwCl (rw_T h q g hm qm gm so sg sx) t ∧ va_D B9 (rw_W h q g hm qm gm so sg sx I' A' M' MB' L')) B9) ([.ref h] : List Value).toArray s 0 0 B9) (F0 m 131 ls []) := by
    intro rc hrc67 I A M MB L X Y ls H locs hf hl hP hD hS
    unfold f_P_readSet_131 at hf
    refine lv_aload_n hx hb d_P_readSet_131 rfl (lv_at hl 0 rfl) ?_
    refine lv_aload_n hx hb d_P_readSet_132 rfl (lv_at hl 0 rfl) ?_
    refine va_get (D := (dC, dI)) (ci := 2) (v := .int (I 7)) (C := R_P) (T := F_P) (N := 13) hx hb hts (fun w h => List.mem_cons_of_mem _ (in_P w h)) hown hK hP 0 rfl rfl 7 (by decide) (hts _ (List.mem_cons_of_mem _ lk_329)) (fun _ h9 => h9) rfl d_P_readSet_133 ?_
    refine va_put (D := (dC, dI)) (ci := 2) (v := .int (I 7)) (ty := .int) (C := R_P) (T := F_P) (N := 13) hx hb hts (fun w h => List.mem_cons_of_mem _ (in_P w h)) t_P tk_P n_P hown hK hP hD hS 0 rfl rfl 9 (by decide) (hts _ (List.mem_cons_of_mem _ lk_330)) (fun _ h9 => h9) rfl (by decide +kernel) rfl rfl (Nat.le_of_ble_eq_true rfl) d_P_readSet_136 (fun H locs hP hD hS => ?_)
    obtain ⟨I1, hI1, hf⟩ := wk_letE hf
    have hP : va_P (dC, dI) vwCl (rw_W h q g hm qm gm so sg sx I1 A M MB L) H := by rw [hI1]; exact hP
    have hD : va_D B9 (rw_W h q g hm qm gm so sg sx I1 A M MB L) := by rw [hI1]; exact hD
    clear hI1
    obtain ⟨e0, e1, e2, e3, e4, e5⟩ := wk_inj5 hf
    subst e0
    subst e1
    subst e2
    subst e3
    subst e4
    subst e5
    exact W.vret hx hb hr (fun t ht hW => ⟨⟨(), rfl, rfl, by rw [ht]; exact hP, va_K.moved hW.alike hK, hD⟩, hS.F ht⟩) hS.2.2 d_P_readSet_139
  have blk152 : ∀ (rc : Nat → MI → MA → MI → MA → ML → (Nat → Int32) → (Nat → Int64) → Option (Int32 × MI × MA × MI × MA × ML)) (hrc67 : ∀ (I : MI) (A : MA) (M : MI) (MB : MA) (L : ML) (X : Nat → Int32) (Y : Nat → Int64) (ls : Array Slot) (H : Heap) (locs : List Loc), rc 67 I A M MB L X Y = some (r, I', A', M', MB', L') → lv_has ls 5 [(0, .ref h), (1, .int (X 1)), (2, .int (X 2)), (3, .int (X 3)), (4, .int (X 4))] → va_P (dC, dI) vwCl (rw_W h q g hm qm gm so sg sx I A M MB L) H → va_D B9 (rw_W h q g hm qm gm so sg sx I A M MB L) → va_S B9 s.heap H locs → W p l e (headSpec w_P_readSet ({ frames := 2, cells := 0, slots := 0, locals := 47 })).room s m ([.ref h] : List Value).toArray below meth c H locs 0 0 (MQ below (va_Qv (fun (u : Unit) => u = u) (fun (_ : Unit) t => va_P (dC, dI) vwCl (rw_W h q g hm qm gm so sg sx I' A' M' MB' L') t.heap ∧ va_K (dC, dI) vwCl (rw_T h q g hm qm gm so sg sx) t ∧ va_D B9 (rw_W h q g hm qm gm so sg sx I' A' M' MB' L')) B9) ([.ref h] : List Value).toArray s 0 0 B9) (F0 m 67 ls [])), ∀ (I : MI) (A : MA) (M : MI) (MB : MA) (L : ML) (X : Nat → Int32) (Y : Nat → Int64) (ls : Array Slot) (H : Heap) (locs : List Loc), f_P_readSet_152 sx rc I A M MB L X Y = some (r, I', A', M', MB', L') → lv_has ls 5 [(0, .ref h), (1, .int (X 1)), (2, .int (X 2)), (3, .int (X 3)), (4, .int (X 4))] → va_P (dC, dI) vwCl (rw_W h q g hm qm gm so sg sx I A M MB L) H → va_D B9 (rw_W h q g hm qm gm so sg sx I A M MB L) → va_S B9 s.heap H locs → W p l e (headSpec w_P_readSet ({ frames := 2, cells := 0, slots := 0, locals := 47 })).room s m ([.ref h] : List Value).toArray below meth c H locs 0 0 (MQ below (va_Qv (fun (u : Unit) => u = u) (fun (_ : Unit) t => va_P (dC, dI) vwCl (rw_W h q g hm qm gm so sg sx I' A' M' MB' L') t.heap ∧ va_K (dC, dI) vwCl (rw_T h q g hm qm gm so sg sx) t ∧ va_D B9 (rw_W h q g hm qm gm so sg sx I' A' M' MB' L')) B9) ([.ref h] : List Value).toArray s 0 0 B9) (F0 m 152 ls []) := by
    intro rc hrc67 I A M MB L X Y ls H locs hf hl hP hD hS
    unfold f_P_readSet_152 at hf
    obtain ⟨e0, e1, e2, e3, e4, e5⟩ := wk_inj5 hf
    subst e0
    subst e1
    subst e2
    subst e3
    subst e4
    subst e5
    exact W.vret hx hb hr (fun t ht hW => ⟨⟨(), rfl, rfl, by rw [ht]; exact hP, va_K.moved hW.alike hK, hD⟩, hS.F ht⟩) hS.2.2 d_P_readSet_152
  have blk112 : ∀ (rc : Nat → MI → MA → MI → MA → ML → (Nat → Int32) → (Nat → Int64) → Option (Int32 × MI × MA × MI × MA × ML)) (hrc67 : ∀ (I : MI) (A : MA) (M : MI) (MB : MA) (L : ML) (X : Nat → Int32) (Y : Nat → Int64) (ls : Array Slot) (H : Heap) (locs : List Loc), rc 67 I A M MB L X Y = some (r, I', A', M', MB', L') → lv_has ls 5 [(0, .ref h), (1, .int (X 1)), (2, .int (X 2)), (3, .int (X 3)), (4, .int (X 4))] → va_P (dC, dI) vwCl (rw_W h q g hm qm gm so sg sx I A M MB L) H → va_D B9 (rw_W h q g hm qm gm so sg sx I A M MB L) → va_S B9 s.heap H locs → W p l e (headSpec w_P_readSet ({ frames := 2, cells := 0, slots := 0, locals := 47 })).room s m ([.ref h] : List Value).toArray below meth c H locs 0 0 (MQ below (va_Qv (fun (u : Unit) => u = u) (fun (_ : Unit) t => va_P (dC, dI) vwCl (rw_W h q g hm qm gm so sg sx I' A' M' MB' L') t.heap ∧ va_K (dC, dI) vwCl (rw_T h q g hm qm gm so sg sx) t ∧ va_D B9 (rw_W h q g hm qm gm so sg sx I' A' M' MB' L')) B9) ([.ref h] : List Value).toArray s 0 0 B9) (F0 m 67 ls [])), ∀ (I : MI) (A : MA) (M : MI) (MB : MA) (L : ML) (X : Nat → Int32) (Y : Nat → Int64) (ls : Array Slot) (H : Heap) (locs : List Loc), f_P_readSet_112 sx rc I A M MB L X Y = some (r, I', A', M', MB', L') → lv_has ls 5 [(0, .ref h), (1, .int (X 1)), (2, .int (X 2)), (3, .int (X 3)), (4, .int (X 4))] → va_P (dC, dI) vwCl (rw_W h q g hm qm gm so sg sx I A M MB L) H → va_D B9 (rw_W h q g hm qm gm so sg sx I A M MB L) → va_S B9 s.heap H locs → W p l e (headSpec w_P_readSet ({ frames := 2, cells := 0, slots := 0, locals := 47 })).room s m ([.ref h] : List Value).toArray below meth c H locs 0 0 (MQ below (va_Qv (fun (u : Unit) => u = u) (fun (_ : Unit) t => va_P (dC, dI) vwCl (rw_W h q g hm qm gm so sg sx I' A' M' MB' L') t.heap ∧ va_K (dC, dI) vwCl (rw_T h q g hm qm gm so sg sx) t ∧ va_D B9 (rw_W h q g hm qm gm so sg sx I' A' M' MB' L')) B9) ([.ref h] : List Value).toArray s 0 0 B9) (F0 m 112 ls []) := by
    intro rc hrc67 I A M MB L X Y ls H locs hf hl hP hD hS
    unfold f_P_readSet_112 at hf
    refine lv_aload_n hx hb d_P_readSet_112 rfl (lv_at hl 0 rfl) ?_
    refine va_get (D := (dC, dI)) (ci := 2) (v := .int (I 7)) (C := R_P) (T := F_P) (N := 13) hx hb hts (fun w h => List.mem_cons_of_mem _ (in_P w h)) hown hK hP 0 rfl rfl 7 (by decide) (hts _ (List.mem_cons_of_mem _ lk_329)) (fun _ h9 => h9) rfl d_P_readSet_113 ?_
    refine lv_aload_n hx hb d_P_readSet_116 rfl (lv_at hl 0 rfl) ?_
    refine va_get (D := (dC, dI)) (ci := 2) (v := .int (I 6)) (C := R_P) (T := F_P) (N := 13) hx hb hts (fun w h => List.mem_cons_of_mem _ (in_P w h)) hown hK hP 0 rfl rfl 6 (by decide) (hts _ (List.mem_cons_of_mem _ lk_328)) (fun _ h9 => h9) rfl d_P_readSet_117 ?_
    refine lv_icmp_eq (tgt := 131) hx hb d_P_readSet_120 (by decide) (fun hc1 => ?_) (fun hc1 => ?_)
    ·
      have hf := wk_ift hc1 hf
      exact blk131 rc hrc67 I A M MB L X Y _ _ _ hf (lv_sub hl [0, 1, 2, 3, 4] rfl) hP hD hS
    ·
      have hf := wk_iff hc1 hf
      refine lv_aload_n hx hb d_P_readSet_123 rfl (lv_at hl 0 rfl) ?_
      refine va_get (D := (dC, dI)) (ci := 2) (v := .int (I 7)) (C := R_P) (T := F_P) (N := 13) hx hb hts (fun w h => List.mem_cons_of_mem _ (in_P w h)) hown hK hP 0 rfl rfl 7 (by decide) (hts _ (List.mem_cons_of_mem _ lk_329)) (fun _ h9 => h9) rfl d_P_readSet_124 ?_
      refine lv_iload_n hx hb d_P_readSet_127 rfl (lv_at hl 2 rfl) ?_
      refine lv_icmp_ne (tgt := 140) hx hb d_P_readSet_128 (by decide) (fun hc2 => ?_) (fun hc2 => ?_)
      ·
        have hf := wk_iff hc2 hf
        refine lv_iload_n hx hb d_P_readSet_140 rfl (lv_at hl 1 rfl) ?_
        refine lv_if_eq (tgt := 152) hx hb d_P_readSet_141 (by decide) (fun hc3 => ?_) (fun hc3 => ?_)
        ·
          have hf := wk_ift hc3 hf
          exact blk152 rc hrc67 I A M MB L X Y _ _ _ hf (lv_sub hl [0, 1, 2, 3, 4] rfl) hP hD hS
        ·
          have hf := wk_iff hc3 hf
          refine lv_aload_n hx hb d_P_readSet_144 rfl (lv_at hl 0 rfl) ?_
          refine va_get (D := (dC, dI)) (ci := 2) (v := .ref hm) (C := R_P) (T := F_P) (N := 13) hx hb hts (fun w h => List.mem_cons_of_mem _ (in_P w h)) hown hK hP 0 rfl rfl 4 (by decide) (hts _ (List.mem_cons_of_mem _ lk_331)) (fun _ h9 => h9) rfl d_P_readSet_145 ?_
          refine lv_iload_n hx hb d_P_readSet_148 rfl (lv_at hl 3 rfl) ?_
          have hPc := hP.sub (ws' := (aw_W hm qm gm M MB L)) [5, 6, 7, 8, 9, 10] rfl
          have hDc := hD.sub (ws' := (aw_W hm qm gm M MB L)) [5, 6, 7, 8, 9, 10] (by decide) rfl
          have hKc := hK.sub (tys' := (aw_T hm qm gm)) [4, 5, 6, 7, 8] rfl
          have hFc := va_free (wc := (aw_W hm qm gm M MB L)) hD hS hA [5, 6, 7, 8, 9, 10] rfl
          cases hg1 : f_A_takeOtherCodes M MB L (X 3) with
          | none => rw [hg1] at hf; cases hf
          | some z1 =>
            obtain ⟨r1, M1, MB1, L1⟩ := z1
            rw [hg1] at hf
            dsimp only [Option.bind_some] at hf
            refine va_callv (va_runV (As := [.int (X 3)]) (rest := []) ⟨hx, hb, hml, hown, hts⟩ (cm_A_takeOtherCodes l dC dI hm qm gm _  M MB L (X 3) r1 M1 MB1 L1 hg1) (cwV 1 hts (gd_v lk_385 lk_386 lk_387 lk_274 lk_384) rfl rfl rfl (by decide +kernel) ⟨Nat.le_of_ble_eq_true rfl, Nat.le_of_ble_eq_true rfl⟩) ⟨fun a U g mk q => by obtain ⟨q0, q1, qP, qK, qD⟩ := q; exact ⟨q0, q1, qP, va_K.moved (u := U) (U := U.calling g mk a) (Vm.Alike.refl U.vm) qK, qD⟩, va_recv (ci := 3) (q0 := 5) hK hP rfl rfl, fun U hU hW => ⟨rfl, by rw [hU], by rw [hU]; exact hPc, va_K.moved hW.alike hKc, hDc.weaken (fun _ _ _ _ => trivial)⟩⟩ rfl rfl hl.1 rfl (lv_room (Nat.le_of_ble_eq_true rfl)) d_P_readSet_149 ⟨Nat.le_of_ble_eq_true rfl, Nat.le_of_ble_eq_true rfl⟩) hS (fun q _ h => hFc q h) hFc (fun u t H1 locs ht hvm hw hB hz1 hk1 hS => ?_)
            obtain ⟨hP1, hK1, hD1⟩ := hB
            rw [ht] at hP1
            obtain ⟨hP, hD⟩ := va_join (wr := (([0, 1, 2, 3, 4, 11] : List Nat).map (fun i => ((rw_W h q g hm qm gm so sg sx I A M MB L)).getD i (0, .inr (0, []))))) (w1 := (aw_W hm qm gm M1 MB1 L1)) hP hD [5, 6, 7, 8, 9, 10] [0, 1, 2, 3, 4, 11] rfl rfl (by decide) (by decide) hk1 hFc hP1 hD1
            generalize H1 = H at hP hS ⊢
            have hP := hP.sub (ws' := (rw_W h q g hm qm gm so sg sx I A M1 MB1 L1)) [0, 1, 2, 3, 4, 6, 7, 8, 9, 10, 11, 5] rfl
            have hD := hD.sub (ws' := (rw_W h q g hm qm gm so sg sx I A M1 MB1 L1)) [0, 1, 2, 3, 4, 6, 7, 8, 9, 10, 11, 5] (by decide) rfl
            exact blk152 rc hrc67 I A M1 MB1 L1 X Y _ _ _ hf (lv_sub hl [0, 1, 2, 3, 4] rfl) hP hD hS
      ·
        have hf := wk_ift hc2 hf
        exact blk131 rc hrc67 I A M MB L X Y _ _ _ hf (lv_sub hl [0, 1, 2, 3, 4] rfl) hP hD hS
  have stp67 : ∀ (rc : Nat → MI → MA → MI → MA → ML → (Nat → Int32) → (Nat → Int64) → Option (Int32 × MI × MA × MI × MA × ML)) (hrc67 : ∀ (I : MI) (A : MA) (M : MI) (MB : MA) (L : ML) (X : Nat → Int32) (Y : Nat → Int64) (ls : Array Slot) (H : Heap) (locs : List Loc), rc 67 I A M MB L X Y = some (r, I', A', M', MB', L') → lv_has ls 5 [(0, .ref h), (1, .int (X 1)), (2, .int (X 2)), (3, .int (X 3)), (4, .int (X 4))] → va_P (dC, dI) vwCl (rw_W h q g hm qm gm so sg sx I A M MB L) H → va_D B9 (rw_W h q g hm qm gm so sg sx I A M MB L) → va_S B9 s.heap H locs → W p l e (headSpec w_P_readSet ({ frames := 2, cells := 0, slots := 0, locals := 47 })).room s m ([.ref h] : List Value).toArray below meth c H locs 0 0 (MQ below (va_Qv (fun (u : Unit) => u = u) (fun (_ : Unit) t => va_P (dC, dI) vwCl (rw_W h q g hm qm gm so sg sx I' A' M' MB' L') t.heap ∧ va_K (dC, dI) vwCl (rw_T h q g hm qm gm so sg sx) t ∧ va_D B9 (rw_W h q g hm qm gm so sg sx I' A' M' MB' L')) B9) ([.ref h] : List Value).toArray s 0 0 B9) (F0 m 67 ls [])), ∀ (I : MI) (A : MA) (M : MI) (MB : MA) (L : ML) (X : Nat → Int32) (Y : Nat → Int64) (ls : Array Slot) (H : Heap) (locs : List Loc), f_P_readSet_67 sx rc I A M MB L X Y = some (r, I', A', M', MB', L') → lv_has ls 5 [(0, .ref h), (1, .int (X 1)), (2, .int (X 2)), (3, .int (X 3)), (4, .int (X 4))] → va_P (dC, dI) vwCl (rw_W h q g hm qm gm so sg sx I A M MB L) H → va_D B9 (rw_W h q g hm qm gm so sg sx I A M MB L) → va_S B9 s.heap H locs → W p l e (headSpec w_P_readSet ({ frames := 2, cells := 0, slots := 0, locals := 47 })).room s m ([.ref h] : List Value).toArray below meth c H locs 0 0 (MQ below (va_Qv (fun (u : Unit) => u = u) (fun (_ : Unit) t => va_P (dC, dI) vwCl (rw_W h q g hm qm gm so sg sx I' A' M' MB' L') t.heap ∧ va_K (dC, dI) vwCl (rw_T h q g hm qm gm so sg sx) t ∧ va_D B9 (rw_W h q g hm qm gm so sg sx I' A' M' MB' L')) B9) ([.ref h] : List Value).toArray s 0 0 B9) (F0 m 67 ls []) := by
    intro rc hrc67 I A M MB L X Y ls H locs hf hl hP hD hS
    unfold f_P_readSet_67 at hf
    refine lv_iload hx hb d_P_readSet_67 (lv_at hl 4 rfl) ?_
    refine lv_aload_n hx hb d_P_readSet_69 rfl (lv_at hl 0 rfl) ?_
    refine va_get (D := (dC, dI)) (ci := 2) (v := .int (I 6)) (C := R_P) (T := F_P) (N := 13) hx hb hts (fun w h => List.mem_cons_of_mem _ (in_P w h)) hown hK hP 0 rfl rfl 6 (by decide) (hts _ (List.mem_cons_of_mem _ lk_328)) (fun _ h9 => h9) rfl d_P_readSet_70 ?_
    refine lv_icmp_ge (tgt := 112) hx hb d_P_readSet_73 (by decide) (fun hc1 => ?_) (fun hc1 => ?_)
    ·
      have hf := wk_ift hc1 hf
      exact blk112 rc hrc67 I A M MB L X Y _ _ _ hf (lv_sub hl [0, 1, 2, 3, 4] rfl) hP hD hS
    ·
      have hf := wk_iff hc1 hf
      refine lv_aload_n hx hb d_P_readSet_76 rfl (lv_at hl 0 rfl) ?_
      refine va_get (D := (dC, dI)) (ci := 2) (v := .int (I 7)) (C := R_P) (T := F_P) (N := 13) hx hb hts (fun w h => List.mem_cons_of_mem _ (in_P w h)) hown hK hP 0 rfl rfl 7 (by decide) (hts _ (List.mem_cons_of_mem _ lk_329)) (fun _ h9 => h9) rfl d_P_readSet_77 ?_
      refine lv_aload_n hx hb d_P_readSet_80 rfl (lv_at hl 0 rfl) ?_
      refine va_get (D := (dC, dI)) (ci := 2) (v := .int (I 6)) (C := R_P) (T := F_P) (N := 13) hx hb hts (fun w h => List.mem_cons_of_mem _ (in_P w h)) hown hK hP 0 rfl rfl 6 (by decide) (hts _ (List.mem_cons_of_mem _ lk_328)) (fun _ h9 => h9) rfl d_P_readSet_81 ?_
      refine lv_icmp_ge (tgt := 112) hx hb d_P_readSet_84 (by decide) (fun hc2 => ?_) (fun hc2 => ?_)
      ·
        have hf := wk_ift hc2 hf
        exact blk112 rc hrc67 I A M MB L X Y _ _ _ hf (lv_sub hl [0, 1, 2, 3, 4] rfl) hP hD hS
      ·
        have hf := wk_iff hc2 hf
        refine lv_aload_n hx hb d_P_readSet_87 rfl (lv_at hl 0 rfl) ?_
        refine va_get (D := (dC, dI)) (ci := 2) (v := .ref so) (C := R_P) (T := F_P) (N := 13) hx hb hts (fun w h => List.mem_cons_of_mem _ (in_P w h)) hown hK hP 0 rfl rfl 5 (by decide) (hts _ (List.mem_cons_of_mem _ lk_327)) (fun _ h9 => h9) rfl d_P_readSet_88 ?_
        refine lv_aload_n hx hb d_P_readSet_91 rfl (lv_at hl 0 rfl) ?_
        refine va_get (D := (dC, dI)) (ci := 2) (v := .int (I 7)) (C := R_P) (T := F_P) (N := 13) hx hb hts (fun w h => List.mem_cons_of_mem _ (in_P w h)) hown hK hP 0 rfl rfl 7 (by decide) (hts _ (List.mem_cons_of_mem _ lk_329)) (fun _ h9 => h9) rfl d_P_readSet_92 ?_
        obtain ⟨hc3, hf⟩ := wk_if hf
        refine va_cald hx hb hK hP 11 9 rfl rfl (wk_inb_ok hc3) d_P_readSet_95 ?_
        refine lv_bipush (v := 93) hx hb d_P_readSet_96 (by decide) ?_
        refine lv_icmp_eq (tgt := 112) hx hb d_P_readSet_98 (by decide) (fun hc4 => ?_) (fun hc4 => ?_)
        ·
          have hf := wk_ift hc4 hf
          exact blk112 rc hrc67 I A M MB L X Y _ _ _ hf (lv_sub hl [0, 1, 2, 3, 4] rfl) hP hD hS
        ·
          have hf := wk_iff hc4 hf
          refine lv_aload_n hx hb d_P_readSet_101 rfl (lv_at hl 0 rfl) ?_
          refine lv_iload_n hx hb d_P_readSet_102 rfl (lv_at hl 3 rfl) ?_
          have hPc := hP.sub (ws' := (rw_W h q g hm qm gm so sg sx I A M MB L)) [0, 1, 2, 3, 4, 5, 6, 7, 8, 9, 10, 11] rfl
          have hDc := hD.sub (ws' := (rw_W h q g hm qm gm so sg sx I A M MB L)) [0, 1, 2, 3, 4, 5, 6, 7, 8, 9, 10, 11] (by decide) rfl
          have hKc := hK.sub (tys' := (rw_T h q g hm qm gm so sg sx)) [0, 1, 2, 3, 4, 5, 6, 7, 8, 9] rfl
          have hFc := va_free (wc := (rw_W h q g hm qm gm so sg sx I A M MB L)) hD hS hA [0, 1, 2, 3, 4, 5, 6, 7, 8, 9, 10, 11] rfl
          cases hg1 : f_P_readRange sx I A M MB L (X 3) with
          | none => rw [hg1] at hf; cases hf
          | some z1 =>
            obtain ⟨r1, I1, A1, M1, MB1, L1⟩ := z1
            rw [hg1] at hf
            dsimp only [Option.bind_some] at hf
            refine va_callv (va_runV (As := [.int (X 3)]) (rest := []) ⟨hx, hb, hml, hown, hts⟩ (cm_P_readRange l dC dI h q g hm qm gm so sg sx _  I A M MB L (X 3) r1 I1 A1 M1 MB1 L1 hg1) (cwV 1 hts (gd_v lk_381 lk_382 lk_383 lk_349 lk_380) rfl rfl rfl (by decide +kernel) ⟨Nat.le_of_ble_eq_true rfl, Nat.le_of_ble_eq_true rfl⟩) ⟨fun a U g mk q => by obtain ⟨q0, q1, qP, qK, qD⟩ := q; exact ⟨q0, q1, qP, va_K.moved (u := U) (U := U.calling g mk a) (Vm.Alike.refl U.vm) qK, qD⟩, va_recv (ci := 2) (q0 := 0) hK hP rfl rfl, fun U hU hW => ⟨rfl, by rw [hU], by rw [hU]; exact hPc, va_K.moved hW.alike hKc, hDc.weaken (fun _ _ _ _ => trivial)⟩⟩ rfl rfl hl.1 rfl (lv_room (Nat.le_of_ble_eq_true rfl)) d_P_readSet_103 ⟨Nat.le_of_ble_eq_true rfl, Nat.le_of_ble_eq_true rfl⟩) hS (fun q _ h => hFc q h) hFc (fun u t H1 locs ht hvm hw hB hz1 hk1 hS => ?_)
            obtain ⟨hP1, hK1, hD1⟩ := hB
            rw [ht] at hP1
            obtain ⟨hP, hD⟩ := va_join (wr := (([] : List Nat).map (fun i => ((rw_W h q g hm qm gm so sg sx I A M MB L)).getD i (0, .inr (0, []))))) (w1 := (rw_W h q g hm qm gm so sg sx I1 A1 M1 MB1 L1)) hP hD [0, 1, 2, 3, 4, 5, 6, 7, 8, 9, 10, 11] [] rfl rfl (by decide) (by decide) hk1 hFc hP1 hD1
            generalize H1 = H at hP hS ⊢
            have hP := hP.sub (ws' := (rw_W h q g hm qm gm so sg sx I1 A1 M1 MB1 L1)) [0, 1, 2, 3, 4, 5, 6, 7, 8, 9, 10, 11] rfl
            have hD := hD.sub (ws' := (rw_W h q g hm qm gm so sg sx I1 A1 M1 MB1 L1)) [0, 1, 2, 3, 4, 5, 6, 7, 8, 9, 10, 11] (by decide) rfl
            refine lv_iinc (k := 4) (v := ((X 4) + 1)) (lv' := [(4, .int ((X 4) + 1)), (0, .ref h), (1, .int (X 1)), (2, .int (X 2)), (3, .int (X 3))]) hx hb d_P_readSet_106 hl rfl (wk_inc (by decide)) (by decide) rfl (fun ls hl => ?_)
            have hl : lv_has ls 5 [(4, .int ((X 4) + 1)), (0, .ref h), (1, .int (X 1)), (2, .int (X 2)), (3, .int (X 3))] := hl
            refine lv_goto (tgt := 67) hx hb d_P_readSet_109 (by decide) ?_
            exact hrc67 I1 A1 M1 MB1 L1 (upd X 4 ((X 4) + 1)) Y _ _ _ hf (lv_sub hl [1, 2, 3, 4, 0] rfl) hP hD hS
  have key : ∀ n : Nat, (∀ (I : MI) (A : MA) (M : MI) (MB : MA) (L : ML) (X : Nat → Int32) (Y : Nat → Int64) (ls : Array Slot) (H : Heap) (locs : List Loc), f_P_readSet_go sx n 67 I A M MB L X Y = some (r, I', A', M', MB', L') → lv_has ls 5 [(0, .ref h), (1, .int (X 1)), (2, .int (X 2)), (3, .int (X 3)), (4, .int (X 4))] → va_P (dC, dI) vwCl (rw_W h q g hm qm gm so sg sx I A M MB L) H → va_D B9 (rw_W h q g hm qm gm so sg sx I A M MB L) → va_S B9 s.heap H locs → W p l e (headSpec w_P_readSet ({ frames := 2, cells := 0, slots := 0, locals := 47 })).room s m ([.ref h] : List Value).toArray below meth c H locs 0 0 (MQ below (va_Qv (fun (u : Unit) => u = u) (fun (_ : Unit) t => va_P (dC, dI) vwCl (rw_W h q g hm qm gm so sg sx I' A' M' MB' L') t.heap ∧ va_K (dC, dI) vwCl (rw_T h q g hm qm gm so sg sx) t ∧ va_D B9 (rw_W h q g hm qm gm so sg sx I' A' M' MB' L')) B9) ([.ref h] : List Value).toArray s 0 0 B9) (F0 m 67 ls [])) := by
    intro n
    induction n with
    | zero => exact fun I A M MB L X Y ls H locs hf => (by cases hf)
    | succ n ih =>
      have ih67 := ih
      exact stp67 (f_P_readSet_go sx n) ih67
  unfold f_P_readSet f_P_readSet_e at hf
  have hrc67 := key wk_FUEL
  refine lv_aload_n hx hb d_P_readSet_0 rfl (lv_at hl 0 rfl) ?_
  refine va_get (D := (dC, dI)) (ci := 2) (v := .int (I 7)) (C := R_P) (T := F_P) (N := 13) hx hb hts (fun w h => List.mem_cons_of_mem _ (in_P w h)) hown hK hP 0 rfl rfl 7 (by decide) (hts _ (List.mem_cons_of_mem _ lk_329)) (fun _ h9 => h9) rfl d_P_readSet_1 ?_
  refine lv_iconst (v := 1) hx hb d_P_readSet_4 (by decide) ?_
  refine lv_iadd hx hb d_P_readSet_5 ?_
  refine lv_aload_n hx hb d_P_readSet_6 rfl (lv_at hl 0 rfl) ?_
  refine va_get (D := (dC, dI)) (ci := 2) (v := .int (I 6)) (C := R_P) (T := F_P) (N := 13) hx hb hts (fun w h => List.mem_cons_of_mem _ (in_P w h)) hown hK hP 0 rfl rfl 6 (by decide) (hts _ (List.mem_cons_of_mem _ lk_328)) (fun _ h9 => h9) rfl d_P_readSet_7 ?_
  refine lv_icmp_ge (tgt := 33) hx hb d_P_readSet_10 (by decide) (fun hc1 => ?_) (fun hc1 => ?_)
  ·
    have hf := wk_ift hc1 hf
    exact blk33 _ hrc67 I A M MB L (fun _ => 0) (fun _ => 0) _ _ _ hf (lv_sub hl [0] rfl) hP hD hS
  ·
    have hf := wk_iff hc1 hf
    refine lv_aload_n hx hb d_P_readSet_13 rfl (lv_at hl 0 rfl) ?_
    refine va_get (D := (dC, dI)) (ci := 2) (v := .ref so) (C := R_P) (T := F_P) (N := 13) hx hb hts (fun w h => List.mem_cons_of_mem _ (in_P w h)) hown hK hP 0 rfl rfl 5 (by decide) (hts _ (List.mem_cons_of_mem _ lk_327)) (fun _ h9 => h9) rfl d_P_readSet_14 ?_
    refine lv_aload_n hx hb d_P_readSet_17 rfl (lv_at hl 0 rfl) ?_
    refine va_get (D := (dC, dI)) (ci := 2) (v := .int (I 7)) (C := R_P) (T := F_P) (N := 13) hx hb hts (fun w h => List.mem_cons_of_mem _ (in_P w h)) hown hK hP 0 rfl rfl 7 (by decide) (hts _ (List.mem_cons_of_mem _ lk_329)) (fun _ h9 => h9) rfl d_P_readSet_18 ?_
    refine lv_iconst (v := 1) hx hb d_P_readSet_21 (by decide) ?_
    refine lv_iadd hx hb d_P_readSet_22 ?_
    obtain ⟨hc2, hf⟩ := wk_if hf
    refine va_cald hx hb hK hP 11 9 rfl rfl (wk_inb_ok hc2) d_P_readSet_23 ?_
    refine lv_bipush (v := 94) hx hb d_P_readSet_24 (by decide) ?_
    refine lv_icmp_ne (tgt := 33) hx hb d_P_readSet_26 (by decide) (fun hc3 => ?_) (fun hc3 => ?_)
    ·
      have hf := wk_iff hc3 hf
      exact blk33 _ hrc67 I A M MB L (fun _ => 0) (fun _ => 0) _ _ _ hf (lv_sub hl [0] rfl) hP hD hS
    ·
      have hf := wk_ift hc3 hf
      refine lv_iconst (v := 1) hx hb d_P_readSet_29 (by decide) ?_
      refine lv_goto (tgt := 34) hx hb d_P_readSet_30 (by decide) ?_
      exact blk34 _ hrc67 I A M MB L (fun _ => 0) (fun _ => 0) 1 _ _ _ hf (lv_sub hl [0] rfl) hP hD hS

-- 18.ccon05
set_option maxHeartbeats 8000000 in
set_option maxRecDepth 100000 in
theorem cm_P_readLiteral (l : Launch) (dC : Nat → ClassId) (dI : Nat → Nat → Nat) (h : Nat) (q : Nat → Nat) (g : Nat → ClassId) (hm : Nat) (qm : Nat → Nat) (gm : Nat → ClassId) (so : Nat) (sg : ClassId) (sx : Nat → Int32) (sz : Nat) (I : MI) (A : MA) (M : MI) (MB : MA) (L : ML) (k1 : Int32) (r : Int32) (I' : MI) (A' : MA) (M' : MI) (MB' : MA) (L' : ML) (hf : f_P_readLiteral sx I A M MB L  k1 = some (r, I', A', M', MB', L')) : Met l y_P_readLiteral w_P_readLiteral ({ frames := 2, cells := 0, slots := 0, locals := 44 }) (va_Pc [.ref h, .int k1] (fun U => U.heap.size = sz ∧ va_P (dC, dI) vwCl (rw_W h q g hm qm gm so sg sx I A M MB L) U.heap ∧ va_K (dC, dI) vwCl (rw_T h q g hm qm gm so sg sx) U ∧ va_D (fun _ => True) (rw_W h q g hm qm gm so sg sx I A M MB L))) (va_Qv (fun (u : Unit) => u = u) (fun (_ : Unit) t => va_P (dC, dI) vwCl (rw_W h q g hm qm gm so sg sx I' A' M' MB' L') t.heap ∧ va_K (dC, dI) vwCl (rw_T h q g hm qm gm so sg sx) t ∧ va_D (va_A (rw_W h q g hm qm gm so sg sx I A M MB L) sz) (rw_W h q g hm qm gm so sg sx I' A' M' MB' L')) (va_A (rw_W h q g hm qm gm so sg sx I A M MB L) sz)) 0 0 (va_A (rw_W h q g hm qm gm so sg sx I A M MB L) sz) := by
  refine Met.ofW (cc := prog_3_method_8_code) (maxL := 3) (ret := none) (by decide) rfl ?_
  intro p e s m args below meth c s₁ B hml hv
  obtain ⟨rfl, hsz, hP, hK, hD0⟩ := hv
  have hx := B.exec
  have hb := B.bytes
  have hr := B.returns
  have hts := atoms_spec (ws := w_P_readLiteral) B.pre
  have hown : s.vm.findClass "DraftTree$PatternReader" = some m.cls := findClass_of_methodNamed B.named
  have hlocks := B.notSynchronized
  subst hsz
  have hD := hD0.self (sz := s.heap.size)
  generalize hAe : va_A (rw_W h q g hm qm gm so sg sx I A M MB L) s.heap.size = B9 at hD ⊢
  have hA : ∀ q : Nat, s.heap.size ≤ q → B9 q := fun q h => by rw [← hAe]; exact Or.inr h
  clear hAe
  have hS : va_S B9 s.heap s.heap [] := va_S.rf
  have hl := lv_entry ([.ref h, .int k1]) (n := 3) (Nat.le_of_ble_eq_true rfl)
  rw [lg_entry_eq]
  generalize (lg_sl ([.ref h, .int k1]) ++ List.replicate (3 - (lg_sl ([.ref h, .int k1])).length) Slot.unset).toArray = ls at hl ⊢
  have hl : lv_has ls 3 [(0, .ref h), (1, .int k1)] := hl
  unfold f_P_readLiteral at hf
  refine lv_aload_n hx hb d_P_readLiteral_0 rfl (lv_at hl 0 rfl) ?_
  refine lv_iconst (v := 1) hx hb d_P_readLiteral_1 (by decide) ?_
  have hPc := hP.sub (ws' := (rw_W h q g hm qm gm so sg sx I A M MB L)) [0, 1, 2, 3, 4, 5, 6, 7, 8, 9, 10, 11] rfl
  have hDc := hD.sub (ws' := (rw_W h q g hm qm gm so sg sx I A M MB L)) [0, 1, 2, 3, 4, 5, 6, 7, 8, 9, 10, 11] (by decide) rfl
  have hKc := hK.sub (tys' := (rw_T h q g hm qm gm so sg sx)) [0, 1, 2, 3, 4, 5, 6, 7, 8, 9] rfl
  have hFc := va_free (wc := (rw_W h q g hm qm gm so sg sx I A M MB L)) hD hS hA [0, 1, 2, 3, 4, 5, 6, 7, 8, 9, 10, 11] rfl
  cases hg1 : f_P_addNodeAsPart sx I A M MB L 1 with
  | none => rw [hg1] at hf; cases hf
  | some z1 =>
    obtain ⟨r1, I1, A1, M1, MB1, L1⟩ := z1
    rw [hg1] at hf
    dsimp only [Option.bind_some] at hf
    refine va_calli (va_runV (As := [.int 1]) (rest := []) ⟨hx, hb, hml, hown, hts⟩ (cm_P_addNodeAsPart l dC dI h q g hm qm gm so sg sx _  I A M MB L 1 r1 I1 A1 M1 MB1 L1 hg1) (cwV 1 hts (gd_v lk_373 lk_374 lk_375 lk_349 lk_372) rfl rfl rfl (by decide +kernel) ⟨Nat.le_of_ble_eq_true rfl, Nat.le_of_ble_eq_true rfl⟩) ⟨fun a U g mk q => by obtain ⟨q0, q1, qP, qK, qD⟩ := q; exact ⟨q0, q1, qP, va_K.moved (u := U) (U := U.calling g mk a) (Vm.Alike.refl U.vm) qK, qD⟩, va_recv (ci := 2) (q0 := 0) hK hP rfl rfl, fun U hU hW => ⟨rfl, by rw [hU], by rw [hU]; exact hPc, va_K.moved hW.alike hKc, hDc.weaken (fun _ _ _ _ => trivial)⟩⟩ rfl rfl hl.1 rfl (lv_room (Nat.le_of_ble_eq_true rfl)) d_P_readLiteral_2 ⟨Nat.le_of_ble_eq_true rfl, Nat.le_of_ble_eq_true rfl⟩) hS (fun q _ h => hFc q h) hFc (fun r9 u t H1 locs ht hvm hw hB hz1 hk1 hS => ?_)
    obtain ⟨hP1, hK1, hD1⟩ := hB
    rw [ht] at hP1
    rw [hw]
    obtain ⟨hP, hD⟩ := va_join (wr := (([] : List Nat).map (fun i => ((rw_W h q g hm qm gm so sg sx I A M MB L)).getD i (0, .inr (0, []))))) (w1 := (rw_W h q g hm qm gm so sg sx I1 A1 M1 MB1 L1)) hP hD [0, 1, 2, 3, 4, 5, 6, 7, 8, 9, 10, 11] [] rfl rfl (by decide) (by decide) hk1 hFc hP1 hD1
    generalize H1 = H at hP hS ⊢
    have hP := hP.sub (ws' := (rw_W h q g hm qm gm so sg sx I1 A1 M1 MB1 L1)) [0, 1, 2, 3, 4, 5, 6, 7, 8, 9, 10, 11] rfl
    have hD := hD.sub (ws' := (rw_W h q g hm qm gm so sg sx I1 A1 M1 MB1 L1)) [0, 1, 2, 3, 4, 5, 6, 7, 8, 9, 10, 11] (by decide) rfl
    refine lv_istore_n (lv' := [(2, .int r1), (0, .ref h), (1, .int k1)]) hx hb d_P_readLiteral_5 rfl hl (by decide) rfl (fun ls hl => ?_)
    have hl : lv_has ls 3 [(2, .int r1), (0, .ref h), (1, .int k1)] := hl
    refine lv_aload_n hx hb d_P_readLiteral_6 rfl (lv_at hl 1 rfl) ?_
    refine va_get (D := (dC, dI)) (ci := 2) (v := .ref hm) (C := R_P) (T := F_P) (N := 13) hx hb hts (fun w h => List.mem_cons_of_mem _ (in_P w h)) hown hK hP 0 rfl rfl 4 (by decide) (hts _ (List.mem_cons_of_mem _ lk_331)) (fun _ h9 => h9) rfl d_P_readLiteral_7 ?_
    refine lv_iload_n hx hb d_P_readLiteral_10 rfl (lv_at hl 0 rfl) ?_
    refine lv_iload_n hx hb d_P_readLiteral_11 rfl (lv_at hl 2 rfl) ?_
    refine lv_iload_n hx hb d_P_readLiteral_12 rfl (lv_at hl 2 rfl) ?_
    have hPc := hP.sub (ws' := (aw_W hm qm gm M1 MB1 L1)) [5, 6, 7, 8, 9, 10] rfl
    have hDc := hD.sub (ws' := (aw_W hm qm gm M1 MB1 L1)) [5, 6, 7, 8, 9, 10] (by decide) rfl
    have hKc := hK.sub (tys' := (aw_T hm qm gm)) [4, 5, 6, 7, 8] rfl
    have hFc := va_free (wc := (aw_W hm qm gm M1 MB1 L1)) hD hS hA [5, 6, 7, 8, 9, 10] rfl
    cases hg2 : f_A_takeCodes M1 MB1 L1 r1 k1 k1 with
    | none => rw [hg2] at hf; cases hf
    | some z2 =>
      obtain ⟨r2, M2, MB2, L2⟩ := z2
      rw [hg2] at hf
      dsimp only [Option.bind_some] at hf
      refine va_callv (va_runV (As := [.int r1, .int k1, .int k1]) (rest := []) ⟨hx, hb, hml, hown, hts⟩ (cm_A_takeCodes l dC dI hm qm gm _  M1 MB1 L1 r1 k1 k1 r2 M2 MB2 L2 hg2) (cwV 3 hts (gd_v lk_377 lk_378 lk_379 lk_274 lk_376) rfl rfl rfl (by decide +kernel) ⟨Nat.le_of_ble_eq_true rfl, Nat.le_of_ble_eq_true rfl⟩) ⟨fun a U g mk q => by obtain ⟨q0, q1, qP, qK, qD⟩ := q; exact ⟨q0, q1, qP, va_K.moved (u := U) (U := U.calling g mk a) (Vm.Alike.refl U.vm) qK, qD⟩, va_recv (ci := 3) (q0 := 5) hK hP rfl rfl, fun U hU hW => ⟨rfl, by rw [hU], by rw [hU]; exact hPc, va_K.moved hW.alike hKc, hDc.weaken (fun _ _ _ _ => trivial)⟩⟩ rfl rfl hl.1 rfl (lv_room (Nat.le_of_ble_eq_true rfl)) d_P_readLiteral_13 ⟨Nat.le_of_ble_eq_true rfl, Nat.le_of_ble_eq_true rfl⟩) hS (fun q _ h => hFc q h) hFc (fun u t H1 locs ht hvm hw hB hz1 hk1 hS => ?_)
      obtain ⟨hP1, hK1, hD1⟩ := hB
      rw [ht] at hP1
      obtain ⟨hP, hD⟩ := va_join (wr := (([0, 1, 2, 3, 4, 11] : List Nat).map (fun i => ((rw_W h q g hm qm gm so sg sx I1 A1 M1 MB1 L1)).getD i (0, .inr (0, []))))) (w1 := (aw_W hm qm gm M2 MB2 L2)) hP hD [5, 6, 7, 8, 9, 10] [0, 1, 2, 3, 4, 11] rfl rfl (by decide) (by decide) hk1 hFc hP1 hD1
      generalize H1 = H at hP hS ⊢
      have hP := hP.sub (ws' := (rw_W h q g hm qm gm so sg sx I1 A1 M2 MB2 L2)) [0, 1, 2, 3, 4, 6, 7, 8, 9, 10, 11, 5] rfl
      have hD := hD.sub (ws' := (rw_W h q g hm qm gm so sg sx I1 A1 M2 MB2 L2)) [0, 1, 2, 3, 4, 6, 7, 8, 9, 10, 11, 5] (by decide) rfl
      obtain ⟨e0, e1, e2, e3, e4, e5⟩ := wk_inj5 hf
      subst e0
      subst e1
      subst e2
      subst e3
      subst e4
      subst e5
      exact W.vret hx hb hr (fun t ht hW => ⟨⟨(), rfl, rfl, by rw [ht]; exact hP, va_K.moved hW.alike hK, hD⟩, hS.F ht⟩) hS.2.2 d_P_readLiteral_16

set_option maxHeartbeats 8000000 in
set_option maxRecDepth 100000 in
theorem cm_P_readEscaped (l : Launch) (dC : Nat → ClassId) (dI : Nat → Nat → Nat) (h : Nat) (q : Nat → Nat) (g : Nat → ClassId) (hm : Nat) (qm : Nat → Nat) (gm : Nat → ClassId) (so : Nat) (sg : ClassId) (sx : Nat → Int32) (sz : Nat) (I : MI) (A : MA) (M : MI) (MB : MA) (L : ML) (r : Int32) (I' : MI) (A' : MA) (M' : MI) (MB' : MA) (L' : ML) (hf : f_P_readEscaped sx I A M MB L  = some (r, I', A', M', MB', L')) : Met l y_P_readEscaped w_P_readEscaped ({ frames := 3, cells := 0, slots := 0, locals := 66 }) (va_Pc [.ref h] (fun U => U.heap.size = sz ∧ va_P (dC, dI) vwCl (rw_W h q g hm qm gm so sg sx I A M MB L) U.heap ∧ va_K (dC, dI) vwCl (rw_T h q g hm qm gm so sg sx) U ∧ va_D (fun _ => True) (rw_W h q g hm qm gm so sg sx I A M MB L))) (va_Qv (fun (u : Unit) => u = u) (fun (_ : Unit) t => va_P (dC, dI) vwCl (rw_W h q g hm qm gm so sg sx I' A' M' MB' L') t.heap ∧ va_K (dC, dI) vwCl (rw_T h q g hm qm gm so sg sx) t ∧ va_D (va_A (rw_W h q g hm qm gm so sg sx I A M MB L) sz) (rw_W h q g hm qm gm so sg sx I' A' M' MB' L')) (va_A (rw_W h q g hm qm gm so sg sx I A M MB L) sz)) 0 0 (va_A (rw_W h q g hm qm gm so sg sx I A M MB L) sz) := by
  refine Met.ofW (cc := prog_3_method_9_code) (maxL := 1) (ret := none) (by decide) rfl ?_
  intro p e s m args below meth c s₁ B hml hv
  obtain ⟨rfl, hsz, hP, hK, hD0⟩ := hv
  have hx := B.exec
  have hb := B.bytes
  have hr := B.returns
  have hts := atoms_spec (ws := w_P_readEscaped) B.pre
  have hown : s.vm.findClass "DraftTree$PatternReader" = some m.cls := findClass_of_methodNamed B.named
  have hlocks := B.notSynchronized
  subst hsz
  have hD := hD0.self (sz := s.heap.size)
  generalize hAe : va_A (rw_W h q g hm qm gm so sg sx I A M MB L) s.heap.size = B9 at hD ⊢
  have hA : ∀ q : Nat, s.heap.size ≤ q → B9 q := fun q h => by rw [← hAe]; exact Or.inr h
  clear hAe
  have hS : va_S B9 s.heap s.heap [] := va_S.rf
  have hl := lv_entry ([.ref h]) (n := 1) (Nat.le_of_ble_eq_true rfl)
  rw [lg_entry_eq]
  generalize (lg_sl ([.ref h]) ++ List.replicate (1 - (lg_sl ([.ref h])).length) Slot.unset).toArray = ls at hl ⊢
  have hl : lv_has ls 1 [(0, .ref h)] := hl
  unfold f_P_readEscaped at hf
  refine lv_aload_n hx hb d_P_readEscaped_0 rfl (lv_at hl 0 rfl) ?_
  refine lv_dup hx hb d_P_readEscaped_1 rfl ?_
  refine va_get (D := (dC, dI)) (ci := 2) (v := .int (I 7)) (C := R_P) (T := F_P) (N := 13) hx hb hts (fun w h => List.mem_cons_of_mem _ (in_P w h)) hown hK hP 0 rfl rfl 7 (by decide) (hts _ (List.mem_cons_of_mem _ lk_329)) (fun _ h9 => h9) rfl d_P_readEscaped_2 ?_
  refine lv_iconst (v := 1) hx hb d_P_readEscaped_5 (by decide) ?_
  refine lv_iadd hx hb d_P_readEscaped_6 ?_
  refine va_put (D := (dC, dI)) (ci := 2) (v := .int ((I 7) + 1)) (ty := .int) (C := R_P) (T := F_P) (N := 13) hx hb hts (fun w h => List.mem_cons_of_mem _ (in_P w h)) t_P tk_P n_P hown hK hP hD hS 0 rfl rfl 7 (by decide) (hts _ (List.mem_cons_of_mem _ lk_329)) (fun _ h9 => h9) rfl (by decide +kernel) rfl rfl (Nat.le_of_ble_eq_true rfl) d_P_readEscaped_7 (fun H locs hP hD hS => ?_)
  obtain ⟨I1, hI1, hf⟩ := wk_letE hf
  have hP : va_P (dC, dI) vwCl (rw_W h q g hm qm gm so sg sx I1 A M MB L) H := by rw [hI1]; exact hP
  have hD : va_D B9 (rw_W h q g hm qm gm so sg sx I1 A M MB L) := by rw [hI1]; exact hD
  clear hI1
  refine lv_aload_n hx hb d_P_readEscaped_10 rfl (lv_at hl 0 rfl) ?_
  refine va_get (D := (dC, dI)) (ci := 2) (v := .int (I1 7)) (C := R_P) (T := F_P) (N := 13) hx hb hts (fun w h => List.mem_cons_of_mem _ (in_P w h)) hown hK hP 0 rfl rfl 7 (by decide) (hts _ (List.mem_cons_of_mem _ lk_329)) (fun _ h9 => h9) rfl d_P_readEscaped_11 ?_
  refine lv_aload_n hx hb d_P_readEscaped_14 rfl (lv_at hl 0 rfl) ?_
  refine va_get (D := (dC, dI)) (ci := 2) (v := .int (I1 6)) (C := R_P) (T := F_P) (N := 13) hx hb hts (fun w h => List.mem_cons_of_mem _ (in_P w h)) hown hK hP 0 rfl rfl 6 (by decide) (hts _ (List.mem_cons_of_mem _ lk_328)) (fun _ h9 => h9) rfl d_P_readEscaped_15 ?_
  refine lv_icmp_ne (tgt := 30) hx hb d_P_readEscaped_18 (by decide) (fun hc1 => ?_) (fun hc1 => ?_)
  ·
    have hf := wk_iff hc1 hf
    refine lv_aload_n hx hb d_P_readEscaped_30 rfl (lv_at hl 0 rfl) ?_
    refine lv_aload_n hx hb d_P_readEscaped_31 rfl (lv_at hl 0 rfl) ?_
    refine va_get (D := (dC, dI)) (ci := 2) (v := .ref so) (C := R_P) (T := F_P) (N := 13) hx hb hts (fun w h => List.mem_cons_of_mem _ (in_P w h)) hown hK hP 0 rfl rfl 5 (by decide) (hts _ (List.mem_cons_of_mem _ lk_327)) (fun _ h9 => h9) rfl d_P_readEscaped_32 ?_
    refine lv_aload_n hx hb d_P_readEscaped_35 rfl (lv_at hl 0 rfl) ?_
    refine va_get (D := (dC, dI)) (ci := 2) (v := .int (I1 7)) (C := R_P) (T := F_P) (N := 13) hx hb hts (fun w h => List.mem_cons_of_mem _ (in_P w h)) hown hK hP 0 rfl rfl 7 (by decide) (hts _ (List.mem_cons_of_mem _ lk_329)) (fun _ h9 => h9) rfl d_P_readEscaped_36 ?_
    obtain ⟨hc2, hf⟩ := wk_if hf
    refine va_cald hx hb hK hP 11 9 rfl rfl (wk_inb_ok hc2) d_P_readEscaped_39 ?_
    have hPc := hP.sub (ws' := (rw_W h q g hm qm gm so sg sx I1 A M MB L)) [0, 1, 2, 3, 4, 5, 6, 7, 8, 9, 10, 11] rfl
    have hDc := hD.sub (ws' := (rw_W h q g hm qm gm so sg sx I1 A M MB L)) [0, 1, 2, 3, 4, 5, 6, 7, 8, 9, 10, 11] (by decide) rfl
    have hKc := hK.sub (tys' := (rw_T h q g hm qm gm so sg sx)) [0, 1, 2, 3, 4, 5, 6, 7, 8, 9] rfl
    have hFc := va_free (wc := (rw_W h q g hm qm gm so sg sx I1 A M MB L)) hD hS hA [0, 1, 2, 3, 4, 5, 6, 7, 8, 9, 10, 11] rfl
    cases hg2 : f_P_readLiteral sx I1 A M MB L (sx ((I1 7)).toNatClampNeg) with
    | none => rw [hg2] at hf; cases hf
    | some z2 =>
      obtain ⟨r2, I2, A2, M2, MB2, L2⟩ := z2
      rw [hg2] at hf
      dsimp only [Option.bind_some] at hf
      refine va_callv (va_runV (As := [.int (sx ((I1 7)).toNatClampNeg)]) (rest := []) ⟨hx, hb, hml, hown, hts⟩ (cm_P_readLiteral l dC dI h q g hm qm gm so sg sx _  I1 A M MB L (sx ((I1 7)).toNatClampNeg) r2 I2 A2 M2 MB2 L2 hg2) (cwV 1 hts (gd_v lk_393 lk_394 lk_395 lk_349 lk_392) rfl rfl rfl (by decide +kernel) ⟨Nat.le_of_ble_eq_true rfl, Nat.le_of_ble_eq_true rfl⟩) ⟨fun a U g mk q => by obtain ⟨q0, q1, qP, qK, qD⟩ := q; exact ⟨q0, q1, qP, va_K.moved (u := U) (U := U.calling g mk a) (Vm.Alike.refl U.vm) qK, qD⟩, va_recv (ci := 2) (q0 := 0) hK hP rfl rfl, fun U hU hW => ⟨rfl, by rw [hU], by rw [hU]; exact hPc, va_K.moved hW.alike hKc, hDc.weaken (fun _ _ _ _ => trivial)⟩⟩ rfl rfl hl.1 rfl (lv_room (Nat.le_of_ble_eq_true rfl)) d_P_readEscaped_40 ⟨Nat.le_of_ble_eq_true rfl, Nat.le_of_ble_eq_true rfl⟩) hS (fun q _ h => hFc q h) hFc (fun u t H1 locs ht hvm hw hB hz1 hk1 hS => ?_)
      obtain ⟨hP1, hK1, hD1⟩ := hB
      rw [ht] at hP1
      obtain ⟨hP, hD⟩ := va_join (wr := (([] : List Nat).map (fun i => ((rw_W h q g hm qm gm so sg sx I1 A M MB L)).getD i (0, .inr (0, []))))) (w1 := (rw_W h q g hm qm gm so sg sx I2 A2 M2 MB2 L2)) hP hD [0, 1, 2, 3, 4, 5, 6, 7, 8, 9, 10, 11] [] rfl rfl (by decide) (by decide) hk1 hFc hP1 hD1
      generalize H1 = H at hP hS ⊢
      have hP := hP.sub (ws' := (rw_W h q g hm qm gm so sg sx I2 A2 M2 MB2 L2)) [0, 1, 2, 3, 4, 5, 6, 7, 8, 9, 10, 11] rfl
      have hD := hD.sub (ws' := (rw_W h q g hm qm gm so sg sx I2 A2 M2 MB2 L2)) [0, 1, 2, 3, 4, 5, 6, 7, 8, 9, 10, 11] (by decide) rfl
      obtain ⟨e0, e1, e2, e3, e4, e5⟩ := wk_inj5 hf
      subst e0
      subst e1
      subst e2
      subst e3
      subst e4
      subst e5
      exact W.vret hx hb hr (fun t ht hW => ⟨⟨(), rfl, rfl, by rw [ht]; exact hP, va_K.moved hW.alike hK, hD⟩, hS.F ht⟩) hS.2.2 d_P_readEscaped_43
  ·
    have hf := wk_ift hc1 hf
    refine lv_aload_n hx hb d_P_readEscaped_21 rfl (lv_at hl 0 rfl) ?_
    refine lv_aload_n hx hb d_P_readEscaped_22 rfl (lv_at hl 0 rfl) ?_
    refine va_get (D := (dC, dI)) (ci := 2) (v := .int (I1 7)) (C := R_P) (T := F_P) (N := 13) hx hb hts (fun w h => List.mem_cons_of_mem _ (in_P w h)) hown hK hP 0 rfl rfl 7 (by decide) (hts _ (List.mem_cons_of_mem _ lk_329)) (fun _ h9 => h9) rfl d_P_readEscaped_23 ?_
    refine va_put (D := (dC, dI)) (ci := 2) (v := .int (I1 7)) (ty := .int) (C := R_P) (T := F_P) (N := 13) hx hb hts (fun w h => List.mem_cons_of_mem _ (in_P w h)) t_P tk_P n_P hown hK hP hD hS 0 rfl rfl 9 (by decide) (hts _ (List.mem_cons_of_mem _ lk_330)) (fun _ h9 => h9) rfl (by decide +kernel) rfl rfl (Nat.le_of_ble_eq_true rfl) d_P_readEscaped_26 (fun H locs hP hD hS => ?_)
    obtain ⟨I2, hI2, hf⟩ := wk_letE hf
    have hP : va_P (dC, dI) vwCl (rw_W h q g hm qm gm so sg sx I2 A M MB L) H := by rw [hI2]; exact hP
    have hD : va_D B9 (rw_W h q g hm qm gm so sg sx I2 A M MB L) := by rw [hI2]; exact hD
    clear hI2
    obtain ⟨e0, e1, e2, e3, e4, e5⟩ := wk_inj5 hf
    subst e0
    subst e1
    subst e2
    subst e3
    subst e4
    subst e5
    exact W.vret hx hb hr (fun t ht hW => ⟨⟨(), rfl, rfl, by rw [ht]; exact hP, va_K.moved hW.alike hK, hD⟩, hS.F ht⟩) hS.2.2 d_P_readEscaped_29

set_option maxHeartbeats 8000000 in
set_option maxRecDepth 100000 in
theorem cm_P_openRow (l : Launch) (dC : Nat → ClassId) (dI : Nat → Nat → Nat) (h : Nat) (q : Nat → Nat) (g : Nat → ClassId) (hm : Nat) (qm : Nat → Nat) (gm : Nat → ClassId) (so : Nat) (sg : ClassId) (sx : Nat → Int32) (sz : Nat) (I : MI) (A : MA) (M : MI) (MB : MA) (L : ML) (r : Int32) (I' : MI) (A' : MA) (M' : MI) (MB' : MA) (L' : ML) (hf : f_P_openRow sx I A M MB L  = some (r, I', A', M', MB', L')) : Met l y_P_openRow w_P_openRow ({ frames := 1, cells := 0, slots := 0, locals := 22 }) (va_Pc [.ref h] (fun U => U.heap.size = sz ∧ va_P (dC, dI) vwCl (rw_W h q g hm qm gm so sg sx I A M MB L) U.heap ∧ va_K (dC, dI) vwCl (rw_T h q g hm qm gm so sg sx) U ∧ va_D (fun _ => True) (rw_W h q g hm qm gm so sg sx I A M MB L))) (va_Qv (fun (u : Unit) => u = u) (fun (_ : Unit) t => va_P (dC, dI) vwCl (rw_W h q g hm qm gm so sg sx I' A' M' MB' L') t.heap ∧ va_K (dC, dI) vwCl (rw_T h q g hm qm gm so sg sx) t ∧ va_D (va_A (rw_W h q g hm qm gm so sg sx I A M MB L) sz) (rw_W h q g hm qm gm so sg sx I' A' M' MB' L')) (va_A (rw_W h q g hm qm gm so sg sx I A M MB L) sz)) 0 0 (va_A (rw_W h q g hm qm gm so sg sx I A M MB L) sz) := by
  refine Met.ofW (cc := prog_3_method_15_code) (maxL := 2) (ret := none) (by decide) rfl ?_
  intro p e s m args below meth c s₁ B hml hv
  obtain ⟨rfl, hsz, hP, hK, hD0⟩ := hv
  have hx := B.exec
  have hb := B.bytes
  have hr := B.returns
  have hts := atoms_spec (ws := w_P_openRow) B.pre
  have hown : s.vm.findClass "DraftTree$PatternReader" = some m.cls := findClass_of_methodNamed B.named
  have hlocks := B.notSynchronized
  subst hsz
  have hD := hD0.self (sz := s.heap.size)
  generalize hAe : va_A (rw_W h q g hm qm gm so sg sx I A M MB L) s.heap.size = B9 at hD ⊢
  have hA : ∀ q : Nat, s.heap.size ≤ q → B9 q := fun q h => by rw [← hAe]; exact Or.inr h
  clear hAe
  have hS : va_S B9 s.heap s.heap [] := va_S.rf
  have hl := lv_entry ([.ref h]) (n := 2) (Nat.le_of_ble_eq_true rfl)
  rw [lg_entry_eq]
  generalize (lg_sl ([.ref h]) ++ List.replicate (2 - (lg_sl ([.ref h])).length) Slot.unset).toArray = ls at hl ⊢
  have hl : lv_has ls 2 [(0, .ref h)] := hl
  unfold f_P_openRow at hf
  refine lv_aload_n hx hb d_P_openRow_0 rfl (lv_at hl 0 rfl) ?_
  refine va_get (D := (dC, dI)) (ci := 2) (v := .ref hm) (C := R_P) (T := F_P) (N := 13) hx hb hts (fun w h => List.mem_cons_of_mem _ (in_P w h)) hown hK hP 0 rfl rfl 4 (by decide) (hts _ (List.mem_cons_of_mem _ lk_331)) (fun _ h9 => h9) rfl d_P_openRow_1 ?_
  refine va_get (D := (dC, dI)) (ci := 3) (v := .ref (qm 1)) (C := R_A) (T := F_A) (N := 10) hx hb hts (fun w h => List.mem_cons_of_mem _ (in_A w h)) hown hK hP 5 rfl rfl 1 (by decide) (hts _ (List.mem_cons_of_mem _ lk_358)) (fun _ h9 => h9) rfl d_P_openRow_4 ?_
  refine lv_aload_n hx hb d_P_openRow_7 rfl (lv_at hl 0 rfl) ?_
  refine va_get (D := (dC, dI)) (ci := 2) (v := .int (I 12)) (C := R_P) (T := F_P) (N := 13) hx hb hts (fun w h => List.mem_cons_of_mem _ (in_P w h)) hown hK hP 0 rfl rfl 12 (by decide) (hts _ (List.mem_cons_of_mem _ lk_344)) (fun _ h9 => h9) rfl d_P_openRow_8 ?_
  refine lv_aload_n hx hb d_P_openRow_11 rfl (lv_at hl 0 rfl) ?_
  refine va_get (D := (dC, dI)) (ci := 2) (v := .ref (q 1)) (C := R_P) (T := F_P) (N := 13) hx hb hts (fun w h => List.mem_cons_of_mem _ (in_P w h)) hown hK hP 0 rfl rfl 1 (by decide) (hts _ (List.mem_cons_of_mem _ lk_339)) (fun _ h9 => h9) rfl d_P_openRow_12 ?_
  refine lv_aload_n hx hb d_P_openRow_15 rfl (lv_at hl 0 rfl) ?_
  refine va_get (D := (dC, dI)) (ci := 2) (v := .int (I 8)) (C := R_P) (T := F_P) (N := 13) hx hb hts (fun w h => List.mem_cons_of_mem _ (in_P w h)) hown hK hP 0 rfl rfl 8 (by decide) (hts _ (List.mem_cons_of_mem _ lk_333)) (fun _ h9 => h9) rfl d_P_openRow_16 ?_
  obtain ⟨hc1, hf⟩ := wk_if hf
  refine va_iald hx hb hK hP 2 1 rfl rfl (wk_inb_ok hc1) d_P_openRow_19 ?_
  obtain ⟨hc2, hf⟩ := wk_if hf
  refine va_iast hx hb hK hP hD hS 7 5 rfl rfl (wk_inb_ok hc2) d_P_openRow_20 (fun H locs hP hD hS => ?_)
  obtain ⟨MB1, hMB1, hf⟩ := wk_letE hf
  have hP : va_P (dC, dI) vwCl (rw_W h q g hm qm gm so sg sx I A M MB1 L) H := by rw [hMB1]; exact hP
  have hD : va_D B9 (rw_W h q g hm qm gm so sg sx I A M MB1 L) := by rw [hMB1]; exact hD
  clear hMB1
  refine lv_aload_n hx hb d_P_openRow_21 rfl (lv_at hl 0 rfl) ?_
  refine va_get (D := (dC, dI)) (ci := 2) (v := .ref hm) (C := R_P) (T := F_P) (N := 13) hx hb hts (fun w h => List.mem_cons_of_mem _ (in_P w h)) hown hK hP 0 rfl rfl 4 (by decide) (hts _ (List.mem_cons_of_mem _ lk_331)) (fun _ h9 => h9) rfl d_P_openRow_22 ?_
  refine lv_iconst (v := 0) hx hb d_P_openRow_25 (by decide) ?_
  have hPc := hP.sub (ws' := (aw_W hm qm gm M MB1 L)) [5, 6, 7, 8, 9, 10] rfl
  have hDc := hD.sub (ws' := (aw_W hm qm gm M MB1 L)) [5, 6, 7, 8, 9, 10] (by decide) rfl
  have hKc := hK.sub (tys' := (aw_T hm qm gm)) [4, 5, 6, 7, 8] rfl
  have hFc := va_free (wc := (aw_W hm qm gm M MB1 L)) hD hS hA [5, 6, 7, 8, 9, 10] rfl
  cases hg2 : f_A_addNode M MB1 L 0 with
  | none => rw [hg2] at hf; cases hf
  | some z2 =>
    obtain ⟨r2, M2, MB2, L2⟩ := z2
    rw [hg2] at hf
    dsimp only [Option.bind_some] at hf
    refine va_calli (va_runV (As := [.int 0]) (rest := []) ⟨hx, hb, hml, hown, hts⟩ (cm_A_addNode l dC dI hm qm gm _  M MB1 L 0 r2 M2 MB2 L2 hg2) (cwV 1 hts (gd_v lk_335 lk_336 lk_337 lk_274 lk_334) rfl rfl rfl (by decide +kernel) ⟨Nat.le_of_ble_eq_true rfl, Nat.le_of_ble_eq_true rfl⟩) ⟨fun a U g mk q => by obtain ⟨q0, q1, qP, qK, qD⟩ := q; exact ⟨q0, q1, qP, va_K.moved (u := U) (U := U.calling g mk a) (Vm.Alike.refl U.vm) qK, qD⟩, va_recv (ci := 3) (q0 := 5) hK hP rfl rfl, fun U hU hW => ⟨rfl, by rw [hU], by rw [hU]; exact hPc, va_K.moved hW.alike hKc, hDc.weaken (fun _ _ _ _ => trivial)⟩⟩ rfl rfl hl.1 rfl (lv_room (Nat.le_of_ble_eq_true rfl)) d_P_openRow_26 ⟨Nat.le_of_ble_eq_true rfl, Nat.le_of_ble_eq_true rfl⟩) hS (fun q _ h => hFc q h) hFc (fun r9 u t H1 locs ht hvm hw hB hz1 hk1 hS => ?_)
    obtain ⟨hP1, hK1, hD1⟩ := hB
    rw [ht] at hP1
    rw [hw]
    obtain ⟨hP, hD⟩ := va_join (wr := (([0, 1, 2, 3, 4, 11] : List Nat).map (fun i => ((rw_W h q g hm qm gm so sg sx I A M MB1 L)).getD i (0, .inr (0, []))))) (w1 := (aw_W hm qm gm M2 MB2 L2)) hP hD [5, 6, 7, 8, 9, 10] [0, 1, 2, 3, 4, 11] rfl rfl (by decide) (by decide) hk1 hFc hP1 hD1
    generalize H1 = H at hP hS ⊢
    have hP := hP.sub (ws' := (rw_W h q g hm qm gm so sg sx I A M2 MB2 L2)) [0, 1, 2, 3, 4, 6, 7, 8, 9, 10, 11, 5] rfl
    have hD := hD.sub (ws' := (rw_W h q g hm qm gm so sg sx I A M2 MB2 L2)) [0, 1, 2, 3, 4, 6, 7, 8, 9, 10, 11, 5] (by decide) rfl
    refine lv_istore_n (lv' := [(1, .int r2), (0, .ref h)]) hx hb d_P_openRow_29 rfl hl (by decide) rfl (fun ls hl => ?_)
    have hl : lv_has ls 2 [(1, .int r2), (0, .ref h)] := hl
    refine lv_aload_n hx hb d_P_openRow_30 rfl (lv_at hl 1 rfl) ?_
    refine va_get (D := (dC, dI)) (ci := 2) (v := .ref hm) (C := R_P) (T := F_P) (N := 13) hx hb hts (fun w h => List.mem_cons_of_mem _ (in_P w h)) hown hK hP 0 rfl rfl 4 (by decide) (hts _ (List.mem_cons_of_mem _ lk_331)) (fun _ h9 => h9) rfl d_P_openRow_31 ?_
    refine va_get (D := (dC, dI)) (ci := 3) (v := .ref (qm 2)) (C := R_A) (T := F_A) (N := 10) hx hb hts (fun w h => List.mem_cons_of_mem _ (in_A w h)) hown hK hP 5 rfl rfl 2 (by decide) (hts _ (List.mem_cons_of_mem _ lk_367)) (fun _ h9 => h9) rfl d_P_openRow_34 ?_
    refine lv_aload_n hx hb d_P_openRow_37 rfl (lv_at hl 1 rfl) ?_
    refine va_get (D := (dC, dI)) (ci := 2) (v := .ref (q 2)) (C := R_P) (T := F_P) (N := 13) hx hb hts (fun w h => List.mem_cons_of_mem _ (in_P w h)) hown hK hP 0 rfl rfl 2 (by decide) (hts _ (List.mem_cons_of_mem _ lk_341)) (fun _ h9 => h9) rfl d_P_openRow_38 ?_
    refine lv_aload_n hx hb d_P_openRow_41 rfl (lv_at hl 1 rfl) ?_
    refine va_get (D := (dC, dI)) (ci := 2) (v := .int (I 8)) (C := R_P) (T := F_P) (N := 13) hx hb hts (fun w h => List.mem_cons_of_mem _ (in_P w h)) hown hK hP 0 rfl rfl 8 (by decide) (hts _ (List.mem_cons_of_mem _ lk_333)) (fun _ h9 => h9) rfl d_P_openRow_42 ?_
    obtain ⟨hc3, hf⟩ := wk_if hf
    refine va_iald hx hb hK hP 3 2 rfl rfl (wk_inb_ok hc3) d_P_openRow_45 ?_
    refine lv_iload_n hx hb d_P_openRow_46 rfl (lv_at hl 0 rfl) ?_
    obtain ⟨hc4, hf⟩ := wk_if hf
    refine va_iast hx hb hK hP hD hS 8 6 rfl rfl (wk_inb_ok hc4) d_P_openRow_47 (fun H locs hP hD hS => ?_)
    obtain ⟨MB3, hMB3, hf⟩ := wk_letE hf
    have hP : va_P (dC, dI) vwCl (rw_W h q g hm qm gm so sg sx I A M2 MB3 L2) H := by rw [hMB3]; exact hP
    have hD : va_D B9 (rw_W h q g hm qm gm so sg sx I A M2 MB3 L2) := by rw [hMB3]; exact hD
    clear hMB3
    refine lv_aload_n hx hb d_P_openRow_48 rfl (lv_at hl 1 rfl) ?_
    refine lv_iload_n hx hb d_P_openRow_49 rfl (lv_at hl 0 rfl) ?_
    have hPc := hP.sub (ws' := (rw_W h q g hm qm gm so sg sx I A M2 MB3 L2)) [0, 1, 2, 3, 4, 5, 6, 7, 8, 9, 10, 11] rfl
    have hDc := hD.sub (ws' := (rw_W h q g hm qm gm so sg sx I A M2 MB3 L2)) [0, 1, 2, 3, 4, 5, 6, 7, 8, 9, 10, 11] (by decide) rfl
    have hKc := hK.sub (tys' := (rw_T h q g hm qm gm so sg sx)) [0, 1, 2, 3, 4, 5, 6, 7, 8, 9] rfl
    have hFc := va_free (wc := (rw_W h q g hm qm gm so sg sx I A M2 MB3 L2)) hD hS hA [0, 1, 2, 3, 4, 5, 6, 7, 8, 9, 10, 11] rfl
    cases hg4 : f_P_beginRow sx I A M2 MB3 L2 r2 with
    | none => rw [hg4] at hf; cases hf
    | some z4 =>
      obtain ⟨r4, I4, A4, M4, MB4, L4⟩ := z4
      rw [hg4] at hf
      dsimp only [Option.bind_some] at hf
      refine va_callv (va_runV (As := [.int r2]) (rest := []) ⟨hx, hb, hml, hown, hts⟩ (cm_P_beginRow l dC dI h q g hm qm gm so sg sx _  I A M2 MB3 L2 r2 r4 I4 A4 M4 MB4 L4 hg4) (cwV 1 hts (gd_v lk_346 lk_347 lk_348 lk_349 lk_345) rfl rfl rfl (by decide +kernel) ⟨Nat.le_of_ble_eq_true rfl, Nat.le_of_ble_eq_true rfl⟩) ⟨fun a U g mk q => by obtain ⟨q0, q1, qP, qK, qD⟩ := q; exact ⟨q0, q1, qP, va_K.moved (u := U) (U := U.calling g mk a) (Vm.Alike.refl U.vm) qK, qD⟩, va_recv (ci := 2) (q0 := 0) hK hP rfl rfl, fun U hU hW => ⟨rfl, by rw [hU], by rw [hU]; exact hPc, va_K.moved hW.alike hKc, hDc.weaken (fun _ _ _ _ => trivial)⟩⟩ rfl rfl hl.1 rfl (lv_room (Nat.le_of_ble_eq_true rfl)) d_P_openRow_50 ⟨Nat.le_of_ble_eq_true rfl, Nat.le_of_ble_eq_true rfl⟩) hS (fun q _ h => hFc q h) hFc (fun u t H1 locs ht hvm hw hB hz1 hk1 hS => ?_)
      obtain ⟨hP1, hK1, hD1⟩ := hB
      rw [ht] at hP1
      obtain ⟨hP, hD⟩ := va_join (wr := (([] : List Nat).map (fun i => ((rw_W h q g hm qm gm so sg sx I A M2 MB3 L2)).getD i (0, .inr (0, []))))) (w1 := (rw_W h q g hm qm gm so sg sx I4 A4 M4 MB4 L4)) hP hD [0, 1, 2, 3, 4, 5, 6, 7, 8, 9, 10, 11] [] rfl rfl (by decide) (by decide) hk1 hFc hP1 hD1
      generalize H1 = H at hP hS ⊢
      have hP := hP.sub (ws' := (rw_W h q g hm qm gm so sg sx I4 A4 M4 MB4 L4)) [0, 1, 2, 3, 4, 5, 6, 7, 8, 9, 10, 11] rfl
      have hD := hD.sub (ws' := (rw_W h q g hm qm gm so sg sx I4 A4 M4 MB4 L4)) [0, 1, 2, 3, 4, 5, 6, 7, 8, 9, 10, 11] (by decide) rfl
      obtain ⟨e0, e1, e2, e3, e4, e5⟩ := wk_inj5 hf
      subst e0
      subst e1
      subst e2
      subst e3
      subst e4
      subst e5
      exact W.vret hx hb hr (fun t ht hW => ⟨⟨(), rfl, rfl, by rw [ht]; exact hP, va_K.moved hW.alike hK, hD⟩, hS.F ht⟩) hS.2.2 d_P_openRow_53

set_option maxHeartbeats 8000000 in
set_option maxRecDepth 100000 in
theorem cm_P_readDot (l : Launch) (dC : Nat → ClassId) (dI : Nat → Nat → Nat) (h : Nat) (q : Nat → Nat) (g : Nat → ClassId) (hm : Nat) (qm : Nat → Nat) (gm : Nat → ClassId) (so : Nat) (sg : ClassId) (sx : Nat → Int32) (sz : Nat) (I : MI) (A : MA) (M : MI) (MB : MA) (L : ML) (r : Int32) (I' : MI) (A' : MA) (M' : MI) (MB' : MA) (L' : ML) (hf : f_P_readDot sx I A M MB L  = some (r, I', A', M', MB', L')) : Met l y_P_readDot w_P_readDot ({ frames := 2, cells := 0, slots := 0, locals := 44 }) (va_Pc [.ref h] (fun U => U.heap.size = sz ∧ va_P (dC, dI) vwCl (rw_W h q g hm qm gm so sg sx I A M MB L) U.heap ∧ va_K (dC, dI) vwCl (rw_T h q g hm qm gm so sg sx) U ∧ va_D (fun _ => True) (rw_W h q g hm qm gm so sg sx I A M MB L))) (va_Qv (fun (u : Unit) => u = u) (fun (_ : Unit) t => va_P (dC, dI) vwCl (rw_W h q g hm qm gm so sg sx I' A' M' MB' L') t.heap ∧ va_K (dC, dI) vwCl (rw_T h q g hm qm gm so sg sx) t ∧ va_D (va_A (rw_W h q g hm qm gm so sg sx I A M MB L) sz) (rw_W h q g hm qm gm so sg sx I' A' M' MB' L')) (va_A (rw_W h q g hm qm gm so sg sx I A M MB L) sz)) 0 0 (va_A (rw_W h q g hm qm gm so sg sx I A M MB L) sz) := by
  refine Met.ofW (cc := prog_3_method_7_code) (maxL := 2) (ret := none) (by decide) rfl ?_
  intro p e s m args below meth c s₁ B hml hv
  obtain ⟨rfl, hsz, hP, hK, hD0⟩ := hv
  have hx := B.exec
  have hb := B.bytes
  have hr := B.returns
  have hts := atoms_spec (ws := w_P_readDot) B.pre
  have hown : s.vm.findClass "DraftTree$PatternReader" = some m.cls := findClass_of_methodNamed B.named
  have hlocks := B.notSynchronized
  subst hsz
  have hD := hD0.self (sz := s.heap.size)
  generalize hAe : va_A (rw_W h q g hm qm gm so sg sx I A M MB L) s.heap.size = B9 at hD ⊢
  have hA : ∀ q : Nat, s.heap.size ≤ q → B9 q := fun q h => by rw [← hAe]; exact Or.inr h
  clear hAe
  have hS : va_S B9 s.heap s.heap [] := va_S.rf
  have hl := lv_entry ([.ref h]) (n := 2) (Nat.le_of_ble_eq_true rfl)
  rw [lg_entry_eq]
  generalize (lg_sl ([.ref h]) ++ List.replicate (2 - (lg_sl ([.ref h])).length) Slot.unset).toArray = ls at hl ⊢
  have hl : lv_has ls 2 [(0, .ref h)] := hl
  unfold f_P_readDot at hf
  refine lv_aload_n hx hb d_P_readDot_0 rfl (lv_at hl 0 rfl) ?_
  refine lv_iconst (v := 1) hx hb d_P_readDot_1 (by decide) ?_
  have hPc := hP.sub (ws' := (rw_W h q g hm qm gm so sg sx I A M MB L)) [0, 1, 2, 3, 4, 5, 6, 7, 8, 9, 10, 11] rfl
  have hDc := hD.sub (ws' := (rw_W h q g hm qm gm so sg sx I A M MB L)) [0, 1, 2, 3, 4, 5, 6, 7, 8, 9, 10, 11] (by decide) rfl
  have hKc := hK.sub (tys' := (rw_T h q g hm qm gm so sg sx)) [0, 1, 2, 3, 4, 5, 6, 7, 8, 9] rfl
  have hFc := va_free (wc := (rw_W h q g hm qm gm so sg sx I A M MB L)) hD hS hA [0, 1, 2, 3, 4, 5, 6, 7, 8, 9, 10, 11] rfl
  cases hg1 : f_P_addNodeAsPart sx I A M MB L 1 with
  | none => rw [hg1] at hf; cases hf
  | some z1 =>
    obtain ⟨r1, I1, A1, M1, MB1, L1⟩ := z1
    rw [hg1] at hf
    dsimp only [Option.bind_some] at hf
    refine va_calli (va_runV (As := [.int 1]) (rest := []) ⟨hx, hb, hml, hown, hts⟩ (cm_P_addNodeAsPart l dC dI h q g hm qm gm so sg sx _  I A M MB L 1 r1 I1 A1 M1 MB1 L1 hg1) (cwV 1 hts (gd_v lk_373 lk_374 lk_375 lk_349 lk_372) rfl rfl rfl (by decide +kernel) ⟨Nat.le_of_ble_eq_true rfl, Nat.le_of_ble_eq_true rfl⟩) ⟨fun a U g mk q => by obtain ⟨q0, q1, qP, qK, qD⟩ := q; exact ⟨q0, q1, qP, va_K.moved (u := U) (U := U.calling g mk a) (Vm.Alike.refl U.vm) qK, qD⟩, va_recv (ci := 2) (q0 := 0) hK hP rfl rfl, fun U hU hW => ⟨rfl, by rw [hU], by rw [hU]; exact hPc, va_K.moved hW.alike hKc, hDc.weaken (fun _ _ _ _ => trivial)⟩⟩ rfl rfl hl.1 rfl (lv_room (Nat.le_of_ble_eq_true rfl)) d_P_readDot_2 ⟨Nat.le_of_ble_eq_true rfl, Nat.le_of_ble_eq_true rfl⟩) hS (fun q _ h => hFc q h) hFc (fun r9 u t H1 locs ht hvm hw hB hz1 hk1 hS => ?_)
    obtain ⟨hP1, hK1, hD1⟩ := hB
    rw [ht] at hP1
    rw [hw]
    obtain ⟨hP, hD⟩ := va_join (wr := (([] : List Nat).map (fun i => ((rw_W h q g hm qm gm so sg sx I A M MB L)).getD i (0, .inr (0, []))))) (w1 := (rw_W h q g hm qm gm so sg sx I1 A1 M1 MB1 L1)) hP hD [0, 1, 2, 3, 4, 5, 6, 7, 8, 9, 10, 11] [] rfl rfl (by decide) (by decide) hk1 hFc hP1 hD1
    generalize H1 = H at hP hS ⊢
    have hP := hP.sub (ws' := (rw_W h q g hm qm gm so sg sx I1 A1 M1 MB1 L1)) [0, 1, 2, 3, 4, 5, 6, 7, 8, 9, 10, 11] rfl
    have hD := hD.sub (ws' := (rw_W h q g hm qm gm so sg sx I1 A1 M1 MB1 L1)) [0, 1, 2, 3, 4, 5, 6, 7, 8, 9, 10, 11] (by decide) rfl
    refine lv_istore_n (lv' := [(1, .int r1), (0, .ref h)]) hx hb d_P_readDot_5 rfl hl (by decide) rfl (fun ls hl => ?_)
    have hl : lv_has ls 2 [(1, .int r1), (0, .ref h)] := hl
    refine lv_aload_n hx hb d_P_readDot_6 rfl (lv_at hl 1 rfl) ?_
    refine va_get (D := (dC, dI)) (ci := 2) (v := .ref hm) (C := R_P) (T := F_P) (N := 13) hx hb hts (fun w h => List.mem_cons_of_mem _ (in_P w h)) hown hK hP 0 rfl rfl 4 (by decide) (hts _ (List.mem_cons_of_mem _ lk_331)) (fun _ h9 => h9) rfl d_P_readDot_7 ?_
    refine lv_iload_n hx hb d_P_readDot_10 rfl (lv_at hl 0 rfl) ?_
    refine lv_bipush (v := 10) hx hb d_P_readDot_11 (by decide) ?_
    refine lv_bipush (v := 10) hx hb d_P_readDot_13 (by decide) ?_
    have hPc := hP.sub (ws' := (aw_W hm qm gm M1 MB1 L1)) [5, 6, 7, 8, 9, 10] rfl
    have hDc := hD.sub (ws' := (aw_W hm qm gm M1 MB1 L1)) [5, 6, 7, 8, 9, 10] (by decide) rfl
    have hKc := hK.sub (tys' := (aw_T hm qm gm)) [4, 5, 6, 7, 8] rfl
    have hFc := va_free (wc := (aw_W hm qm gm M1 MB1 L1)) hD hS hA [5, 6, 7, 8, 9, 10] rfl
    cases hg2 : f_A_takeCodes M1 MB1 L1 r1 10 10 with
    | none => rw [hg2] at hf; cases hf
    | some z2 =>
      obtain ⟨r2, M2, MB2, L2⟩ := z2
      rw [hg2] at hf
      dsimp only [Option.bind_some] at hf
      refine va_callv (va_runV (As := [.int r1, .int 10, .int 10]) (rest := []) ⟨hx, hb, hml, hown, hts⟩ (cm_A_takeCodes l dC dI hm qm gm _  M1 MB1 L1 r1 10 10 r2 M2 MB2 L2 hg2) (cwV 3 hts (gd_v lk_377 lk_378 lk_379 lk_274 lk_376) rfl rfl rfl (by decide +kernel) ⟨Nat.le_of_ble_eq_true rfl, Nat.le_of_ble_eq_true rfl⟩) ⟨fun a U g mk q => by obtain ⟨q0, q1, qP, qK, qD⟩ := q; exact ⟨q0, q1, qP, va_K.moved (u := U) (U := U.calling g mk a) (Vm.Alike.refl U.vm) qK, qD⟩, va_recv (ci := 3) (q0 := 5) hK hP rfl rfl, fun U hU hW => ⟨rfl, by rw [hU], by rw [hU]; exact hPc, va_K.moved hW.alike hKc, hDc.weaken (fun _ _ _ _ => trivial)⟩⟩ rfl rfl hl.1 rfl (lv_room (Nat.le_of_ble_eq_true rfl)) d_P_readDot_15 ⟨Nat.le_of_ble_eq_true rfl, Nat.le_of_ble_eq_true rfl⟩) hS (fun q _ h => hFc q h) hFc (fun u t H1 locs ht hvm hw hB hz1 hk1 hS => ?_)
      obtain ⟨hP1, hK1, hD1⟩ := hB
      rw [ht] at hP1
      obtain ⟨hP, hD⟩ := va_join (wr := (([0, 1, 2, 3, 4, 11] : List Nat).map (fun i => ((rw_W h q g hm qm gm so sg sx I1 A1 M1 MB1 L1)).getD i (0, .inr (0, []))))) (w1 := (aw_W hm qm gm M2 MB2 L2)) hP hD [5, 6, 7, 8, 9, 10] [0, 1, 2, 3, 4, 11] rfl rfl (by decide) (by decide) hk1 hFc hP1 hD1
      generalize H1 = H at hP hS ⊢
      have hP := hP.sub (ws' := (rw_W h q g hm qm gm so sg sx I1 A1 M2 MB2 L2)) [0, 1, 2, 3, 4, 6, 7, 8, 9, 10, 11, 5] rfl
      have hD := hD.sub (ws' := (rw_W h q g hm qm gm so sg sx I1 A1 M2 MB2 L2)) [0, 1, 2, 3, 4, 6, 7, 8, 9, 10, 11, 5] (by decide) rfl
      refine lv_aload_n hx hb d_P_readDot_18 rfl (lv_at hl 1 rfl) ?_
      refine va_get (D := (dC, dI)) (ci := 2) (v := .ref hm) (C := R_P) (T := F_P) (N := 13) hx hb hts (fun w h => List.mem_cons_of_mem _ (in_P w h)) hown hK hP 0 rfl rfl 4 (by decide) (hts _ (List.mem_cons_of_mem _ lk_331)) (fun _ h9 => h9) rfl d_P_readDot_19 ?_
      refine lv_iload_n hx hb d_P_readDot_22 rfl (lv_at hl 0 rfl) ?_
      have hPc := hP.sub (ws' := (aw_W hm qm gm M2 MB2 L2)) [5, 6, 7, 8, 9, 10] rfl
      have hDc := hD.sub (ws' := (aw_W hm qm gm M2 MB2 L2)) [5, 6, 7, 8, 9, 10] (by decide) rfl
      have hKc := hK.sub (tys' := (aw_T hm qm gm)) [4, 5, 6, 7, 8] rfl
      have hFc := va_free (wc := (aw_W hm qm gm M2 MB2 L2)) hD hS hA [5, 6, 7, 8, 9, 10] rfl
      cases hg3 : f_A_takeOtherCodes M2 MB2 L2 r1 with
      | none => rw [hg3] at hf; cases hf
      | some z3 =>
        obtain ⟨r3, M3, MB3, L3⟩ := z3
        rw [hg3] at hf
        dsimp only [Option.bind_some] at hf
        refine va_callv (va_runV (As := [.int r1]) (rest := []) ⟨hx, hb, hml, hown, hts⟩ (cm_A_takeOtherCodes l dC dI hm qm gm _  M2 MB2 L2 r1 r3 M3 MB3 L3 hg3) (cwV 1 hts (gd_v lk_385 lk_386 lk_387 lk_274 lk_384) rfl rfl rfl (by decide +kernel) ⟨Nat.le_of_ble_eq_true rfl, Nat.le_of_ble_eq_true rfl⟩) ⟨fun a U g mk q => by obtain ⟨q0, q1, qP, qK, qD⟩ := q; exact ⟨q0, q1, qP, va_K.moved (u := U) (U := U.calling g mk a) (Vm.Alike.refl U.vm) qK, qD⟩, va_recv (ci := 3) (q0 := 5) hK hP rfl rfl, fun U hU hW => ⟨rfl, by rw [hU], by rw [hU]; exact hPc, va_K.moved hW.alike hKc, hDc.weaken (fun _ _ _ _ => trivial)⟩⟩ rfl rfl hl.1 rfl (lv_room (Nat.le_of_ble_eq_true rfl)) d_P_readDot_23 ⟨Nat.le_of_ble_eq_true rfl, Nat.le_of_ble_eq_true rfl⟩) hS (fun q _ h => hFc q h) hFc (fun u t H1 locs ht hvm hw hB hz1 hk1 hS => ?_)
        obtain ⟨hP1, hK1, hD1⟩ := hB
        rw [ht] at hP1
        obtain ⟨hP, hD⟩ := va_join (wr := (([0, 1, 2, 3, 4, 11] : List Nat).map (fun i => ((rw_W h q g hm qm gm so sg sx I1 A1 M2 MB2 L2)).getD i (0, .inr (0, []))))) (w1 := (aw_W hm qm gm M3 MB3 L3)) hP hD [5, 6, 7, 8, 9, 10] [0, 1, 2, 3, 4, 11] rfl rfl (by decide) (by decide) hk1 hFc hP1 hD1
        generalize H1 = H at hP hS ⊢
        have hP := hP.sub (ws' := (rw_W h q g hm qm gm so sg sx I1 A1 M3 MB3 L3)) [0, 1, 2, 3, 4, 6, 7, 8, 9, 10, 11, 5] rfl
        have hD := hD.sub (ws' := (rw_W h q g hm qm gm so sg sx I1 A1 M3 MB3 L3)) [0, 1, 2, 3, 4, 6, 7, 8, 9, 10, 11, 5] (by decide) rfl
        obtain ⟨e0, e1, e2, e3, e4, e5⟩ := wk_inj5 hf
        subst e0
        subst e1
        subst e2
        subst e3
        subst e4
        subst e5
        exact W.vret hx hb hr (fun t ht hW => ⟨⟨(), rfl, rfl, by rw [ht]; exact hP, va_K.moved hW.alike hK, hD⟩, hS.F ht⟩) hS.2.2 d_P_readDot_26

set_option maxHeartbeats 8000000 in
set_option maxRecDepth 100000 in
theorem cm_P_readSingle (l : Launch) (dC : Nat → ClassId) (dI : Nat → Nat → Nat) (h : Nat) (q : Nat → Nat) (g : Nat → ClassId) (hm : Nat) (qm : Nat → Nat) (gm : Nat → ClassId) (so : Nat) (sg : ClassId) (sx : Nat → Int32) (sz : Nat) (I : MI) (A : MA) (M : MI) (MB : MA) (L : ML) (k1 : Int32) (r : Int32) (I' : MI) (A' : MA) (M' : MI) (MB' : MA) (L' : ML) (hf : f_P_readSingle sx I A M MB L  k1 = some (r, I', A', M', MB', L')) : Met l y_P_readSingle w_P_readSingle ({ frames := 3, cells := 0, slots := 0, locals := 66 }) (va_Pc [.ref h, .int k1] (fun U => U.heap.size = sz ∧ va_P (dC, dI) vwCl (rw_W h q g hm qm gm so sg sx I A M MB L) U.heap ∧ va_K (dC, dI) vwCl (rw_T h q g hm qm gm so sg sx) U ∧ va_D (fun _ => True) (rw_W h q g hm qm gm so sg sx I A M MB L))) (va_Qv (fun (u : Unit) => u = u) (fun (_ : Unit) t => va_P (dC, dI) vwCl (rw_W h q g hm qm gm so sg sx I' A' M' MB' L') t.heap ∧ va_K (dC, dI) vwCl (rw_T h q g hm qm gm so sg sx) t ∧ va_D (va_A (rw_W h q g hm qm gm so sg sx I A M MB L) sz) (rw_W h q g hm qm gm so sg sx I' A' M' MB' L')) (va_A (rw_W h q g hm qm gm so sg sx I A M MB L) sz)) 0 0 (va_A (rw_W h q g hm qm gm so sg sx I A M MB L) sz) := by
  refine Met.ofW (cc := prog_3_method_6_code) (maxL := 2) (ret := none) (by decide) rfl ?_
  intro p e s m args below meth c s₁ B hml hv
  obtain ⟨rfl, hsz, hP, hK, hD0⟩ := hv
  have hx := B.exec
  have hb := B.bytes
  have hr := B.returns
  have hts := atoms_spec (ws := w_P_readSingle) B.pre
  have hown : s.vm.findClass "DraftTree$PatternReader" = some m.cls := findClass_of_methodNamed B.named
  have hlocks := B.notSynchronized
  subst hsz
  have hD := hD0.self (sz := s.heap.size)
  generalize hAe : va_A (rw_W h q g hm qm gm so sg sx I A M MB L) s.heap.size = B9 at hD ⊢
  have hA : ∀ q : Nat, s.heap.size ≤ q → B9 q := fun q h => by rw [← hAe]; exact Or.inr h
  clear hAe
  have hS : va_S B9 s.heap s.heap [] := va_S.rf
  have hl := lv_entry ([.ref h, .int k1]) (n := 2) (Nat.le_of_ble_eq_true rfl)
  rw [lg_entry_eq]
  generalize (lg_sl ([.ref h, .int k1]) ++ List.replicate (2 - (lg_sl ([.ref h, .int k1])).length) Slot.unset).toArray = ls at hl ⊢
  have hl : lv_has ls 2 [(0, .ref h), (1, .int k1)] := hl
  have blk66 : ∀ (I : MI) (A : MA) (M : MI) (MB : MA) (L : ML) (X : Nat → Int32) (Y : Nat → Int64) (ls : Array Slot) (H : Heap) (locs : List Loc), f_P_readSingle_66 sx I A M MB L X Y = some (r, I', A', M', MB', L') → lv_has ls 2 [(0, .ref h), (1, .int (X 1))] → va_P (dC, dI) vwCl (rw_W h q g hm qm gm so sg sx I A M MB L) H → va_D B9 (rw_W h q g hm qm gm so sg sx I A M MB L) → va_S B9 s.heap H locs → W p l e (headSpec w_P_readSingle ({ frames := 3, cells := 0, slots := 0, locals := 66 })).room s m ([.ref h, .int k1] : List Value).toArray below meth c H locs 0 0 (MQ below (va_Qv (fun (u : Unit) => u = u) (fun (_ : Unit) t => va_P (dC, dI) vwCl (rw_W h q g hm qm gm so sg sx I' A' M' MB' L') t.heap ∧ va_K (dC, dI) vwCl (rw_T h q g hm qm gm so sg sx) t ∧ va_D B9 (rw_W h q g hm qm gm so sg sx I' A' M' MB' L')) B9) ([.ref h, .int k1] : List Value).toArray s 0 0 B9) (F0 m 66 ls []) := by
    intro I A M MB L X Y ls H locs hf hl hP hD hS
    unfold f_P_readSingle_66 at hf
    obtain ⟨e0, e1, e2, e3, e4, e5⟩ := wk_inj5 hf
    subst e0
    subst e1
    subst e2
    subst e3
    subst e4
    subst e5
    exact W.vret hx hb hr (fun t ht hW => ⟨⟨(), rfl, rfl, by rw [ht]; exact hP, va_K.moved hW.alike hK, hD⟩, hS.F ht⟩) hS.2.2 d_P_readSingle_66
  unfold f_P_readSingle at hf
  refine lv_iload_n hx hb d_P_readSingle_0 rfl (lv_at hl 1 rfl) ?_
  by_cases hc1 : k1 = 36
  ·
    have hf := wk_ift hc1 hf
    refine wk_top (w := .int 36) (congrArg _ hc1) ?_
    refine lv_lookup (off := 44) (tgt := 45) hx hb d_P_readSingle_1 (by decide) (by decide) (by decide) ?_
    refine lv_aload_n hx hb d_P_readSingle_45 rfl (lv_at hl 0 rfl) ?_
    refine lv_iconst (v := 3) hx hb d_P_readSingle_46 (by decide) ?_
    have hPc := hP.sub (ws' := (rw_W h q g hm qm gm so sg sx I A M MB L)) [0, 1, 2, 3, 4, 5, 6, 7, 8, 9, 10, 11] rfl
    have hDc := hD.sub (ws' := (rw_W h q g hm qm gm so sg sx I A M MB L)) [0, 1, 2, 3, 4, 5, 6, 7, 8, 9, 10, 11] (by decide) rfl
    have hKc := hK.sub (tys' := (rw_T h q g hm qm gm so sg sx)) [0, 1, 2, 3, 4, 5, 6, 7, 8, 9] rfl
    have hFc := va_free (wc := (rw_W h q g hm qm gm so sg sx I A M MB L)) hD hS hA [0, 1, 2, 3, 4, 5, 6, 7, 8, 9, 10, 11] rfl
    cases hg1 : f_P_addNodeAsPart sx I A M MB L 3 with
    | none => rw [hg1] at hf; cases hf
    | some z1 =>
      obtain ⟨r1, I1, A1, M1, MB1, L1⟩ := z1
      rw [hg1] at hf
      dsimp only [Option.bind_some] at hf
      refine va_calli (va_runV (As := [.int 3]) (rest := []) ⟨hx, hb, hml, hown, hts⟩ (cm_P_addNodeAsPart l dC dI h q g hm qm gm so sg sx _  I A M MB L 3 r1 I1 A1 M1 MB1 L1 hg1) (cwV 1 hts (gd_v lk_373 lk_374 lk_375 lk_349 lk_372) rfl rfl rfl (by decide +kernel) ⟨Nat.le_of_ble_eq_true rfl, Nat.le_of_ble_eq_true rfl⟩) ⟨fun a U g mk q => by obtain ⟨q0, q1, qP, qK, qD⟩ := q; exact ⟨q0, q1, qP, va_K.moved (u := U) (U := U.calling g mk a) (Vm.Alike.refl U.vm) qK, qD⟩, va_recv (ci := 2) (q0 := 0) hK hP rfl rfl, fun U hU hW => ⟨rfl, by rw [hU], by rw [hU]; exact hPc, va_K.moved hW.alike hKc, hDc.weaken (fun _ _ _ _ => trivial)⟩⟩ rfl rfl hl.1 rfl (lv_room (Nat.le_of_ble_eq_true rfl)) d_P_readSingle_47 ⟨Nat.le_of_ble_eq_true rfl, Nat.le_of_ble_eq_true rfl⟩) hS (fun q _ h => hFc q h) hFc (fun r9 u t H1 locs ht hvm hw hB hz1 hk1 hS => ?_)
      obtain ⟨hP1, hK1, hD1⟩ := hB
      rw [ht] at hP1
      rw [hw]
      obtain ⟨hP, hD⟩ := va_join (wr := (([] : List Nat).map (fun i => ((rw_W h q g hm qm gm so sg sx I A M MB L)).getD i (0, .inr (0, []))))) (w1 := (rw_W h q g hm qm gm so sg sx I1 A1 M1 MB1 L1)) hP hD [0, 1, 2, 3, 4, 5, 6, 7, 8, 9, 10, 11] [] rfl rfl (by decide) (by decide) hk1 hFc hP1 hD1
      generalize H1 = H at hP hS ⊢
      have hP := hP.sub (ws' := (rw_W h q g hm qm gm so sg sx I1 A1 M1 MB1 L1)) [0, 1, 2, 3, 4, 5, 6, 7, 8, 9, 10, 11] rfl
      have hD := hD.sub (ws' := (rw_W h q g hm qm gm so sg sx I1 A1 M1 MB1 L1)) [0, 1, 2, 3, 4, 5, 6, 7, 8, 9, 10, 11] (by decide) rfl
      refine lv_pop hx hb d_P_readSingle_50 rfl ?_
      refine lv_goto (tgt := 66) hx hb d_P_readSingle_51 (by decide) ?_
      exact blk66 I1 A1 M1 MB1 L1 (upd (fun _ => 0) 1 k1) (fun _ => 0) _ _ _ hf (lv_sub hl [0, 1] rfl) hP hD hS
  ·
    have hf := wk_iff hc1 hf
    by_cases hc2 : k1 = 46
    ·
      have hf := wk_ift hc2 hf
      refine wk_top (w := .int 46) (congrArg _ hc2) ?_
      refine lv_lookup (off := 53) (tgt := 54) hx hb d_P_readSingle_1 (by decide) (by decide) (by decide) ?_
      refine lv_aload_n hx hb d_P_readSingle_54 rfl (lv_at hl 0 rfl) ?_
      have hPc := hP.sub (ws' := (rw_W h q g hm qm gm so sg sx I A M MB L)) [0, 1, 2, 3, 4, 5, 6, 7, 8, 9, 10, 11] rfl
      have hDc := hD.sub (ws' := (rw_W h q g hm qm gm so sg sx I A M MB L)) [0, 1, 2, 3, 4, 5, 6, 7, 8, 9, 10, 11] (by decide) rfl
      have hKc := hK.sub (tys' := (rw_T h q g hm qm gm so sg sx)) [0, 1, 2, 3, 4, 5, 6, 7, 8, 9] rfl
      have hFc := va_free (wc := (rw_W h q g hm qm gm so sg sx I A M MB L)) hD hS hA [0, 1, 2, 3, 4, 5, 6, 7, 8, 9, 10, 11] rfl
      cases hg1 : f_P_readDot sx I A M MB L with
      | none => rw [hg1] at hf; cases hf
      | some z1 =>
        obtain ⟨r1, I1, A1, M1, MB1, L1⟩ := z1
        rw [hg1] at hf
        dsimp only [Option.bind_some] at hf
        refine va_callv (va_runV (As := []) (rest := []) ⟨hx, hb, hml, hown, hts⟩ (cm_P_readDot l dC dI h q g hm qm gm so sg sx _  I A M MB L r1 I1 A1 M1 MB1 L1 hg1) (cwV 0 hts (gd_v lk_405 lk_406 lk_407 lk_349 lk_404) rfl rfl rfl (by decide +kernel) ⟨Nat.le_of_ble_eq_true rfl, Nat.le_of_ble_eq_true rfl⟩) ⟨fun a U g mk q => by obtain ⟨q0, q1, qP, qK, qD⟩ := q; exact ⟨q0, q1, qP, va_K.moved (u := U) (U := U.calling g mk a) (Vm.Alike.refl U.vm) qK, qD⟩, va_recv (ci := 2) (q0 := 0) hK hP rfl rfl, fun U hU hW => ⟨rfl, by rw [hU], by rw [hU]; exact hPc, va_K.moved hW.alike hKc, hDc.weaken (fun _ _ _ _ => trivial)⟩⟩ rfl rfl hl.1 rfl (lv_room (Nat.le_of_ble_eq_true rfl)) d_P_readSingle_55 ⟨Nat.le_of_ble_eq_true rfl, Nat.le_of_ble_eq_true rfl⟩) hS (fun q _ h => hFc q h) hFc (fun u t H1 locs ht hvm hw hB hz1 hk1 hS => ?_)
        obtain ⟨hP1, hK1, hD1⟩ := hB
        rw [ht] at hP1
        obtain ⟨hP, hD⟩ := va_join (wr := (([] : List Nat).map (fun i => ((rw_W h q g hm qm gm so sg sx I A M MB L)).getD i (0, .inr (0, []))))) (w1 := (rw_W h q g hm qm gm so sg sx I1 A1 M1 MB1 L1)) hP hD [0, 1, 2, 3, 4, 5, 6, 7, 8, 9, 10, 11] [] rfl rfl (by decide) (by decide) hk1 hFc hP1 hD1
        generalize H1 = H at hP hS ⊢
        have hP := hP.sub (ws' := (rw_W h q g hm qm gm so sg sx I1 A1 M1 MB1 L1)) [0, 1, 2, 3, 4, 5, 6, 7, 8, 9, 10, 11] rfl
        have hD := hD.sub (ws' := (rw_W h q g hm qm gm so sg sx I1 A1 M1 MB1 L1)) [0, 1, 2, 3, 4, 5, 6, 7, 8, 9, 10, 11] (by decide) rfl
        refine lv_goto (tgt := 66) hx hb d_P_readSingle_58 (by decide) ?_
        exact blk66 I1 A1 M1 MB1 L1 (upd (fun _ => 0) 1 k1) (fun _ => 0) _ _ _ hf (lv_sub hl [0, 1] rfl) hP hD hS
    ·
      have hf := wk_iff hc2 hf
      by_cases hc3 : k1 = 94
      ·
        have hf := wk_ift hc3 hf
        refine wk_top (w := .int 94) (congrArg _ hc3) ?_
        refine lv_lookup (off := 35) (tgt := 36) hx hb d_P_readSingle_1 (by decide) (by decide) (by decide) ?_
        refine lv_aload_n hx hb d_P_readSingle_36 rfl (lv_at hl 0 rfl) ?_
        refine lv_iconst (v := 2) hx hb d_P_readSingle_37 (by decide) ?_
        have hPc := hP.sub (ws' := (rw_W h q g hm qm gm so sg sx I A M MB L)) [0, 1, 2, 3, 4, 5, 6, 7, 8, 9, 10, 11] rfl
        have hDc := hD.sub (ws' := (rw_W h q g hm qm gm so sg sx I A M MB L)) [0, 1, 2, 3, 4, 5, 6, 7, 8, 9, 10, 11] (by decide) rfl
        have hKc := hK.sub (tys' := (rw_T h q g hm qm gm so sg sx)) [0, 1, 2, 3, 4, 5, 6, 7, 8, 9] rfl
        have hFc := va_free (wc := (rw_W h q g hm qm gm so sg sx I A M MB L)) hD hS hA [0, 1, 2, 3, 4, 5, 6, 7, 8, 9, 10, 11] rfl
        cases hg1 : f_P_addNodeAsPart sx I A M MB L 2 with
        | none => rw [hg1] at hf; cases hf
        | some z1 =>
          obtain ⟨r1, I1, A1, M1, MB1, L1⟩ := z1
          rw [hg1] at hf
          dsimp only [Option.bind_some] at hf
          refine va_calli (va_runV (As := [.int 2]) (rest := []) ⟨hx, hb, hml, hown, hts⟩ (cm_P_addNodeAsPart l dC dI h q g hm qm gm so sg sx _  I A M MB L 2 r1 I1 A1 M1 MB1 L1 hg1) (cwV 1 hts (gd_v lk_373 lk_374 lk_375 lk_349 lk_372) rfl rfl rfl (by decide +kernel) ⟨Nat.le_of_ble_eq_true rfl, Nat.le_of_ble_eq_true rfl⟩) ⟨fun a U g mk q => by obtain ⟨q0, q1, qP, qK, qD⟩ := q; exact ⟨q0, q1, qP, va_K.moved (u := U) (U := U.calling g mk a) (Vm.Alike.refl U.vm) qK, qD⟩, va_recv (ci := 2) (q0 := 0) hK hP rfl rfl, fun U hU hW => ⟨rfl, by rw [hU], by rw [hU]; exact hPc, va_K.moved hW.alike hKc, hDc.weaken (fun _ _ _ _ => trivial)⟩⟩ rfl rfl hl.1 rfl (lv_room (Nat.le_of_ble_eq_true rfl)) d_P_readSingle_38 ⟨Nat.le_of_ble_eq_true rfl, Nat.le_of_ble_eq_true rfl⟩) hS (fun q _ h => hFc q h) hFc (fun r9 u t H1 locs ht hvm hw hB hz1 hk1 hS => ?_)
          obtain ⟨hP1, hK1, hD1⟩ := hB
          rw [ht] at hP1
          rw [hw]
          obtain ⟨hP, hD⟩ := va_join (wr := (([] : List Nat).map (fun i => ((rw_W h q g hm qm gm so sg sx I A M MB L)).getD i (0, .inr (0, []))))) (w1 := (rw_W h q g hm qm gm so sg sx I1 A1 M1 MB1 L1)) hP hD [0, 1, 2, 3, 4, 5, 6, 7, 8, 9, 10, 11] [] rfl rfl (by decide) (by decide) hk1 hFc hP1 hD1
          generalize H1 = H at hP hS ⊢
          have hP := hP.sub (ws' := (rw_W h q g hm qm gm so sg sx I1 A1 M1 MB1 L1)) [0, 1, 2, 3, 4, 5, 6, 7, 8, 9, 10, 11] rfl
          have hD := hD.sub (ws' := (rw_W h q g hm qm gm so sg sx I1 A1 M1 MB1 L1)) [0, 1, 2, 3, 4, 5, 6, 7, 8, 9, 10, 11] (by decide) rfl
          refine lv_pop hx hb d_P_readSingle_41 rfl ?_
          refine lv_goto (tgt := 66) hx hb d_P_readSingle_42 (by decide) ?_
          exact blk66 I1 A1 M1 MB1 L1 (upd (fun _ => 0) 1 k1) (fun _ => 0) _ _ _ hf (lv_sub hl [0, 1] rfl) hP hD hS
      ·
        have hf := wk_iff hc3 hf
        refine lv_lookup (off := 60) (tgt := 61) hx hb d_P_readSingle_1 (by decide) (by refine (lv_osw hc1 (by decide)).trans ?_; refine (lv_osw hc2 (by decide)).trans ?_; refine (lv_osw hc3 (by decide)).trans ?_; rfl) (by decide) ?_
        refine lv_aload_n hx hb d_P_readSingle_61 rfl (lv_at hl 0 rfl) ?_
        refine lv_iload_n hx hb d_P_readSingle_62 rfl (lv_at hl 1 rfl) ?_
        have hPc := hP.sub (ws' := (rw_W h q g hm qm gm so sg sx I A M MB L)) [0, 1, 2, 3, 4, 5, 6, 7, 8, 9, 10, 11] rfl
        have hDc := hD.sub (ws' := (rw_W h q g hm qm gm so sg sx I A M MB L)) [0, 1, 2, 3, 4, 5, 6, 7, 8, 9, 10, 11] (by decide) rfl
        have hKc := hK.sub (tys' := (rw_T h q g hm qm gm so sg sx)) [0, 1, 2, 3, 4, 5, 6, 7, 8, 9] rfl
        have hFc := va_free (wc := (rw_W h q g hm qm gm so sg sx I A M MB L)) hD hS hA [0, 1, 2, 3, 4, 5, 6, 7, 8, 9, 10, 11] rfl
        cases hg1 : f_P_readLiteral sx I A M MB L k1 with
        | none => rw [hg1] at hf; cases hf
        | some z1 =>
          obtain ⟨r1, I1, A1, M1, MB1, L1⟩ := z1
          rw [hg1] at hf
          dsimp only [Option.bind_some] at hf
          refine va_callv (va_runV (As := [.int k1]) (rest := []) ⟨hx, hb, hml, hown, hts⟩ (cm_P_readLiteral l dC dI h q g hm qm gm so sg sx _  I A M MB L k1 r1 I1 A1 M1 MB1 L1 hg1) (cwV 1 hts (gd_v lk_393 lk_394 lk_395 lk_349 lk_392) rfl rfl rfl (by decide +kernel) ⟨Nat.le_of_ble_eq_true rfl, Nat.le_of_ble_eq_true rfl⟩) ⟨fun a U g mk q => by obtain ⟨q0, q1, qP, qK, qD⟩ := q; exact ⟨q0, q1, qP, va_K.moved (u := U) (U := U.calling g mk a) (Vm.Alike.refl U.vm) qK, qD⟩, va_recv (ci := 2) (q0 := 0) hK hP rfl rfl, fun U hU hW => ⟨rfl, by rw [hU], by rw [hU]; exact hPc, va_K.moved hW.alike hKc, hDc.weaken (fun _ _ _ _ => trivial)⟩⟩ rfl rfl hl.1 rfl (lv_room (Nat.le_of_ble_eq_true rfl)) d_P_readSingle_63 ⟨Nat.le_of_ble_eq_true rfl, Nat.le_of_ble_eq_true rfl⟩) hS (fun q _ h => hFc q h) hFc (fun u t H1 locs ht hvm hw hB hz1 hk1 hS => ?_)
          obtain ⟨hP1, hK1, hD1⟩ := hB
          rw [ht] at hP1
          obtain ⟨hP, hD⟩ := va_join (wr := (([] : List Nat).map (fun i => ((rw_W h q g hm qm gm so sg sx I A M MB L)).getD i (0, .inr (0, []))))) (w1 := (rw_W h q g hm qm gm so sg sx I1 A1 M1 MB1 L1)) hP hD [0, 1, 2, 3, 4, 5, 6, 7, 8, 9, 10, 11] [] rfl rfl (by decide) (by decide) hk1 hFc hP1 hD1
          generalize H1 = H at hP hS ⊢
          have hP := hP.sub (ws' := (rw_W h q g hm qm gm so sg sx I1 A1 M1 MB1 L1)) [0, 1, 2, 3, 4, 5, 6, 7, 8, 9, 10, 11] rfl
          have hD := hD.sub (ws' := (rw_W h q g hm qm gm so sg sx I1 A1 M1 MB1 L1)) [0, 1, 2, 3, 4, 5, 6, 7, 8, 9, 10, 11] (by decide) rfl
          exact blk66 I1 A1 M1 MB1 L1 (upd (fun _ => 0) 1 k1) (fun _ => 0) _ _ _ hf (lv_sub hl [0, 1] rfl) hP hD hS

-- 18.ccon06
set_option maxHeartbeats 8000000 in
set_option maxRecDepth 100000 in
theorem cm_P_readNext (l : Launch) (dC : Nat → ClassId) (dI : Nat → Nat → Nat) (h : Nat) (q : Nat → Nat) (g : Nat → ClassId) (hm : Nat) (qm : Nat → Nat) (gm : Nat → ClassId) (so : Nat) (sg : ClassId) (sx : Nat → Int32) (sz : Nat) (I : MI) (A : MA) (M : MI) (MB : MA) (L : ML) (r : Int32) (I' : MI) (A' : MA) (M' : MI) (MB' : MA) (L' : ML) (hf : f_P_readNext sx I A M MB L  = some (r, I', A', M', MB', L')) : Met l y_P_readNext w_P_readNext ({ frames := 4, cells := 0, slots := 0, locals := 87 }) (va_Pc [.ref h] (fun U => U.heap.size = sz ∧ va_P (dC, dI) vwCl (rw_W h q g hm qm gm so sg sx I A M MB L) U.heap ∧ va_K (dC, dI) vwCl (rw_T h q g hm qm gm so sg sx) U ∧ va_D (fun _ => True) (rw_W h q g hm qm gm so sg sx I A M MB L))) (va_Qv (fun (u : Unit) => u = u) (fun (_ : Unit) t => va_P (dC, dI) vwCl (rw_W h q g hm qm gm so sg sx I' A' M' MB' L') t.heap ∧ va_K (dC, dI) vwCl (rw_T h q g hm qm gm so sg sx) t ∧ va_D (va_A (rw_W h q g hm qm gm so sg sx I A M MB L) sz) (rw_W h q g hm qm gm so sg sx I' A' M' MB' L')) (va_A (rw_W h q g hm qm gm so sg sx I A M MB L) sz)) 0 0 (va_A (rw_W h q g hm qm gm so sg sx I A M MB L) sz) := by
  refine Met.ofW (cc := prog_3_method_5_code) (maxL := 2) (ret := none) (by decide) rfl ?_
  intro p e s m args below meth c s₁ B hml hv
  obtain ⟨rfl, hsz, hP, hK, hD0⟩ := hv
  have hx := B.exec
  have hb := B.bytes
  have hr := B.returns
  have hts := atoms_spec (ws := w_P_readNext) B.pre
  have hown : s.vm.findClass "DraftTree$PatternReader" = some m.cls := findClass_of_methodNamed B.named
  have hlocks := B.notSynchronized
  subst hsz
  have hD := hD0.self (sz := s.heap.size)
  generalize hAe : va_A (rw_W h q g hm qm gm so sg sx I A M MB L) s.heap.size = B9 at hD ⊢
  have hA : ∀ q : Nat, s.heap.size ≤ q → B9 q := fun q h => by rw [← hAe]; exact Or.inr h
  clear hAe
  have hS : va_S B9 s.heap s.heap [] := va_S.rf
  have hl := lv_entry ([.ref h]) (n := 2) (Nat.le_of_ble_eq_true rfl)
  rw [lg_entry_eq]
  generalize (lg_sl ([.ref h]) ++ List.replicate (2 - (lg_sl ([.ref h])).length) Slot.unset).toArray = ls at hl ⊢
  have hl : lv_has ls 2 [(0, .ref h)] := hl
  have blk151 : ∀ (I : MI) (A : MA) (M : MI) (MB : MA) (L : ML) (X : Nat → Int32) (Y : Nat → Int64) (ls : Array Slot) (H : Heap) (locs : List Loc), f_P_readNext_151 sx I A M MB L X Y = some (r, I', A', M', MB', L') → lv_has ls 2 [(0, .ref h), (1, .int (X 1))] → va_P (dC, dI) vwCl (rw_W h q g hm qm gm so sg sx I A M MB L) H → va_D B9 (rw_W h q g hm qm gm so sg sx I A M MB L) → va_S B9 s.heap H locs → W p l e (headSpec w_P_readNext ({ frames := 4, cells := 0, slots := 0, locals := 87 })).room s m ([.ref h] : List Value).toArray below meth c H locs 0 0 (MQ below (va_Qv (fun (u : Unit) => u = u) (fun (_ : Unit) t => va_P (dC, dI) vwCl (rw_W h q g hm qm gm so sg sx I' A' M' MB' L') t.heap ∧ va_K (dC, dI) vwCl (rw_T h q g hm qm gm so sg sx) t ∧ va_D B9 (rw_W h q g hm qm gm so sg sx I' A' M' MB' L')) B9) ([.ref h] : List Value).toArray s 0 0 B9) (F0 m 151 ls []) := by
    intro I A M MB L X Y ls H locs hf hl hP hD hS
    unfold f_P_readNext_151 at hf
    refine lv_aload_n hx hb d_P_readNext_151 rfl (lv_at hl 0 rfl) ?_
    refine lv_dup hx hb d_P_readNext_152 rfl ?_
    refine va_get (D := (dC, dI)) (ci := 2) (v := .int (I 7)) (C := R_P) (T := F_P) (N := 13) hx hb hts (fun w h => List.mem_cons_of_mem _ (in_P w h)) hown hK hP 0 rfl rfl 7 (by decide) (hts _ (List.mem_cons_of_mem _ lk_329)) (fun _ h9 => h9) rfl d_P_readNext_153 ?_
    refine lv_iconst (v := 1) hx hb d_P_readNext_156 (by decide) ?_
    refine lv_iadd hx hb d_P_readNext_157 ?_
    refine va_put (D := (dC, dI)) (ci := 2) (v := .int ((I 7) + 1)) (ty := .int) (C := R_P) (T := F_P) (N := 13) hx hb hts (fun w h => List.mem_cons_of_mem _ (in_P w h)) t_P tk_P n_P hown hK hP hD hS 0 rfl rfl 7 (by decide) (hts _ (List.mem_cons_of_mem _ lk_329)) (fun _ h9 => h9) rfl (by decide +kernel) rfl rfl (Nat.le_of_ble_eq_true rfl) d_P_readNext_158 (fun H locs hP hD hS => ?_)
    obtain ⟨I1, hI1, hf⟩ := wk_letE hf
    have hP : va_P (dC, dI) vwCl (rw_W h q g hm qm gm so sg sx I1 A M MB L) H := by rw [hI1]; exact hP
    have hD : va_D B9 (rw_W h q g hm qm gm so sg sx I1 A M MB L) := by rw [hI1]; exact hD
    clear hI1
    obtain ⟨e0, e1, e2, e3, e4, e5⟩ := wk_inj5 hf
    subst e0
    subst e1
    subst e2
    subst e3
    subst e4
    subst e5
    exact W.vret hx hb hr (fun t ht hW => ⟨⟨(), rfl, rfl, by rw [ht]; exact hP, va_K.moved hW.alike hK, hD⟩, hS.F ht⟩) hS.2.2 d_P_readNext_161
  unfold f_P_readNext at hf
  refine lv_aload_n hx hb d_P_readNext_0 rfl (lv_at hl 0 rfl) ?_
  refine va_get (D := (dC, dI)) (ci := 2) (v := .ref so) (C := R_P) (T := F_P) (N := 13) hx hb hts (fun w h => List.mem_cons_of_mem _ (in_P w h)) hown hK hP 0 rfl rfl 5 (by decide) (hts _ (List.mem_cons_of_mem _ lk_327)) (fun _ h9 => h9) rfl d_P_readNext_1 ?_
  refine lv_aload_n hx hb d_P_readNext_4 rfl (lv_at hl 0 rfl) ?_
  refine va_get (D := (dC, dI)) (ci := 2) (v := .int (I 7)) (C := R_P) (T := F_P) (N := 13) hx hb hts (fun w h => List.mem_cons_of_mem _ (in_P w h)) hown hK hP 0 rfl rfl 7 (by decide) (hts _ (List.mem_cons_of_mem _ lk_329)) (fun _ h9 => h9) rfl d_P_readNext_5 ?_
  obtain ⟨hc1, hf⟩ := wk_if hf
  refine va_cald hx hb hK hP 11 9 rfl rfl (wk_inb_ok hc1) d_P_readNext_8 ?_
  refine lv_istore_n (lv' := [(1, .int (sx ((I 7)).toNatClampNeg)), (0, .ref h)]) hx hb d_P_readNext_9 rfl hl (by decide) rfl (fun ls hl => ?_)
  have hl : lv_has ls 2 [(1, .int (sx ((I 7)).toNatClampNeg)), (0, .ref h)] := hl
  refine lv_iload_n hx hb d_P_readNext_10 rfl (lv_at hl 0 rfl) ?_
  by_cases hc2 : (sx ((I 7)).toNatClampNeg) = 40
  ·
    have hf := wk_ift hc2 hf
    refine wk_top (w := .int 40) (congrArg _ hc2) ?_
    refine lv_lookup (off := 81) (tgt := 92) hx hb d_P_readNext_11 (by decide) (by decide) (by decide) ?_
    refine lv_aload_n hx hb d_P_readNext_92 rfl (lv_at hl 1 rfl) ?_
    have hPc := hP.sub (ws' := (rw_W h q g hm qm gm so sg sx I A M MB L)) [0, 1, 2, 3, 4, 5, 6, 7, 8, 9, 10, 11] rfl
    have hDc := hD.sub (ws' := (rw_W h q g hm qm gm so sg sx I A M MB L)) [0, 1, 2, 3, 4, 5, 6, 7, 8, 9, 10, 11] (by decide) rfl
    have hKc := hK.sub (tys' := (rw_T h q g hm qm gm so sg sx)) [0, 1, 2, 3, 4, 5, 6, 7, 8, 9] rfl
    have hFc := va_free (wc := (rw_W h q g hm qm gm so sg sx I A M MB L)) hD hS hA [0, 1, 2, 3, 4, 5, 6, 7, 8, 9, 10, 11] rfl
    cases hg1 : f_P_openGroup sx I A M MB L with
    | none => rw [hg1] at hf; cases hf
    | some z1 =>
      obtain ⟨r1, I1, A1, M1, MB1, L1⟩ := z1
      rw [hg1] at hf
      dsimp only [Option.bind_some] at hf
      refine va_callv (va_runV (As := []) (rest := []) ⟨hx, hb, hml, hown, hts⟩ (cm_P_openGroup l dC dI h q g hm qm gm so sg sx _  I A M MB L r1 I1 A1 M1 MB1 L1 hg1) (cwV 0 hts (gd_v lk_355 lk_356 lk_357 lk_349 lk_354) rfl rfl rfl (by decide +kernel) ⟨Nat.le_of_ble_eq_true rfl, Nat.le_of_ble_eq_true rfl⟩) ⟨fun a U g mk q => by obtain ⟨q0, q1, qP, qK, qD⟩ := q; exact ⟨q0, q1, qP, va_K.moved (u := U) (U := U.calling g mk a) (Vm.Alike.refl U.vm) qK, qD⟩, va_recv (ci := 2) (q0 := 0) hK hP rfl rfl, fun U hU hW => ⟨rfl, by rw [hU], by rw [hU]; exact hPc, va_K.moved hW.alike hKc, hDc.weaken (fun _ _ _ _ => trivial)⟩⟩ rfl rfl hl.1 rfl (lv_room (Nat.le_of_ble_eq_true rfl)) d_P_readNext_93 ⟨Nat.le_of_ble_eq_true rfl, Nat.le_of_ble_eq_true rfl⟩) hS (fun q _ h => hFc q h) hFc (fun u t H1 locs ht hvm hw hB hz1 hk1 hS => ?_)
      obtain ⟨hP1, hK1, hD1⟩ := hB
      rw [ht] at hP1
      obtain ⟨hP, hD⟩ := va_join (wr := (([] : List Nat).map (fun i => ((rw_W h q g hm qm gm so sg sx I A M MB L)).getD i (0, .inr (0, []))))) (w1 := (rw_W h q g hm qm gm so sg sx I1 A1 M1 MB1 L1)) hP hD [0, 1, 2, 3, 4, 5, 6, 7, 8, 9, 10, 11] [] rfl rfl (by decide) (by decide) hk1 hFc hP1 hD1
      generalize H1 = H at hP hS ⊢
      have hP := hP.sub (ws' := (rw_W h q g hm qm gm so sg sx I1 A1 M1 MB1 L1)) [0, 1, 2, 3, 4, 5, 6, 7, 8, 9, 10, 11] rfl
      have hD := hD.sub (ws' := (rw_W h q g hm qm gm so sg sx I1 A1 M1 MB1 L1)) [0, 1, 2, 3, 4, 5, 6, 7, 8, 9, 10, 11] (by decide) rfl
      refine lv_goto (tgt := 151) hx hb d_P_readNext_96 (by decide) ?_
      exact blk151 I1 A1 M1 MB1 L1 (upd (fun _ => 0) 1 (sx ((I 7)).toNatClampNeg)) (fun _ => 0) _ _ _ hf (lv_sub hl [1, 0] rfl) hP hD hS
  ·
    have hf := wk_iff hc2 hf
    by_cases hc3 : (sx ((I 7)).toNatClampNeg) = 41
    ·
      have hf := wk_ift hc3 hf
      refine wk_top (w := .int 41) (congrArg _ hc3) ?_
      refine lv_lookup (off := 88) (tgt := 99) hx hb d_P_readNext_11 (by decide) (by decide) (by decide) ?_
      refine lv_aload_n hx hb d_P_readNext_99 rfl (lv_at hl 1 rfl) ?_
      have hPc := hP.sub (ws' := (rw_W h q g hm qm gm so sg sx I A M MB L)) [0, 1, 2, 3, 4, 5, 6, 7, 8, 9, 10, 11] rfl
      have hDc := hD.sub (ws' := (rw_W h q g hm qm gm so sg sx I A M MB L)) [0, 1, 2, 3, 4, 5, 6, 7, 8, 9, 10, 11] (by decide) rfl
      have hKc := hK.sub (tys' := (rw_T h q g hm qm gm so sg sx)) [0, 1, 2, 3, 4, 5, 6, 7, 8, 9] rfl
      have hFc := va_free (wc := (rw_W h q g hm qm gm so sg sx I A M MB L)) hD hS hA [0, 1, 2, 3, 4, 5, 6, 7, 8, 9, 10, 11] rfl
      cases hg1 : f_P_closeGroup sx I A M MB L with
      | none => rw [hg1] at hf; cases hf
      | some z1 =>
        obtain ⟨r1, I1, A1, M1, MB1, L1⟩ := z1
        rw [hg1] at hf
        dsimp only [Option.bind_some] at hf
        refine va_callv (va_runV (As := []) (rest := []) ⟨hx, hb, hml, hown, hts⟩ (cm_P_closeGroup l dC dI h q g hm qm gm so sg sx _  I A M MB L r1 I1 A1 M1 MB1 L1 hg1) (cwV 0 hts (gd_v lk_364 lk_365 lk_366 lk_349 lk_363) rfl rfl rfl (by decide +kernel) ⟨Nat.le_of_ble_eq_true rfl, Nat.le_of_ble_eq_true rfl⟩) ⟨fun a U g mk q => by obtain ⟨q0, q1, qP, qK, qD⟩ := q; exact ⟨q0, q1, qP, va_K.moved (u := U) (U := U.calling g mk a) (Vm.Alike.refl U.vm) qK, qD⟩, va_recv (ci := 2) (q0 := 0) hK hP rfl rfl, fun U hU hW => ⟨rfl, by rw [hU], by rw [hU]; exact hPc, va_K.moved hW.alike hKc, hDc.weaken (fun _ _ _ _ => trivial)⟩⟩ rfl rfl hl.1 rfl (lv_room (Nat.le_of_ble_eq_true rfl)) d_P_readNext_100 ⟨Nat.le_of_ble_eq_true rfl, Nat.le_of_ble_eq_true rfl⟩) hS (fun q _ h => hFc q h) hFc (fun u t H1 locs ht hvm hw hB hz1 hk1 hS => ?_)
        obtain ⟨hP1, hK1, hD1⟩ := hB
        rw [ht] at hP1
        obtain ⟨hP, hD⟩ := va_join (wr := (([] : List Nat).map (fun i => ((rw_W h q g hm qm gm so sg sx I A M MB L)).getD i (0, .inr (0, []))))) (w1 := (rw_W h q g hm qm gm so sg sx I1 A1 M1 MB1 L1)) hP hD [0, 1, 2, 3, 4, 5, 6, 7, 8, 9, 10, 11] [] rfl rfl (by decide) (by decide) hk1 hFc hP1 hD1
        generalize H1 = H at hP hS ⊢
        have hP := hP.sub (ws' := (rw_W h q g hm qm gm so sg sx I1 A1 M1 MB1 L1)) [0, 1, 2, 3, 4, 5, 6, 7, 8, 9, 10, 11] rfl
        have hD := hD.sub (ws' := (rw_W h q g hm qm gm so sg sx I1 A1 M1 MB1 L1)) [0, 1, 2, 3, 4, 5, 6, 7, 8, 9, 10, 11] (by decide) rfl
        refine lv_goto (tgt := 151) hx hb d_P_readNext_103 (by decide) ?_
        exact blk151 I1 A1 M1 MB1 L1 (upd (fun _ => 0) 1 (sx ((I 7)).toNatClampNeg)) (fun _ => 0) _ _ _ hf (lv_sub hl [1, 0] rfl) hP hD hS
    ·
      have hf := wk_iff hc3 hf
      by_cases hc4 : (sx ((I 7)).toNatClampNeg) = 42
      ·
        have hf := wk_ift hc4 hf
        refine wk_top (w := .int 42) (congrArg _ hc4) ?_
        refine lv_lookup (off := 102) (tgt := 113) hx hb d_P_readNext_11 (by decide) (by decide) (by decide) ?_
        refine lv_aload_n hx hb d_P_readNext_113 rfl (lv_at hl 1 rfl) ?_
        refine lv_iload_n hx hb d_P_readNext_114 rfl (lv_at hl 0 rfl) ?_
        have hPc := hP.sub (ws' := (rw_W h q g hm qm gm so sg sx I A M MB L)) [0, 1, 2, 3, 4, 5, 6, 7, 8, 9, 10, 11] rfl
        have hDc := hD.sub (ws' := (rw_W h q g hm qm gm so sg sx I A M MB L)) [0, 1, 2, 3, 4, 5, 6, 7, 8, 9, 10, 11] (by decide) rfl
        have hKc := hK.sub (tys' := (rw_T h q g hm qm gm so sg sx)) [0, 1, 2, 3, 4, 5, 6, 7, 8, 9] rfl
        have hFc := va_free (wc := (rw_W h q g hm qm gm so sg sx I A M MB L)) hD hS hA [0, 1, 2, 3, 4, 5, 6, 7, 8, 9, 10, 11] rfl
        cases hg1 : f_P_repeatPart sx I A M MB L (sx ((I 7)).toNatClampNeg) with
        | none => rw [hg1] at hf; cases hf
        | some z1 =>
          obtain ⟨r1, I1, A1, M1, MB1, L1⟩ := z1
          rw [hg1] at hf
          dsimp only [Option.bind_some] at hf
          refine va_callv (va_runV (As := [.int (sx ((I 7)).toNatClampNeg)]) (rest := []) ⟨hx, hb, hml, hown, hts⟩ (cm_P_repeatPart l dC dI h q g hm qm gm so sg sx _  I A M MB L (sx ((I 7)).toNatClampNeg) r1 I1 A1 M1 MB1 L1 hg1) (cwV 1 hts (gd_v lk_369 lk_370 lk_371 lk_349 lk_368) rfl rfl rfl (by decide +kernel) ⟨Nat.le_of_ble_eq_true rfl, Nat.le_of_ble_eq_true rfl⟩) ⟨fun a U g mk q => by obtain ⟨q0, q1, qP, qK, qD⟩ := q; exact ⟨q0, q1, qP, va_K.moved (u := U) (U := U.calling g mk a) (Vm.Alike.refl U.vm) qK, qD⟩, va_recv (ci := 2) (q0 := 0) hK hP rfl rfl, fun U hU hW => ⟨rfl, by rw [hU], by rw [hU]; exact hPc, va_K.moved hW.alike hKc, hDc.weaken (fun _ _ _ _ => trivial)⟩⟩ rfl rfl hl.1 rfl (lv_room (Nat.le_of_ble_eq_true rfl)) d_P_readNext_115 ⟨Nat.le_of_ble_eq_true rfl, Nat.le_of_ble_eq_true rfl⟩) hS (fun q _ h => hFc q h) hFc (fun u t H1 locs ht hvm hw hB hz1 hk1 hS => ?_)
          obtain ⟨hP1, hK1, hD1⟩ := hB
          rw [ht] at hP1
          obtain ⟨hP, hD⟩ := va_join (wr := (([] : List Nat).map (fun i => ((rw_W h q g hm qm gm so sg sx I A M MB L)).getD i (0, .inr (0, []))))) (w1 := (rw_W h q g hm qm gm so sg sx I1 A1 M1 MB1 L1)) hP hD [0, 1, 2, 3, 4, 5, 6, 7, 8, 9, 10, 11] [] rfl rfl (by decide) (by decide) hk1 hFc hP1 hD1
          generalize H1 = H at hP hS ⊢
          have hP := hP.sub (ws' := (rw_W h q g hm qm gm so sg sx I1 A1 M1 MB1 L1)) [0, 1, 2, 3, 4, 5, 6, 7, 8, 9, 10, 11] rfl
          have hD := hD.sub (ws' := (rw_W h q g hm qm gm so sg sx I1 A1 M1 MB1 L1)) [0, 1, 2, 3, 4, 5, 6, 7, 8, 9, 10, 11] (by decide) rfl
          refine lv_goto (tgt := 151) hx hb d_P_readNext_118 (by decide) ?_
          exact blk151 I1 A1 M1 MB1 L1 (upd (fun _ => 0) 1 (sx ((I 7)).toNatClampNeg)) (fun _ => 0) _ _ _ hf (lv_sub hl [1, 0] rfl) hP hD hS
      ·
        have hf := wk_iff hc4 hf
        by_cases hc5 : (sx ((I 7)).toNatClampNeg) = 43
        ·
          have hf := wk_ift hc5 hf
          refine wk_top (w := .int 43) (congrArg _ hc5) ?_
          refine lv_lookup (off := 102) (tgt := 113) hx hb d_P_readNext_11 (by decide) (by decide) (by decide) ?_
          refine lv_aload_n hx hb d_P_readNext_113 rfl (lv_at hl 1 rfl) ?_
          refine lv_iload_n hx hb d_P_readNext_114 rfl (lv_at hl 0 rfl) ?_
          have hPc := hP.sub (ws' := (rw_W h q g hm qm gm so sg sx I A M MB L)) [0, 1, 2, 3, 4, 5, 6, 7, 8, 9, 10, 11] rfl
          have hDc := hD.sub (ws' := (rw_W h q g hm qm gm so sg sx I A M MB L)) [0, 1, 2, 3, 4, 5, 6, 7, 8, 9, 10, 11] (by decide) rfl
          have hKc := hK.sub (tys' := (rw_T h q g hm qm gm so sg sx)) [0, 1, 2, 3, 4, 5, 6, 7, 8, 9] rfl
          have hFc := va_free (wc := (rw_W h q g hm qm gm so sg sx I A M MB L)) hD hS hA [0, 1, 2, 3, 4, 5, 6, 7, 8, 9, 10, 11] rfl
          cases hg1 : f_P_repeatPart sx I A M MB L (sx ((I 7)).toNatClampNeg) with
          | none => rw [hg1] at hf; cases hf
          | some z1 =>
            obtain ⟨r1, I1, A1, M1, MB1, L1⟩ := z1
            rw [hg1] at hf
            dsimp only [Option.bind_some] at hf
            refine va_callv (va_runV (As := [.int (sx ((I 7)).toNatClampNeg)]) (rest := []) ⟨hx, hb, hml, hown, hts⟩ (cm_P_repeatPart l dC dI h q g hm qm gm so sg sx _  I A M MB L (sx ((I 7)).toNatClampNeg) r1 I1 A1 M1 MB1 L1 hg1) (cwV 1 hts (gd_v lk_369 lk_370 lk_371 lk_349 lk_368) rfl rfl rfl (by decide +kernel) ⟨Nat.le_of_ble_eq_true rfl, Nat.le_of_ble_eq_true rfl⟩) ⟨fun a U g mk q => by obtain ⟨q0, q1, qP, qK, qD⟩ := q; exact ⟨q0, q1, qP, va_K.moved (u := U) (U := U.calling g mk a) (Vm.Alike.refl U.vm) qK, qD⟩, va_recv (ci := 2) (q0 := 0) hK hP rfl rfl, fun U hU hW => ⟨rfl, by rw [hU], by rw [hU]; exact hPc, va_K.moved hW.alike hKc, hDc.weaken (fun _ _ _ _ => trivial)⟩⟩ rfl rfl hl.1 rfl (lv_room (Nat.le_of_ble_eq_true rfl)) d_P_readNext_115 ⟨Nat.le_of_ble_eq_true rfl, Nat.le_of_ble_eq_true rfl⟩) hS (fun q _ h => hFc q h) hFc (fun u t H1 locs ht hvm hw hB hz1 hk1 hS => ?_)
            obtain ⟨hP1, hK1, hD1⟩ := hB
            rw [ht] at hP1
            obtain ⟨hP, hD⟩ := va_join (wr := (([] : List Nat).map (fun i => ((rw_W h q g hm qm gm so sg sx I A M MB L)).getD i (0, .inr (0, []))))) (w1 := (rw_W h q g hm qm gm so sg sx I1 A1 M1 MB1 L1)) hP hD [0, 1, 2, 3, 4, 5, 6, 7, 8, 9, 10, 11] [] rfl rfl (by decide) (by decide) hk1 hFc hP1 hD1
            generalize H1 = H at hP hS ⊢
            have hP := hP.sub (ws' := (rw_W h q g hm qm gm so sg sx I1 A1 M1 MB1 L1)) [0, 1, 2, 3, 4, 5, 6, 7, 8, 9, 10, 11] rfl
            have hD := hD.sub (ws' := (rw_W h q g hm qm gm so sg sx I1 A1 M1 MB1 L1)) [0, 1, 2, 3, 4, 5, 6, 7, 8, 9, 10, 11] (by decide) rfl
            refine lv_goto (tgt := 151) hx hb d_P_readNext_118 (by decide) ?_
            exact blk151 I1 A1 M1 MB1 L1 (upd (fun _ => 0) 1 (sx ((I 7)).toNatClampNeg)) (fun _ => 0) _ _ _ hf (lv_sub hl [1, 0] rfl) hP hD hS
        ·
          have hf := wk_iff hc5 hf
          by_cases hc6 : (sx ((I 7)).toNatClampNeg) = 63
          ·
            have hf := wk_ift hc6 hf
            refine wk_top (w := .int 63) (congrArg _ hc6) ?_
            refine lv_lookup (off := 102) (tgt := 113) hx hb d_P_readNext_11 (by decide) (by decide) (by decide) ?_
            refine lv_aload_n hx hb d_P_readNext_113 rfl (lv_at hl 1 rfl) ?_
            refine lv_iload_n hx hb d_P_readNext_114 rfl (lv_at hl 0 rfl) ?_
            have hPc := hP.sub (ws' := (rw_W h q g hm qm gm so sg sx I A M MB L)) [0, 1, 2, 3, 4, 5, 6, 7, 8, 9, 10, 11] rfl
            have hDc := hD.sub (ws' := (rw_W h q g hm qm gm so sg sx I A M MB L)) [0, 1, 2, 3, 4, 5, 6, 7, 8, 9, 10, 11] (by decide) rfl
            have hKc := hK.sub (tys' := (rw_T h q g hm qm gm so sg sx)) [0, 1, 2, 3, 4, 5, 6, 7, 8, 9] rfl
            have hFc := va_free (wc := (rw_W h q g hm qm gm so sg sx I A M MB L)) hD hS hA [0, 1, 2, 3, 4, 5, 6, 7, 8, 9, 10, 11] rfl
            cases hg1 : f_P_repeatPart sx I A M MB L (sx ((I 7)).toNatClampNeg) with
            | none => rw [hg1] at hf; cases hf
            | some z1 =>
              obtain ⟨r1, I1, A1, M1, MB1, L1⟩ := z1
              rw [hg1] at hf
              dsimp only [Option.bind_some] at hf
              refine va_callv (va_runV (As := [.int (sx ((I 7)).toNatClampNeg)]) (rest := []) ⟨hx, hb, hml, hown, hts⟩ (cm_P_repeatPart l dC dI h q g hm qm gm so sg sx _  I A M MB L (sx ((I 7)).toNatClampNeg) r1 I1 A1 M1 MB1 L1 hg1) (cwV 1 hts (gd_v lk_369 lk_370 lk_371 lk_349 lk_368) rfl rfl rfl (by decide +kernel) ⟨Nat.le_of_ble_eq_true rfl, Nat.le_of_ble_eq_true rfl⟩) ⟨fun a U g mk q => by obtain ⟨q0, q1, qP, qK, qD⟩ := q; exact ⟨q0, q1, qP, va_K.moved (u := U) (U := U.calling g mk a) (Vm.Alike.refl U.vm) qK, qD⟩, va_recv (ci := 2) (q0 := 0) hK hP rfl rfl, fun U hU hW => ⟨rfl, by rw [hU], by rw [hU]; exact hPc, va_K.moved hW.alike hKc, hDc.weaken (fun _ _ _ _ => trivial)⟩⟩ rfl rfl hl.1 rfl (lv_room (Nat.le_of_ble_eq_true rfl)) d_P_readNext_115 ⟨Nat.le_of_ble_eq_true rfl, Nat.le_of_ble_eq_true rfl⟩) hS (fun q _ h => hFc q h) hFc (fun u t H1 locs ht hvm hw hB hz1 hk1 hS => ?_)
              obtain ⟨hP1, hK1, hD1⟩ := hB
              rw [ht] at hP1
              obtain ⟨hP, hD⟩ := va_join (wr := (([] : List Nat).map (fun i => ((rw_W h q g hm qm gm so sg sx I A M MB L)).getD i (0, .inr (0, []))))) (w1 := (rw_W h q g hm qm gm so sg sx I1 A1 M1 MB1 L1)) hP hD [0, 1, 2, 3, 4, 5, 6, 7, 8, 9, 10, 11] [] rfl rfl (by decide) (by decide) hk1 hFc hP1 hD1
              generalize H1 = H at hP hS ⊢
              have hP := hP.sub (ws' := (rw_W h q g hm qm gm so sg sx I1 A1 M1 MB1 L1)) [0, 1, 2, 3, 4, 5, 6, 7, 8, 9, 10, 11] rfl
              have hD := hD.sub (ws' := (rw_W h q g hm qm gm so sg sx I1 A1 M1 MB1 L1)) [0, 1, 2, 3, 4, 5, 6, 7, 8, 9, 10, 11] (by decide) rfl
              refine lv_goto (tgt := 151) hx hb d_P_readNext_118 (by decide) ?_
              exact blk151 I1 A1 M1 MB1 L1 (upd (fun _ => 0) 1 (sx ((I 7)).toNatClampNeg)) (fun _ => 0) _ _ _ hf (lv_sub hl [1, 0] rfl) hP hD hS
          ·
            have hf := wk_iff hc6 hf
            by_cases hc7 : (sx ((I 7)).toNatClampNeg) = 91
            ·
              have hf := wk_ift hc7 hf
              refine wk_top (w := .int 91) (congrArg _ hc7) ?_
              refine lv_lookup (off := 110) (tgt := 121) hx hb d_P_readNext_11 (by decide) (by decide) (by decide) ?_
              refine lv_aload_n hx hb d_P_readNext_121 rfl (lv_at hl 1 rfl) ?_
              have hPc := hP.sub (ws' := (rw_W h q g hm qm gm so sg sx I A M MB L)) [0, 1, 2, 3, 4, 5, 6, 7, 8, 9, 10, 11] rfl
              have hDc := hD.sub (ws' := (rw_W h q g hm qm gm so sg sx I A M MB L)) [0, 1, 2, 3, 4, 5, 6, 7, 8, 9, 10, 11] (by decide) rfl
              have hKc := hK.sub (tys' := (rw_T h q g hm qm gm so sg sx)) [0, 1, 2, 3, 4, 5, 6, 7, 8, 9] rfl
              have hFc := va_free (wc := (rw_W h q g hm qm gm so sg sx I A M MB L)) hD hS hA [0, 1, 2, 3, 4, 5, 6, 7, 8, 9, 10, 11] rfl
              cases hg1 : f_P_readSet sx I A M MB L with
              | none => rw [hg1] at hf; cases hf
              | some z1 =>
                obtain ⟨r1, I1, A1, M1, MB1, L1⟩ := z1
                rw [hg1] at hf
                dsimp only [Option.bind_some] at hf
                refine va_callv (va_runV (As := []) (rest := []) ⟨hx, hb, hml, hown, hts⟩ (cm_P_readSet l dC dI h q g hm qm gm so sg sx _  I A M MB L r1 I1 A1 M1 MB1 L1 hg1) (cwV 0 hts (gd_v lk_389 lk_390 lk_391 lk_349 lk_388) rfl rfl rfl (by decide +kernel) ⟨Nat.le_of_ble_eq_true rfl, Nat.le_of_ble_eq_true rfl⟩) ⟨fun a U g mk q => by obtain ⟨q0, q1, qP, qK, qD⟩ := q; exact ⟨q0, q1, qP, va_K.moved (u := U) (U := U.calling g mk a) (Vm.Alike.refl U.vm) qK, qD⟩, va_recv (ci := 2) (q0 := 0) hK hP rfl rfl, fun U hU hW => ⟨rfl, by rw [hU], by rw [hU]; exact hPc, va_K.moved hW.alike hKc, hDc.weaken (fun _ _ _ _ => trivial)⟩⟩ rfl rfl hl.1 rfl (lv_room (Nat.le_of_ble_eq_true rfl)) d_P_readNext_122 ⟨Nat.le_of_ble_eq_true rfl, Nat.le_of_ble_eq_true rfl⟩) hS (fun q _ h => hFc q h) hFc (fun u t H1 locs ht hvm hw hB hz1 hk1 hS => ?_)
                obtain ⟨hP1, hK1, hD1⟩ := hB
                rw [ht] at hP1
                obtain ⟨hP, hD⟩ := va_join (wr := (([] : List Nat).map (fun i => ((rw_W h q g hm qm gm so sg sx I A M MB L)).getD i (0, .inr (0, []))))) (w1 := (rw_W h q g hm qm gm so sg sx I1 A1 M1 MB1 L1)) hP hD [0, 1, 2, 3, 4, 5, 6, 7, 8, 9, 10, 11] [] rfl rfl (by decide) (by decide) hk1 hFc hP1 hD1
                generalize H1 = H at hP hS ⊢
                have hP := hP.sub (ws' := (rw_W h q g hm qm gm so sg sx I1 A1 M1 MB1 L1)) [0, 1, 2, 3, 4, 5, 6, 7, 8, 9, 10, 11] rfl
                have hD := hD.sub (ws' := (rw_W h q g hm qm gm so sg sx I1 A1 M1 MB1 L1)) [0, 1, 2, 3, 4, 5, 6, 7, 8, 9, 10, 11] (by decide) rfl
                refine lv_goto (tgt := 151) hx hb d_P_readNext_125 (by decide) ?_
                exact blk151 I1 A1 M1 MB1 L1 (upd (fun _ => 0) 1 (sx ((I 7)).toNatClampNeg)) (fun _ => 0) _ _ _ hf (lv_sub hl [1, 0] rfl) hP hD hS
            ·
              have hf := wk_iff hc7 hf
              by_cases hc8 : (sx ((I 7)).toNatClampNeg) = 92
              ·
                have hf := wk_ift hc8 hf
                refine wk_top (w := .int 92) (congrArg _ hc8) ?_
                refine lv_lookup (off := 128) (tgt := 139) hx hb d_P_readNext_11 (by decide) (by decide) (by decide) ?_
                refine lv_aload_n hx hb d_P_readNext_139 rfl (lv_at hl 1 rfl) ?_
                have hPc := hP.sub (ws' := (rw_W h q g hm qm gm so sg sx I A M MB L)) [0, 1, 2, 3, 4, 5, 6, 7, 8, 9, 10, 11] rfl
                have hDc := hD.sub (ws' := (rw_W h q g hm qm gm so sg sx I A M MB L)) [0, 1, 2, 3, 4, 5, 6, 7, 8, 9, 10, 11] (by decide) rfl
                have hKc := hK.sub (tys' := (rw_T h q g hm qm gm so sg sx)) [0, 1, 2, 3, 4, 5, 6, 7, 8, 9] rfl
                have hFc := va_free (wc := (rw_W h q g hm qm gm so sg sx I A M MB L)) hD hS hA [0, 1, 2, 3, 4, 5, 6, 7, 8, 9, 10, 11] rfl
                cases hg1 : f_P_readEscaped sx I A M MB L with
                | none => rw [hg1] at hf; cases hf
                | some z1 =>
                  obtain ⟨r1, I1, A1, M1, MB1, L1⟩ := z1
                  rw [hg1] at hf
                  dsimp only [Option.bind_some] at hf
                  refine va_callv (va_runV (As := []) (rest := []) ⟨hx, hb, hml, hown, hts⟩ (cm_P_readEscaped l dC dI h q g hm qm gm so sg sx _  I A M MB L r1 I1 A1 M1 MB1 L1 hg1) (cwV 0 hts (gd_v lk_397 lk_398 lk_399 lk_349 lk_396) rfl rfl rfl (by decide +kernel) ⟨Nat.le_of_ble_eq_true rfl, Nat.le_of_ble_eq_true rfl⟩) ⟨fun a U g mk q => by obtain ⟨q0, q1, qP, qK, qD⟩ := q; exact ⟨q0, q1, qP, va_K.moved (u := U) (U := U.calling g mk a) (Vm.Alike.refl U.vm) qK, qD⟩, va_recv (ci := 2) (q0 := 0) hK hP rfl rfl, fun U hU hW => ⟨rfl, by rw [hU], by rw [hU]; exact hPc, va_K.moved hW.alike hKc, hDc.weaken (fun _ _ _ _ => trivial)⟩⟩ rfl rfl hl.1 rfl (lv_room (Nat.le_of_ble_eq_true rfl)) d_P_readNext_140 ⟨Nat.le_of_ble_eq_true rfl, Nat.le_of_ble_eq_true rfl⟩) hS (fun q _ h => hFc q h) hFc (fun u t H1 locs ht hvm hw hB hz1 hk1 hS => ?_)
                  obtain ⟨hP1, hK1, hD1⟩ := hB
                  rw [ht] at hP1
                  obtain ⟨hP, hD⟩ := va_join (wr := (([] : List Nat).map (fun i => ((rw_W h q g hm qm gm so sg sx I A M MB L)).getD i (0, .inr (0, []))))) (w1 := (rw_W h q g hm qm gm so sg sx I1 A1 M1 MB1 L1)) hP hD [0, 1, 2, 3, 4, 5, 6, 7, 8, 9, 10, 11] [] rfl rfl (by decide) (by decide) hk1 hFc hP1 hD1
                  generalize H1 = H at hP hS ⊢
                  have hP := hP.sub (ws' := (rw_W h q g hm qm gm so sg sx I1 A1 M1 MB1 L1)) [0, 1, 2, 3, 4, 5, 6, 7, 8, 9, 10, 11] rfl
                  have hD := hD.sub (ws' := (rw_W h q g hm qm gm so sg sx I1 A1 M1 MB1 L1)) [0, 1, 2, 3, 4, 5, 6, 7, 8, 9, 10, 11] (by decide) rfl
                  refine lv_goto (tgt := 151) hx hb d_P_readNext_143 (by decide) ?_
                  exact blk151 I1 A1 M1 MB1 L1 (upd (fun _ => 0) 1 (sx ((I 7)).toNatClampNeg)) (fun _ => 0) _ _ _ hf (lv_sub hl [1, 0] rfl) hP hD hS
              ·
                have hf := wk_iff hc8 hf
                by_cases hc9 : (sx ((I 7)).toNatClampNeg) = 93
                ·
                  have hf := wk_ift hc9 hf
                  refine wk_top (w := .int 93) (congrArg _ hc9) ?_
                  refine lv_lookup (off := 117) (tgt := 128) hx hb d_P_readNext_11 (by decide) (by decide) (by decide) ?_
                  refine lv_aload_n hx hb d_P_readNext_128 rfl (lv_at hl 1 rfl) ?_
                  refine lv_aload_n hx hb d_P_readNext_129 rfl (lv_at hl 1 rfl) ?_
                  refine va_get (D := (dC, dI)) (ci := 2) (v := .int (I 7)) (C := R_P) (T := F_P) (N := 13) hx hb hts (fun w h => List.mem_cons_of_mem _ (in_P w h)) hown hK hP 0 rfl rfl 7 (by decide) (hts _ (List.mem_cons_of_mem _ lk_329)) (fun _ h9 => h9) rfl d_P_readNext_130 ?_
                  refine va_put (D := (dC, dI)) (ci := 2) (v := .int (I 7)) (ty := .int) (C := R_P) (T := F_P) (N := 13) hx hb hts (fun w h => List.mem_cons_of_mem _ (in_P w h)) t_P tk_P n_P hown hK hP hD hS 0 rfl rfl 9 (by decide) (hts _ (List.mem_cons_of_mem _ lk_330)) (fun _ h9 => h9) rfl (by decide +kernel) rfl rfl (Nat.le_of_ble_eq_true rfl) d_P_readNext_133 (fun H locs hP hD hS => ?_)
                  obtain ⟨I1, hI1, hf⟩ := wk_letE hf
                  have hP : va_P (dC, dI) vwCl (rw_W h q g hm qm gm so sg sx I1 A M MB L) H := by rw [hI1]; exact hP
                  have hD : va_D B9 (rw_W h q g hm qm gm so sg sx I1 A M MB L) := by rw [hI1]; exact hD
                  clear hI1
                  refine lv_goto (tgt := 151) hx hb d_P_readNext_136 (by decide) ?_
                  exact blk151 I1 A M MB L (upd (fun _ => 0) 1 (sx ((I 7)).toNatClampNeg)) (fun _ => 0) _ _ _ hf (lv_sub hl [1, 0] rfl) hP hD hS
                ·
                  have hf := wk_iff hc9 hf
                  by_cases hc10 : (sx ((I 7)).toNatClampNeg) = 124
                  ·
                    have hf := wk_ift hc10 hf
                    refine wk_top (w := .int 124) (congrArg _ hc10) ?_
                    refine lv_lookup (off := 95) (tgt := 106) hx hb d_P_readNext_11 (by decide) (by decide) (by decide) ?_
                    refine lv_aload_n hx hb d_P_readNext_106 rfl (lv_at hl 1 rfl) ?_
                    have hPc := hP.sub (ws' := (rw_W h q g hm qm gm so sg sx I A M MB L)) [0, 1, 2, 3, 4, 5, 6, 7, 8, 9, 10, 11] rfl
                    have hDc := hD.sub (ws' := (rw_W h q g hm qm gm so sg sx I A M MB L)) [0, 1, 2, 3, 4, 5, 6, 7, 8, 9, 10, 11] (by decide) rfl
                    have hKc := hK.sub (tys' := (rw_T h q g hm qm gm so sg sx)) [0, 1, 2, 3, 4, 5, 6, 7, 8, 9] rfl
                    have hFc := va_free (wc := (rw_W h q g hm qm gm so sg sx I A M MB L)) hD hS hA [0, 1, 2, 3, 4, 5, 6, 7, 8, 9, 10, 11] rfl
                    cases hg1 : f_P_openRow sx I A M MB L with
                    | none => rw [hg1] at hf; cases hf
                    | some z1 =>
                      obtain ⟨r1, I1, A1, M1, MB1, L1⟩ := z1
                      rw [hg1] at hf
                      dsimp only [Option.bind_some] at hf
                      refine va_callv (va_runV (As := []) (rest := []) ⟨hx, hb, hml, hown, hts⟩ (cm_P_openRow l dC dI h q g hm qm gm so sg sx _  I A M MB L r1 I1 A1 M1 MB1 L1 hg1) (cwV 0 hts (gd_v lk_401 lk_402 lk_403 lk_349 lk_400) rfl rfl rfl (by decide +kernel) ⟨Nat.le_of_ble_eq_true rfl, Nat.le_of_ble_eq_true rfl⟩) ⟨fun a U g mk q => by obtain ⟨q0, q1, qP, qK, qD⟩ := q; exact ⟨q0, q1, qP, va_K.moved (u := U) (U := U.calling g mk a) (Vm.Alike.refl U.vm) qK, qD⟩, va_recv (ci := 2) (q0 := 0) hK hP rfl rfl, fun U hU hW => ⟨rfl, by rw [hU], by rw [hU]; exact hPc, va_K.moved hW.alike hKc, hDc.weaken (fun _ _ _ _ => trivial)⟩⟩ rfl rfl hl.1 rfl (lv_room (Nat.le_of_ble_eq_true rfl)) d_P_readNext_107 ⟨Nat.le_of_ble_eq_true rfl, Nat.le_of_ble_eq_true rfl⟩) hS (fun q _ h => hFc q h) hFc (fun u t H1 locs ht hvm hw hB hz1 hk1 hS => ?_)
                      obtain ⟨hP1, hK1, hD1⟩ := hB
                      rw [ht] at hP1
                      obtain ⟨hP, hD⟩ := va_join (wr := (([] : List Nat).map (fun i => ((rw_W h q g hm qm gm so sg sx I A M MB L)).getD i (0, .inr (0, []))))) (w1 := (rw_W h q g hm qm gm so sg sx I1 A1 M1 MB1 L1)) hP hD [0, 1, 2, 3, 4, 5, 6, 7, 8, 9, 10, 11] [] rfl rfl (by decide) (by decide) hk1 hFc hP1 hD1
                      generalize H1 = H at hP hS ⊢
                      have hP := hP.sub (ws' := (rw_W h q g hm qm gm so sg sx I1 A1 M1 MB1 L1)) [0, 1, 2, 3, 4, 5, 6, 7, 8, 9, 10, 11] rfl
                      have hD := hD.sub (ws' := (rw_W h q g hm qm gm so sg sx I1 A1 M1 MB1 L1)) [0, 1, 2, 3, 4, 5, 6, 7, 8, 9, 10, 11] (by decide) rfl
                      refine lv_goto (tgt := 151) hx hb d_P_readNext_110 (by decide) ?_
                      exact blk151 I1 A1 M1 MB1 L1 (upd (fun _ => 0) 1 (sx ((I 7)).toNatClampNeg)) (fun _ => 0) _ _ _ hf (lv_sub hl [1, 0] rfl) hP hD hS
                  ·
                    have hf := wk_iff hc10 hf
                    refine lv_lookup (off := 135) (tgt := 146) hx hb d_P_readNext_11 (by decide) (by refine (lv_osw hc2 (by decide)).trans ?_; refine (lv_osw hc3 (by decide)).trans ?_; refine (lv_osw hc4 (by decide)).trans ?_; refine (lv_osw hc5 (by decide)).trans ?_; refine (lv_osw hc6 (by decide)).trans ?_; refine (lv_osw hc7 (by decide)).trans ?_; refine (lv_osw hc8 (by decide)).trans ?_; refine (lv_osw hc9 (by decide)).trans ?_; refine (lv_osw hc10 (by decide)).trans ?_; rfl) (by decide) ?_
                    refine lv_aload_n hx hb d_P_readNext_146 rfl (lv_at hl 1 rfl) ?_
                    refine lv_iload_n hx hb d_P_readNext_147 rfl (lv_at hl 0 rfl) ?_
                    have hPc := hP.sub (ws' := (rw_W h q g hm qm gm so sg sx I A M MB L)) [0, 1, 2, 3, 4, 5, 6, 7, 8, 9, 10, 11] rfl
                    have hDc := hD.sub (ws' := (rw_W h q g hm qm gm so sg sx I A M MB L)) [0, 1, 2, 3, 4, 5, 6, 7, 8, 9, 10, 11] (by decide) rfl
                    have hKc := hK.sub (tys' := (rw_T h q g hm qm gm so sg sx)) [0, 1, 2, 3, 4, 5, 6, 7, 8, 9] rfl
                    have hFc := va_free (wc := (rw_W h q g hm qm gm so sg sx I A M MB L)) hD hS hA [0, 1, 2, 3, 4, 5, 6, 7, 8, 9, 10, 11] rfl
                    cases hg1 : f_P_readSingle sx I A M MB L (sx ((I 7)).toNatClampNeg) with
                    | none => rw [hg1] at hf; cases hf
                    | some z1 =>
                      obtain ⟨r1, I1, A1, M1, MB1, L1⟩ := z1
                      rw [hg1] at hf
                      dsimp only [Option.bind_some] at hf
                      refine va_callv (va_runV (As := [.int (sx ((I 7)).toNatClampNeg)]) (rest := []) ⟨hx, hb, hml, hown, hts⟩ (cm_P_readSingle l dC dI h q g hm qm gm so sg sx _  I A M MB L (sx ((I 7)).toNatClampNeg) r1 I1 A1 M1 MB1 L1 hg1) (cwV 1 hts (gd_v lk_409 lk_410 lk_411 lk_349 lk_408) rfl rfl rfl (by decide +kernel) ⟨Nat.le_of_ble_eq_true rfl, Nat.le_of_ble_eq_true rfl⟩) ⟨fun a U g mk q => by obtain ⟨q0, q1, qP, qK, qD⟩ := q; exact ⟨q0, q1, qP, va_K.moved (u := U) (U := U.calling g mk a) (Vm.Alike.refl U.vm) qK, qD⟩, va_recv (ci := 2) (q0 := 0) hK hP rfl rfl, fun U hU hW => ⟨rfl, by rw [hU], by rw [hU]; exact hPc, va_K.moved hW.alike hKc, hDc.weaken (fun _ _ _ _ => trivial)⟩⟩ rfl rfl hl.1 rfl (lv_room (Nat.le_of_ble_eq_true rfl)) d_P_readNext_148 ⟨Nat.le_of_ble_eq_true rfl, Nat.le_of_ble_eq_true rfl⟩) hS (fun q _ h => hFc q h) hFc (fun u t H1 locs ht hvm hw hB hz1 hk1 hS => ?_)
                      obtain ⟨hP1, hK1, hD1⟩ := hB
                      rw [ht] at hP1
                      obtain ⟨hP, hD⟩ := va_join (wr := (([] : List Nat).map (fun i => ((rw_W h q g hm qm gm so sg sx I A M MB L)).getD i (0, .inr (0, []))))) (w1 := (rw_W h q g hm qm gm so sg sx I1 A1 M1 MB1 L1)) hP hD [0, 1, 2, 3, 4, 5, 6, 7, 8, 9, 10, 11] [] rfl rfl (by decide) (by decide) hk1 hFc hP1 hD1
                      generalize H1 = H at hP hS ⊢
                      have hP := hP.sub (ws' := (rw_W h q g hm qm gm so sg sx I1 A1 M1 MB1 L1)) [0, 1, 2, 3, 4, 5, 6, 7, 8, 9, 10, 11] rfl
                      have hD := hD.sub (ws' := (rw_W h q g hm qm gm so sg sx I1 A1 M1 MB1 L1)) [0, 1, 2, 3, 4, 5, 6, 7, 8, 9, 10, 11] (by decide) rfl
                      exact blk151 I1 A1 M1 MB1 L1 (upd (fun _ => 0) 1 (sx ((I 7)).toNatClampNeg)) (fun _ => 0) _ _ _ hf (lv_sub hl [1, 0] rfl) hP hD hS

set_option maxHeartbeats 8000000 in
set_option maxRecDepth 100000 in
theorem cm_P_finish (l : Launch) (dC : Nat → ClassId) (dI : Nat → Nat → Nat) (h : Nat) (q : Nat → Nat) (g : Nat → ClassId) (hm : Nat) (qm : Nat → Nat) (gm : Nat → ClassId) (so : Nat) (sg : ClassId) (sx : Nat → Int32) (sz : Nat) (I : MI) (A : MA) (M : MI) (MB : MA) (L : ML) (r : Int32) (I' : MI) (A' : MA) (M' : MI) (MB' : MA) (L' : ML) (hf : f_P_finish sx I A M MB L  = some (r, I', A', M', MB', L')) : Met l y_P_finish w_P_finish ({ frames := 0, cells := 0, slots := 0, locals := 0 }) (va_Pc [.ref h] (fun U => U.heap.size = sz ∧ va_P (dC, dI) vwCl (rw_W h q g hm qm gm so sg sx I A M MB L) U.heap ∧ va_K (dC, dI) vwCl (rw_T h q g hm qm gm so sg sx) U ∧ va_D (fun _ => True) (rw_W h q g hm qm gm so sg sx I A M MB L))) (va_Qv (fun (u : Unit) => u = u) (fun (_ : Unit) t => va_P (dC, dI) vwCl (rw_W h q g hm qm gm so sg sx I' A' M' MB' L') t.heap ∧ va_K (dC, dI) vwCl (rw_T h q g hm qm gm so sg sx) t ∧ va_D (va_A (rw_W h q g hm qm gm so sg sx I A M MB L) sz) (rw_W h q g hm qm gm so sg sx I' A' M' MB' L')) (va_A (rw_W h q g hm qm gm so sg sx I A M MB L) sz)) 0 0 (va_A (rw_W h q g hm qm gm so sg sx I A M MB L) sz) := by
  refine Met.ofW (cc := prog_3_method_4_code) (maxL := 1) (ret := none) (by decide) rfl ?_
  intro p e s m args below meth c s₁ B hml hv
  obtain ⟨rfl, hsz, hP, hK, hD0⟩ := hv
  have hx := B.exec
  have hb := B.bytes
  have hr := B.returns
  have hts := atoms_spec (ws := w_P_finish) B.pre
  have hown : s.vm.findClass "DraftTree$PatternReader" = some m.cls := findClass_of_methodNamed B.named
  have hlocks := B.notSynchronized
  subst hsz
  have hD := hD0.self (sz := s.heap.size)
  generalize hAe : va_A (rw_W h q g hm qm gm so sg sx I A M MB L) s.heap.size = B9 at hD ⊢
  have hA : ∀ q : Nat, s.heap.size ≤ q → B9 q := fun q h => by rw [← hAe]; exact Or.inr h
  clear hAe
  have hS : va_S B9 s.heap s.heap [] := va_S.rf
  have hl := lv_entry ([.ref h]) (n := 1) (Nat.le_of_ble_eq_true rfl)
  rw [lg_entry_eq]
  generalize (lg_sl ([.ref h]) ++ List.replicate (1 - (lg_sl ([.ref h])).length) Slot.unset).toArray = ls at hl ⊢
  have hl : lv_has ls 1 [(0, .ref h)] := hl
  unfold f_P_finish at hf
  refine lv_aload_n hx hb d_P_finish_0 rfl (lv_at hl 0 rfl) ?_
  refine va_get (D := (dC, dI)) (ci := 2) (v := .ref hm) (C := R_P) (T := F_P) (N := 13) hx hb hts (fun w h => List.mem_cons_of_mem _ (in_P w h)) hown hK hP 0 rfl rfl 4 (by decide) (hts _ (List.mem_cons_of_mem _ lk_331)) (fun _ h9 => h9) rfl d_P_finish_1 ?_
  refine va_get (D := (dC, dI)) (ci := 3) (v := .ref (qm 1)) (C := R_A) (T := F_A) (N := 10) hx hb hts (fun w h => List.mem_cons_of_mem _ (in_A w h)) hown hK hP 5 rfl rfl 1 (by decide) (hts _ (List.mem_cons_of_mem _ lk_358)) (fun _ h9 => h9) rfl d_P_finish_4 ?_
  refine lv_aload_n hx hb d_P_finish_7 rfl (lv_at hl 0 rfl) ?_
  refine va_get (D := (dC, dI)) (ci := 2) (v := .int (I 12)) (C := R_P) (T := F_P) (N := 13) hx hb hts (fun w h => List.mem_cons_of_mem _ (in_P w h)) hown hK hP 0 rfl rfl 12 (by decide) (hts _ (List.mem_cons_of_mem _ lk_344)) (fun _ h9 => h9) rfl d_P_finish_8 ?_
  refine lv_aload_n hx hb d_P_finish_11 rfl (lv_at hl 0 rfl) ?_
  refine va_get (D := (dC, dI)) (ci := 2) (v := .ref (q 1)) (C := R_P) (T := F_P) (N := 13) hx hb hts (fun w h => List.mem_cons_of_mem _ (in_P w h)) hown hK hP 0 rfl rfl 1 (by decide) (hts _ (List.mem_cons_of_mem _ lk_339)) (fun _ h9 => h9) rfl d_P_finish_12 ?_
  refine lv_iconst (v := 0) hx hb d_P_finish_15 (by decide) ?_
  obtain ⟨hc1, hf⟩ := wk_if hf
  refine va_iald hx hb hK hP 2 1 rfl rfl (wk_inb_ok hc1) d_P_finish_16 ?_
  obtain ⟨hc2, hf⟩ := wk_if hf
  refine va_iast hx hb hK hP hD hS 7 5 rfl rfl (wk_inb_ok hc2) d_P_finish_17 (fun H locs hP hD hS => ?_)
  obtain ⟨MB1, hMB1, hf⟩ := wk_letE hf
  have hP : va_P (dC, dI) vwCl (rw_W h q g hm qm gm so sg sx I A M MB1 L) H := by rw [hMB1]; exact hP
  have hD : va_D B9 (rw_W h q g hm qm gm so sg sx I A M MB1 L) := by rw [hMB1]; exact hD
  clear hMB1
  refine lv_aload_n hx hb d_P_finish_18 rfl (lv_at hl 0 rfl) ?_
  refine va_get (D := (dC, dI)) (ci := 2) (v := .ref hm) (C := R_P) (T := F_P) (N := 13) hx hb hts (fun w h => List.mem_cons_of_mem _ (in_P w h)) hown hK hP 0 rfl rfl 4 (by decide) (hts _ (List.mem_cons_of_mem _ lk_331)) (fun _ h9 => h9) rfl d_P_finish_19 ?_
  refine lv_aload_n hx hb d_P_finish_22 rfl (lv_at hl 0 rfl) ?_
  refine va_get (D := (dC, dI)) (ci := 2) (v := .ref (q 0)) (C := R_P) (T := F_P) (N := 13) hx hb hts (fun w h => List.mem_cons_of_mem _ (in_P w h)) hown hK hP 0 rfl rfl 0 (by decide) (hts _ (List.mem_cons_of_mem _ lk_338)) (fun _ h9 => h9) rfl d_P_finish_23 ?_
  refine lv_iconst (v := 0) hx hb d_P_finish_26 (by decide) ?_
  obtain ⟨hc3, hf⟩ := wk_if hf
  refine va_iald hx hb hK hP 1 0 rfl rfl (wk_inb_ok hc3) d_P_finish_27 ?_
  refine va_put (D := (dC, dI)) (ci := 3) (v := .int (A 0 (0 : Int32).toNatClampNeg)) (ty := .int) (C := R_A) (T := F_A) (N := 10) hx hb hts (fun w h => List.mem_cons_of_mem _ (in_A w h)) t_A tk_A n_A hown hK hP hD hS 5 rfl rfl 6 (by decide) (hts _ (List.mem_cons_of_mem _ lk_416)) (fun _ h9 => h9) rfl (by decide +kernel) rfl rfl (Nat.le_of_ble_eq_true rfl) d_P_finish_28 (fun H locs hP hD hS => ?_)
  obtain ⟨M2, hM2, hf⟩ := wk_letE hf
  have hP : va_P (dC, dI) vwCl (rw_W h q g hm qm gm so sg sx I A M2 MB1 L) H := by rw [hM2]; exact hP
  have hD : va_D B9 (rw_W h q g hm qm gm so sg sx I A M2 MB1 L) := by rw [hM2]; exact hD
  clear hM2
  refine lv_aload_n hx hb d_P_finish_31 rfl (lv_at hl 0 rfl) ?_
  refine va_get (D := (dC, dI)) (ci := 2) (v := .ref hm) (C := R_P) (T := F_P) (N := 13) hx hb hts (fun w h => List.mem_cons_of_mem _ (in_P w h)) hown hK hP 0 rfl rfl 4 (by decide) (hts _ (List.mem_cons_of_mem _ lk_331)) (fun _ h9 => h9) rfl d_P_finish_32 ?_
  refine lv_aload_n hx hb d_P_finish_35 rfl (lv_at hl 0 rfl) ?_
  refine va_get (D := (dC, dI)) (ci := 2) (v := .ref (q 1)) (C := R_P) (T := F_P) (N := 13) hx hb hts (fun w h => List.mem_cons_of_mem _ (in_P w h)) hown hK hP 0 rfl rfl 1 (by decide) (hts _ (List.mem_cons_of_mem _ lk_339)) (fun _ h9 => h9) rfl d_P_finish_36 ?_
  refine lv_iconst (v := 0) hx hb d_P_finish_39 (by decide) ?_
  obtain ⟨hc4, hf⟩ := wk_if hf
  refine va_iald hx hb hK hP 2 1 rfl rfl (wk_inb_ok hc4) d_P_finish_40 ?_
  refine va_put (D := (dC, dI)) (ci := 3) (v := .int (A 1 (0 : Int32).toNatClampNeg)) (ty := .int) (C := R_A) (T := F_A) (N := 10) hx hb hts (fun w h => List.mem_cons_of_mem _ (in_A w h)) t_A tk_A n_A hown hK hP hD hS 5 rfl rfl 7 (by decide) (hts _ (List.mem_cons_of_mem _ lk_417)) (fun _ h9 => h9) rfl (by decide +kernel) rfl rfl (Nat.le_of_ble_eq_true rfl) d_P_finish_41 (fun H locs hP hD hS => ?_)
  obtain ⟨M3, hM3, hf⟩ := wk_letE hf
  have hP : va_P (dC, dI) vwCl (rw_W h q g hm qm gm so sg sx I A M3 MB1 L) H := by rw [hM3]; exact hP
  have hD : va_D B9 (rw_W h q g hm qm gm so sg sx I A M3 MB1 L) := by rw [hM3]; exact hD
  clear hM3
  obtain ⟨e0, e1, e2, e3, e4, e5⟩ := wk_inj5 hf
  subst e0
  subst e1
  subst e2
  subst e3
  subst e4
  subst e5
  exact W.vret hx hb hr (fun t ht hW => ⟨⟨(), rfl, rfl, by rw [ht]; exact hP, va_K.moved hW.alike hK, hD⟩, hS.F ht⟩) hS.2.2 d_P_finish_44

set_option maxHeartbeats 8000000 in
set_option maxRecDepth 100000 in
theorem cm_P_read (l : Launch) (dC : Nat → ClassId) (dI : Nat → Nat → Nat) (h : Nat) (q : Nat → Nat) (g : Nat → ClassId) (hm : Nat) (qm : Nat → Nat) (gm : Nat → ClassId) (so : Nat) (sg : ClassId) (sx : Nat → Int32) (sf : Value) (sz : Nat) (I : MI) (A : MA) (M : MI) (MB : MA) (L : ML) (k2 : Int32) (r : Int32) (I' : MI) (A' : MA) (M' : MI) (MB' : MA) (L' : ML) (hf : f_P_read sx I A M MB L  k2 = some (r, I', A', M', MB', L')) : Met l y_P_read w_P_read ({ frames := 5, cells := 0, slots := 0, locals := 108 }) (va_Pc [.ref h, .ref so, .int k2] (fun U => U.heap.size = sz ∧ va_P (dC, dI) vwCl (rq_W h q g hm qm gm so sg sx sf I A M MB L) U.heap ∧ va_K (dC, dI) vwCl (rq_T h q g hm qm gm so sg sx sf) U ∧ va_D (fun _ => True) (rq_W h q g hm qm gm so sg sx sf I A M MB L))) (va_Qi (fun (r9 : Int32) (_ : Unit) => r9 = r) (fun (_ : Unit) t => va_P (dC, dI) vwCl (rw_W h q g hm qm gm so sg sx I' A' M' MB' L') t.heap ∧ va_K (dC, dI) vwCl (rq_T h q g hm qm gm so sg sx sf) t ∧ va_D (va_A (rq_W h q g hm qm gm so sg sx sf I A M MB L) sz) (rw_W h q g hm qm gm so sg sx I' A' M' MB' L')) (va_A (rq_W h q g hm qm gm so sg sx sf I A M MB L) sz)) 0 0 (va_A (rq_W h q g hm qm gm so sg sx sf I A M MB L) sz) := by
  refine Met.ofW (cc := prog_3_method_3_code) (maxL := 4) (ret := (some .int)) (by decide) rfl ?_
  intro p e s m args below meth c s₁ B hml hv
  obtain ⟨rfl, hsz, hP, hK, hD0⟩ := hv
  have hx := B.exec
  have hb := B.bytes
  have hr := B.returns
  have hts := atoms_spec (ws := w_P_read) B.pre
  have hown : s.vm.findClass "DraftTree$PatternReader" = some m.cls := findClass_of_methodNamed B.named
  have hlocks := B.notSynchronized
  subst hsz
  have hD := hD0.self (sz := s.heap.size)
  generalize hAe : va_A (rq_W h q g hm qm gm so sg sx sf I A M MB L) s.heap.size = B9 at hD ⊢
  have hA : ∀ q : Nat, s.heap.size ≤ q → B9 q := fun q h => by rw [← hAe]; exact Or.inr h
  clear hAe
  have hS : va_S B9 s.heap s.heap [] := va_S.rf
  have hl := lv_entry ([.ref h, .ref so, .int k2]) (n := 4) (Nat.le_of_ble_eq_true rfl)
  rw [lg_entry_eq]
  generalize (lg_sl ([.ref h, .ref so, .int k2]) ++ List.replicate (4 - (lg_sl ([.ref h, .ref so, .int k2])).length) Slot.unset).toArray = ls at hl ⊢
  have hl : lv_has ls 4 [(0, .ref h), (1, .ref so), (2, .int k2)] := hl
  have blk112 : ∀ (rc : Nat → MI → MA → MI → MA → ML → (Nat → Int32) → (Nat → Int64) → Option (Int32 × MI × MA × MI × MA × ML)) (hrc40 : ∀ (I : MI) (A : MA) (M : MI) (MB : MA) (L : ML) (X : Nat → Int32) (Y : Nat → Int64) (ls : Array Slot) (H : Heap) (locs : List Loc), rc 40 I A M MB L X Y = some (r, I', A', M', MB', L') → lv_has ls 4 [(0, .ref h), (1, .ref so), (2, .int (X 2)), (3, .int (X 3))] → va_P (dC, dI) vwCl (rw_W h q g hm qm gm so sg sx I A M MB L) H → va_D B9 (rw_W h q g hm qm gm so sg sx I A M MB L) → va_S B9 s.heap H locs → W p l e (headSpec w_P_read ({ frames := 5, cells := 0, slots := 0, locals := 108 })).room s m ([.ref h, .ref so, .int k2] : List Value).toArray below meth c H locs 0 0 (MQ below (va_Qi (fun (r9 : Int32) (_ : Unit) => r9 = r) (fun (_ : Unit) t => va_P (dC, dI) vwCl (rw_W h q g hm qm gm so sg sx I' A' M' MB' L') t.heap ∧ va_K (dC, dI) vwCl (rq_T h q g hm qm gm so sg sx sf) t ∧ va_D B9 (rw_W h q g hm qm gm so sg sx I' A' M' MB' L')) B9) ([.ref h, .ref so, .int k2] : List Value).toArray s 0 0 B9) (F0 m 40 ls [])), ∀ (I : MI) (A : MA) (M : MI) (MB : MA) (L : ML) (X : Nat → Int32) (Y : Nat → Int64) (ls : Array Slot) (H : Heap) (locs : List Loc), f_P_read_112 sx rc I A M MB L X Y = some (r, I', A', M', MB', L') → lv_has ls 4 [(0, .ref h), (1, .ref so), (2, .int (X 2)), (3, .int (X 3))] → va_P (dC, dI) vwCl (rw_W h q g hm qm gm so sg sx I A M MB L) H → va_D B9 (rw_W h q g hm qm gm so sg sx I A M MB L) → va_S B9 s.heap H locs → W p l e (headSpec w_P_read ({ frames := 5, cells := 0, slots := 0, locals := 108 })).room s m ([.ref h, .ref so, .int k2] : List Value).toArray below meth c H locs 0 0 (MQ below (va_Qi (fun (r9 : Int32) (_ : Unit) => r9 = r) (fun (_ : Unit) t => va_P (dC, dI) vwCl (rw_W h q g hm qm gm so sg sx I' A' M' MB' L') t.heap ∧ va_K (dC, dI) vwCl (rq_T h q g hm qm gm so sg sx sf) t ∧ va_D B9 (rw_W h q g hm qm gm so sg sx I' A' M' MB' L')) B9) ([.ref h, .ref so, .int k2] : List Value).toArray s 0 0 B9) (F0 m 112 ls []) := by
    intro rc hrc40 I A M MB L X Y ls H locs hf hl hP hD hS
    unfold f_P_read_112 at hf
    refine lv_aload_n hx hb d_P_read_112 rfl (lv_at hl 0 rfl) ?_
    refine va_get (D := (dC, dI)) (ci := 2) (v := .int (I 9)) (C := R_P) (T := F_P) (N := 13) hx hb hts (fun w h => List.mem_cons_of_mem _ (in_P w h)) hown hK hP 0 rfl rfl 9 (by decide) (hts _ (List.mem_cons_of_mem _ lk_330)) (fun _ h9 => h9) rfl d_P_read_113 ?_
    obtain ⟨e0, e1, e2, e3, e4, e5⟩ := wk_inj5 hf
    subst e0
    subst e1
    subst e2
    subst e3
    subst e4
    subst e5
    exact W.iret (v := (I 9)) hx hb hr (fun t ht hW => ⟨⟨(I 9), (), rfl, rfl, by rw [ht]; exact hP, va_K.moved hW.alike hK, hD⟩, hS.F ht⟩) hS.2.2 d_P_read_116
  have blk100 : ∀ (rc : Nat → MI → MA → MI → MA → ML → (Nat → Int32) → (Nat → Int64) → Option (Int32 × MI × MA × MI × MA × ML)) (hrc40 : ∀ (I : MI) (A : MA) (M : MI) (MB : MA) (L : ML) (X : Nat → Int32) (Y : Nat → Int64) (ls : Array Slot) (H : Heap) (locs : List Loc), rc 40 I A M MB L X Y = some (r, I', A', M', MB', L') → lv_has ls 4 [(0, .ref h), (1, .ref so), (2, .int (X 2)), (3, .int (X 3))] → va_P (dC, dI) vwCl (rw_W h q g hm qm gm so sg sx I A M MB L) H → va_D B9 (rw_W h q g hm qm gm so sg sx I A M MB L) → va_S B9 s.heap H locs → W p l e (headSpec w_P_read ({ frames := 5, cells := 0, slots := 0, locals := 108 })).room s m ([.ref h, .ref so, .int k2] : List Value).toArray below meth c H locs 0 0 (MQ below (va_Qi (fun (r9 : Int32) (_ : Unit) => r9 = r) (fun (_ : Unit) t => va_P (dC, dI) vwCl (rw_W h q g hm qm gm so sg sx I' A' M' MB' L') t.heap ∧ va_K (dC, dI) vwCl (rq_T h q g hm qm gm so sg sx sf) t ∧ va_D B9 (rw_W h q g hm qm gm so sg sx I' A' M' MB' L')) B9) ([.ref h, .ref so, .int k2] : List Value).toArray s 0 0 B9) (F0 m 40 ls [])), ∀ (I : MI) (A : MA) (M : MI) (MB : MA) (L : ML) (X : Nat → Int32) (Y : Nat → Int64) (ls : Array Slot) (H : Heap) (locs : List Loc), f_P_read_100 sx rc I A M MB L X Y = some (r, I', A', M', MB', L') → lv_has ls 4 [(0, .ref h), (1, .ref so), (2, .int (X 2)), (3, .int (X 3))] → va_P (dC, dI) vwCl (rw_W h q g hm qm gm so sg sx I A M MB L) H → va_D B9 (rw_W h q g hm qm gm so sg sx I A M MB L) → va_S B9 s.heap H locs → W p l e (headSpec w_P_read ({ frames := 5, cells := 0, slots := 0, locals := 108 })).room s m ([.ref h, .ref so, .int k2] : List Value).toArray below meth c H locs 0 0 (MQ below (va_Qi (fun (r9 : Int32) (_ : Unit) => r9 = r) (fun (_ : Unit) t => va_P (dC, dI) vwCl (rw_W h q g hm qm gm so sg sx I' A' M' MB' L') t.heap ∧ va_K (dC, dI) vwCl (rq_T h q g hm qm gm so sg sx sf) t ∧ va_D B9 (rw_W h q g hm qm gm so sg sx I' A' M' MB' L')) B9) ([.ref h, .ref so, .int k2] : List Value).toArray s 0 0 B9) (F0 m 100 ls []) := by
    intro rc hrc40 I A M MB L X Y ls H locs hf hl hP hD hS
    unfold f_P_read_100 at hf
    refine lv_aload_n hx hb d_P_read_100 rfl (lv_at hl 0 rfl) ?_
    refine va_get (D := (dC, dI)) (ci := 2) (v := .int (I 9)) (C := R_P) (T := F_P) (N := 13) hx hb hts (fun w h => List.mem_cons_of_mem _ (in_P w h)) hown hK hP 0 rfl rfl 9 (by decide) (hts _ (List.mem_cons_of_mem _ lk_330)) (fun _ h9 => h9) rfl d_P_read_101 ?_
    refine lv_iconst (v := (-1)) hx hb d_P_read_104 (by decide) ?_
    refine lv_icmp_ne (tgt := 112) hx hb d_P_read_105 (by decide) (fun hc1 => ?_) (fun hc1 => ?_)
    ·
      have hf := wk_iff hc1 hf
      exact blk112 rc hrc40 I A M MB L X Y _ _ _ hf (lv_sub hl [0, 1, 2, 3] rfl) hP hD hS
    ·
      have hf := wk_ift hc1 hf
      refine lv_aload_n hx hb d_P_read_108 rfl (lv_at hl 0 rfl) ?_
      have hPc := hP.sub (ws' := (rw_W h q g hm qm gm so sg sx I A M MB L)) [0, 1, 2, 3, 4, 5, 6, 7, 8, 9, 10, 11] rfl
      have hDc := hD.sub (ws' := (rw_W h q g hm qm gm so sg sx I A M MB L)) [0, 1, 2, 3, 4, 5, 6, 7, 8, 9, 10, 11] (by decide) rfl
      have hKc := hK.sub (tys' := (rw_T h q g hm qm gm so sg sx)) [0, 1, 2, 3, 4, 5, 6, 7, 8, 9] rfl
      have hFc := va_free (wc := (rw_W h q g hm qm gm so sg sx I A M MB L)) hD hS hA [0, 1, 2, 3, 4, 5, 6, 7, 8, 9, 10, 11] rfl
      cases hg1 : f_P_finish sx I A M MB L with
      | none => rw [hg1] at hf; cases hf
      | some z1 =>
        obtain ⟨r1, I1, A1, M1, MB1, L1⟩ := z1
        rw [hg1] at hf
        dsimp only [Option.bind_some] at hf
        refine va_callv (va_runV (As := []) (rest := []) ⟨hx, hb, hml, hown, hts⟩ (cm_P_finish l dC dI h q g hm qm gm so sg sx _  I A M MB L r1 I1 A1 M1 MB1 L1 hg1) (cwV 0 hts (gd_v lk_419 lk_420 lk_421 lk_349 lk_418) rfl rfl rfl (by decide +kernel) ⟨Nat.le_of_ble_eq_true rfl, Nat.le_of_ble_eq_true rfl⟩) ⟨fun a U g mk q => by obtain ⟨q0, q1, qP, qK, qD⟩ := q; exact ⟨q0, q1, qP, va_K.moved (u := U) (U := U.calling g mk a) (Vm.Alike.refl U.vm) qK, qD⟩, va_recv (ci := 2) (q0 := 0) hK hP rfl rfl, fun U hU hW => ⟨rfl, by rw [hU], by rw [hU]; exact hPc, va_K.moved hW.alike hKc, hDc.weaken (fun _ _ _ _ => trivial)⟩⟩ rfl rfl hl.1 rfl (lv_room (Nat.le_of_ble_eq_true rfl)) d_P_read_109 ⟨Nat.le_of_ble_eq_true rfl, Nat.le_of_ble_eq_true rfl⟩) hS (fun q _ h => hFc q h) hFc (fun u t H1 locs ht hvm hw hB hz1 hk1 hS => ?_)
        obtain ⟨hP1, hK1, hD1⟩ := hB
        rw [ht] at hP1
        obtain ⟨hP, hD⟩ := va_join (wr := (([] : List Nat).map (fun i => ((rw_W h q g hm qm gm so sg sx I A M MB L)).getD i (0, .inr (0, []))))) (w1 := (rw_W h q g hm qm gm so sg sx I1 A1 M1 MB1 L1)) hP hD [0, 1, 2, 3, 4, 5, 6, 7, 8, 9, 10, 11] [] rfl rfl (by decide) (by decide) hk1 hFc hP1 hD1
        generalize H1 = H at hP hS ⊢
        have hP := hP.sub (ws' := (rw_W h q g hm qm gm so sg sx I1 A1 M1 MB1 L1)) [0, 1, 2, 3, 4, 5, 6, 7, 8, 9, 10, 11] rfl
        have hD := hD.sub (ws' := (rw_W h q g hm qm gm so sg sx I1 A1 M1 MB1 L1)) [0, 1, 2, 3, 4, 5, 6, 7, 8, 9, 10, 11] (by decide) rfl
        exact blk112 rc hrc40 I1 A1 M1 MB1 L1 X Y _ _ _ hf (lv_sub hl [0, 1, 2, 3] rfl) hP hD hS
  have blk77 : ∀ (rc : Nat → MI → MA → MI → MA → ML → (Nat → Int32) → (Nat → Int64) → Option (Int32 × MI × MA × MI × MA × ML)) (hrc40 : ∀ (I : MI) (A : MA) (M : MI) (MB : MA) (L : ML) (X : Nat → Int32) (Y : Nat → Int64) (ls : Array Slot) (H : Heap) (locs : List Loc), rc 40 I A M MB L X Y = some (r, I', A', M', MB', L') → lv_has ls 4 [(0, .ref h), (1, .ref so), (2, .int (X 2)), (3, .int (X 3))] → va_P (dC, dI) vwCl (rw_W h q g hm qm gm so sg sx I A M MB L) H → va_D B9 (rw_W h q g hm qm gm so sg sx I A M MB L) → va_S B9 s.heap H locs → W p l e (headSpec w_P_read ({ frames := 5, cells := 0, slots := 0, locals := 108 })).room s m ([.ref h, .ref so, .int k2] : List Value).toArray below meth c H locs 0 0 (MQ below (va_Qi (fun (r9 : Int32) (_ : Unit) => r9 = r) (fun (_ : Unit) t => va_P (dC, dI) vwCl (rw_W h q g hm qm gm so sg sx I' A' M' MB' L') t.heap ∧ va_K (dC, dI) vwCl (rq_T h q g hm qm gm so sg sx sf) t ∧ va_D B9 (rw_W h q g hm qm gm so sg sx I' A' M' MB' L')) B9) ([.ref h, .ref so, .int k2] : List Value).toArray s 0 0 B9) (F0 m 40 ls [])), ∀ (I : MI) (A : MA) (M : MI) (MB : MA) (L : ML) (X : Nat → Int32) (Y : Nat → Int64) (ls : Array Slot) (H : Heap) (locs : List Loc), f_P_read_77 sx rc I A M MB L X Y = some (r, I', A', M', MB', L') → lv_has ls 4 [(0, .ref h), (1, .ref so), (2, .int (X 2)), (3, .int (X 3))] → va_P (dC, dI) vwCl (rw_W h q g hm qm gm so sg sx I A M MB L) H → va_D B9 (rw_W h q g hm qm gm so sg sx I A M MB L) → va_S B9 s.heap H locs → W p l e (headSpec w_P_read ({ frames := 5, cells := 0, slots := 0, locals := 108 })).room s m ([.ref h, .ref so, .int k2] : List Value).toArray below meth c H locs 0 0 (MQ below (va_Qi (fun (r9 : Int32) (_ : Unit) => r9 = r) (fun (_ : Unit) t => va_P (dC, dI) vwCl (rw_W h q g hm qm gm so sg sx I' A' M' MB' L') t.heap ∧ va_K (dC, dI) vwCl (rq_T h q g hm qm gm so sg sx sf) t ∧ va_D B9 (rw_W h q g hm qm gm so sg sx I' A' M' MB' L')) B9) ([.ref h, .ref so, .int k2] : List Value).toArray s 0 0 B9) (F0 m 77 ls []) := by
    intro rc hrc40 I A M MB L X Y ls H locs hf hl hP hD hS
    unfold f_P_read_77 at hf
    refine lv_aload_n hx hb d_P_read_77 rfl (lv_at hl 0 rfl) ?_
    refine va_get (D := (dC, dI)) (ci := 2) (v := .int (I 9)) (C := R_P) (T := F_P) (N := 13) hx hb hts (fun w h => List.mem_cons_of_mem _ (in_P w h)) hown hK hP 0 rfl rfl 9 (by decide) (hts _ (List.mem_cons_of_mem _ lk_330)) (fun _ h9 => h9) rfl d_P_read_78 ?_
    refine lv_iconst (v := (-1)) hx hb d_P_read_81 (by decide) ?_
    refine lv_icmp_ne (tgt := 100) hx hb d_P_read_82 (by decide) (fun hc1 => ?_) (fun hc1 => ?_)
    ·
      have hf := wk_iff hc1 hf
      exact blk100 rc hrc40 I A M MB L X Y _ _ _ hf (lv_sub hl [0, 1, 2, 3] rfl) hP hD hS
    ·
      have hf := wk_ift hc1 hf
      refine lv_aload_n hx hb d_P_read_85 rfl (lv_at hl 0 rfl) ?_
      refine va_get (D := (dC, dI)) (ci := 2) (v := .int (I 8)) (C := R_P) (T := F_P) (N := 13) hx hb hts (fun w h => List.mem_cons_of_mem _ (in_P w h)) hown hK hP 0 rfl rfl 8 (by decide) (hts _ (List.mem_cons_of_mem _ lk_333)) (fun _ h9 => h9) rfl d_P_read_86 ?_
      refine lv_if_le (tgt := 100) hx hb d_P_read_89 (by decide) (fun hc2 => ?_) (fun hc2 => ?_)
      ·
        have hf := wk_ift hc2 hf
        exact blk100 rc hrc40 I A M MB L X Y _ _ _ hf (lv_sub hl [0, 1, 2, 3] rfl) hP hD hS
      ·
        have hf := wk_iff hc2 hf
        refine lv_aload_n hx hb d_P_read_92 rfl (lv_at hl 0 rfl) ?_
        refine lv_aload_n hx hb d_P_read_93 rfl (lv_at hl 0 rfl) ?_
        refine va_get (D := (dC, dI)) (ci := 2) (v := .int (I 6)) (C := R_P) (T := F_P) (N := 13) hx hb hts (fun w h => List.mem_cons_of_mem _ (in_P w h)) hown hK hP 0 rfl rfl 6 (by decide) (hts _ (List.mem_cons_of_mem _ lk_328)) (fun _ h9 => h9) rfl d_P_read_94 ?_
        refine va_put (D := (dC, dI)) (ci := 2) (v := .int (I 6)) (ty := .int) (C := R_P) (T := F_P) (N := 13) hx hb hts (fun w h => List.mem_cons_of_mem _ (in_P w h)) t_P tk_P n_P hown hK hP hD hS 0 rfl rfl 9 (by decide) (hts _ (List.mem_cons_of_mem _ lk_330)) (fun _ h9 => h9) rfl (by decide +kernel) rfl rfl (Nat.le_of_ble_eq_true rfl) d_P_read_97 (fun H locs hP hD hS => ?_)
        obtain ⟨I1, hI1, hf⟩ := wk_letE hf
        have hP : va_P (dC, dI) vwCl (rw_W h q g hm qm gm so sg sx I1 A M MB L) H := by rw [hI1]; exact hP
        have hD : va_D B9 (rw_W h q g hm qm gm so sg sx I1 A M MB L) := by rw [hI1]; exact hD
        clear hI1
        exact blk100 rc hrc40 I1 A M MB L X Y _ _ _ hf (lv_sub hl [0, 1, 2, 3] rfl) hP hD hS
  have stp40 : ∀ (rc : Nat → MI → MA → MI → MA → ML → (Nat → Int32) → (Nat → Int64) → Option (Int32 × MI × MA × MI × MA × ML)) (hrc40 : ∀ (I : MI) (A : MA) (M : MI) (MB : MA) (L : ML) (X : Nat → Int32) (Y : Nat → Int64) (ls : Array Slot) (H : Heap) (locs : List Loc), rc 40 I A M MB L X Y = some (r, I', A', M', MB', L') → lv_has ls 4 [(0, .ref h), (1, .ref so), (2, .int (X 2)), (3, .int (X 3))] → va_P (dC, dI) vwCl (rw_W h q g hm qm gm so sg sx I A M MB L) H → va_D B9 (rw_W h q g hm qm gm so sg sx I A M MB L) → va_S B9 s.heap H locs → W p l e (headSpec w_P_read ({ frames := 5, cells := 0, slots := 0, locals := 108 })).room s m ([.ref h, .ref so, .int k2] : List Value).toArray below meth c H locs 0 0 (MQ below (va_Qi (fun (r9 : Int32) (_ : Unit) => r9 = r) (fun (_ : Unit) t => va_P (dC, dI) vwCl (rw_W h q g hm qm gm so sg sx I' A' M' MB' L') t.heap ∧ va_K (dC, dI) vwCl (rq_T h q g hm qm gm so sg sx sf) t ∧ va_D B9 (rw_W h q g hm qm gm so sg sx I' A' M' MB' L')) B9) ([.ref h, .ref so, .int k2] : List Value).toArray s 0 0 B9) (F0 m 40 ls [])), ∀ (I : MI) (A : MA) (M : MI) (MB : MA) (L : ML) (X : Nat → Int32) (Y : Nat → Int64) (ls : Array Slot) (H : Heap) (locs : List Loc), f_P_read_40 sx rc I A M MB L X Y = some (r, I', A', M', MB', L') → lv_has ls 4 [(0, .ref h), (1, .ref so), (2, .int (X 2)), (3, .int (X 3))] → va_P (dC, dI) vwCl (rw_W h q g hm qm gm so sg sx I A M MB L) H → va_D B9 (rw_W h q g hm qm gm so sg sx I A M MB L) → va_S B9 s.heap H locs → W p l e (headSpec w_P_read ({ frames := 5, cells := 0, slots := 0, locals := 108 })).room s m ([.ref h, .ref so, .int k2] : List Value).toArray below meth c H locs 0 0 (MQ below (va_Qi (fun (r9 : Int32) (_ : Unit) => r9 = r) (fun (_ : Unit) t => va_P (dC, dI) vwCl (rw_W h q g hm qm gm so sg sx I' A' M' MB' L') t.heap ∧ va_K (dC, dI) vwCl (rq_T h q g hm qm gm so sg sx sf) t ∧ va_D B9 (rw_W h q g hm qm gm so sg sx I' A' M' MB' L')) B9) ([.ref h, .ref so, .int k2] : List Value).toArray s 0 0 B9) (F0 m 40 ls []) := by
    intro rc hrc40 I A M MB L X Y ls H locs hf hl hP hD hS
    unfold f_P_read_40 at hf
    refine lv_iload_n hx hb d_P_read_40 rfl (lv_at hl 3 rfl) ?_
    refine lv_aload_n hx hb d_P_read_41 rfl (lv_at hl 0 rfl) ?_
    refine va_get (D := (dC, dI)) (ci := 2) (v := .int (I 6)) (C := R_P) (T := F_P) (N := 13) hx hb hts (fun w h => List.mem_cons_of_mem _ (in_P w h)) hown hK hP 0 rfl rfl 6 (by decide) (hts _ (List.mem_cons_of_mem _ lk_328)) (fun _ h9 => h9) rfl d_P_read_42 ?_
    refine lv_icmp_ge (tgt := 77) hx hb d_P_read_45 (by decide) (fun hc1 => ?_) (fun hc1 => ?_)
    ·
      have hf := wk_ift hc1 hf
      exact blk77 rc hrc40 I A M MB L X Y _ _ _ hf (lv_sub hl [0, 1, 2, 3] rfl) hP hD hS
    ·
      have hf := wk_iff hc1 hf
      refine lv_aload_n hx hb d_P_read_48 rfl (lv_at hl 0 rfl) ?_
      refine va_get (D := (dC, dI)) (ci := 2) (v := .int (I 7)) (C := R_P) (T := F_P) (N := 13) hx hb hts (fun w h => List.mem_cons_of_mem _ (in_P w h)) hown hK hP 0 rfl rfl 7 (by decide) (hts _ (List.mem_cons_of_mem _ lk_329)) (fun _ h9 => h9) rfl d_P_read_49 ?_
      refine lv_aload_n hx hb d_P_read_52 rfl (lv_at hl 0 rfl) ?_
      refine va_get (D := (dC, dI)) (ci := 2) (v := .int (I 6)) (C := R_P) (T := F_P) (N := 13) hx hb hts (fun w h => List.mem_cons_of_mem _ (in_P w h)) hown hK hP 0 rfl rfl 6 (by decide) (hts _ (List.mem_cons_of_mem _ lk_328)) (fun _ h9 => h9) rfl d_P_read_53 ?_
      refine lv_icmp_ge (tgt := 77) hx hb d_P_read_56 (by decide) (fun hc2 => ?_) (fun hc2 => ?_)
      ·
        have hf := wk_ift hc2 hf
        exact blk77 rc hrc40 I A M MB L X Y _ _ _ hf (lv_sub hl [0, 1, 2, 3] rfl) hP hD hS
      ·
        have hf := wk_iff hc2 hf
        refine lv_aload_n hx hb d_P_read_59 rfl (lv_at hl 0 rfl) ?_
        refine va_get (D := (dC, dI)) (ci := 2) (v := .int (I 9)) (C := R_P) (T := F_P) (N := 13) hx hb hts (fun w h => List.mem_cons_of_mem _ (in_P w h)) hown hK hP 0 rfl rfl 9 (by decide) (hts _ (List.mem_cons_of_mem _ lk_330)) (fun _ h9 => h9) rfl d_P_read_60 ?_
        refine lv_iconst (v := (-1)) hx hb d_P_read_63 (by decide) ?_
        refine lv_icmp_ne (tgt := 77) hx hb d_P_read_64 (by decide) (fun hc3 => ?_) (fun hc3 => ?_)
        ·
          have hf := wk_iff hc3 hf
          exact blk77 rc hrc40 I A M MB L X Y _ _ _ hf (lv_sub hl [0, 1, 2, 3] rfl) hP hD hS
        ·
          have hf := wk_ift hc3 hf
          refine lv_aload_n hx hb d_P_read_67 rfl (lv_at hl 0 rfl) ?_
          have hPc := hP.sub (ws' := (rw_W h q g hm qm gm so sg sx I A M MB L)) [0, 1, 2, 3, 4, 5, 6, 7, 8, 9, 10, 11] rfl
          have hDc := hD.sub (ws' := (rw_W h q g hm qm gm so sg sx I A M MB L)) [0, 1, 2, 3, 4, 5, 6, 7, 8, 9, 10, 11] (by decide) rfl
          have hKc := hK.sub (tys' := (rw_T h q g hm qm gm so sg sx)) [0, 1, 2, 3, 4, 5, 6, 7, 8, 9] rfl
          have hFc := va_free (wc := (rw_W h q g hm qm gm so sg sx I A M MB L)) hD hS hA [0, 1, 2, 3, 4, 5, 6, 7, 8, 9, 10, 11] rfl
          cases hg1 : f_P_readNext sx I A M MB L with
          | none => rw [hg1] at hf; cases hf
          | some z1 =>
            obtain ⟨r1, I1, A1, M1, MB1, L1⟩ := z1
            rw [hg1] at hf
            dsimp only [Option.bind_some] at hf
            refine va_callv (va_runV (As := []) (rest := []) ⟨hx, hb, hml, hown, hts⟩ (cm_P_readNext l dC dI h q g hm qm gm so sg sx _  I A M MB L r1 I1 A1 M1 MB1 L1 hg1) (cwV 0 hts (gd_v lk_413 lk_414 lk_415 lk_349 lk_412) rfl rfl rfl (by decide +kernel) ⟨Nat.le_of_ble_eq_true rfl, Nat.le_of_ble_eq_true rfl⟩) ⟨fun a U g mk q => by obtain ⟨q0, q1, qP, qK, qD⟩ := q; exact ⟨q0, q1, qP, va_K.moved (u := U) (U := U.calling g mk a) (Vm.Alike.refl U.vm) qK, qD⟩, va_recv (ci := 2) (q0 := 0) hK hP rfl rfl, fun U hU hW => ⟨rfl, by rw [hU], by rw [hU]; exact hPc, va_K.moved hW.alike hKc, hDc.weaken (fun _ _ _ _ => trivial)⟩⟩ rfl rfl hl.1 rfl (lv_room (Nat.le_of_ble_eq_true rfl)) d_P_read_68 ⟨Nat.le_of_ble_eq_true rfl, Nat.le_of_ble_eq_true rfl⟩) hS (fun q _ h => hFc q h) hFc (fun u t H1 locs ht hvm hw hB hz1 hk1 hS => ?_)
            obtain ⟨hP1, hK1, hD1⟩ := hB
            rw [ht] at hP1
            obtain ⟨hP, hD⟩ := va_join (wr := (([] : List Nat).map (fun i => ((rw_W h q g hm qm gm so sg sx I A M MB L)).getD i (0, .inr (0, []))))) (w1 := (rw_W h q g hm qm gm so sg sx I1 A1 M1 MB1 L1)) hP hD [0, 1, 2, 3, 4, 5, 6, 7, 8, 9, 10, 11] [] rfl rfl (by decide) (by decide) hk1 hFc hP1 hD1
            generalize H1 = H at hP hS ⊢
            have hP := hP.sub (ws' := (rw_W h q g hm qm gm so sg sx I1 A1 M1 MB1 L1)) [0, 1, 2, 3, 4, 5, 6, 7, 8, 9, 10, 11] rfl
            have hD := hD.sub (ws' := (rw_W h q g hm qm gm so sg sx I1 A1 M1 MB1 L1)) [0, 1, 2, 3, 4, 5, 6, 7, 8, 9, 10, 11] (by decide) rfl
            refine lv_iinc (k := 3) (v := ((X 3) + 1)) (lv' := [(3, .int ((X 3) + 1)), (0, .ref h), (1, .ref so), (2, .int (X 2))]) hx hb d_P_read_71 hl rfl (wk_inc (by decide)) (by decide) rfl (fun ls hl => ?_)
            have hl : lv_has ls 4 [(3, .int ((X 3) + 1)), (0, .ref h), (1, .ref so), (2, .int (X 2))] := hl
            refine lv_goto (tgt := 40) hx hb d_P_read_74 (by decide) ?_
            exact hrc40 I1 A1 M1 MB1 L1 (upd X 3 ((X 3) + 1)) Y _ _ _ hf (lv_sub hl [1, 2, 3, 0] rfl) hP hD hS
  have key : ∀ n : Nat, (∀ (I : MI) (A : MA) (M : MI) (MB : MA) (L : ML) (X : Nat → Int32) (Y : Nat → Int64) (ls : Array Slot) (H : Heap) (locs : List Loc), f_P_read_go sx n 40 I A M MB L X Y = some (r, I', A', M', MB', L') → lv_has ls 4 [(0, .ref h), (1, .ref so), (2, .int (X 2)), (3, .int (X 3))] → va_P (dC, dI) vwCl (rw_W h q g hm qm gm so sg sx I A M MB L) H → va_D B9 (rw_W h q g hm qm gm so sg sx I A M MB L) → va_S B9 s.heap H locs → W p l e (headSpec w_P_read ({ frames := 5, cells := 0, slots := 0, locals := 108 })).room s m ([.ref h, .ref so, .int k2] : List Value).toArray below meth c H locs 0 0 (MQ below (va_Qi (fun (r9 : Int32) (_ : Unit) => r9 = r) (fun (_ : Unit) t => va_P (dC, dI) vwCl (rw_W h q g hm qm gm so sg sx I' A' M' MB' L') t.heap ∧ va_K (dC, dI) vwCl (rq_T h q g hm qm gm so sg sx sf) t ∧ va_D B9 (rw_W h q g hm qm gm so sg sx I' A' M' MB' L')) B9) ([.ref h, .ref so, .int k2] : List Value).toArray s 0 0 B9) (F0 m 40 ls [])) := by
    intro n
    induction n with
    | zero => exact fun I A M MB L X Y ls H locs hf => (by cases hf)
    | succ n ih =>
      have ih40 := ih
      exact stp40 (f_P_read_go sx n) ih40
  unfold f_P_read f_P_read_e at hf
  have hrc40 := key wk_FUEL
  refine lv_aload_n hx hb d_P_read_0 rfl (lv_at hl 0 rfl) ?_
  refine lv_aload_n hx hb d_P_read_1 rfl (lv_at hl 1 rfl) ?_
  refine va_put (D := (dC, dI)) (ci := 2) (v := .ref so) (ty := .array .char) (C := R_P) (T := F_P) (N := 13) hx hb hts (fun w h => List.mem_cons_of_mem _ (in_P w h)) t_P tk_P n_P hown hK hP hD hS 0 rfl rfl 5 (by decide) (hts _ (List.mem_cons_of_mem _ lk_327)) (fun _ h9 => h9) rfl (by decide +kernel) rfl rfl (Nat.le_of_ble_eq_true rfl) d_P_read_2 (fun H locs hP hD hS => ?_)
  have hP : va_P (dC, dI) vwCl (rw_W h q g hm qm gm so sg sx I A M MB L) H := hP
  have hD : va_D B9 (rw_W h q g hm qm gm so sg sx I A M MB L) := hD
  refine lv_aload_n hx hb d_P_read_5 rfl (lv_at hl 0 rfl) ?_
  refine lv_iload_n hx hb d_P_read_6 rfl (lv_at hl 2 rfl) ?_
  refine va_put (D := (dC, dI)) (ci := 2) (v := .int k2) (ty := .int) (C := R_P) (T := F_P) (N := 13) hx hb hts (fun w h => List.mem_cons_of_mem _ (in_P w h)) t_P tk_P n_P hown hK hP hD hS 0 rfl rfl 6 (by decide) (hts _ (List.mem_cons_of_mem _ lk_328)) (fun _ h9 => h9) rfl (by decide +kernel) rfl rfl (Nat.le_of_ble_eq_true rfl) d_P_read_7 (fun H locs hP hD hS => ?_)
  obtain ⟨I1, hI1, hf⟩ := wk_letE hf
  have hP : va_P (dC, dI) vwCl (rw_W h q g hm qm gm so sg sx I1 A M MB L) H := by rw [hI1]; exact hP
  have hD : va_D B9 (rw_W h q g hm qm gm so sg sx I1 A M MB L) := by rw [hI1]; exact hD
  clear hI1
  refine lv_aload_n hx hb d_P_read_10 rfl (lv_at hl 0 rfl) ?_
  refine lv_iconst (v := 0) hx hb d_P_read_11 (by decide) ?_
  refine va_put (D := (dC, dI)) (ci := 2) (v := .int 0) (ty := .int) (C := R_P) (T := F_P) (N := 13) hx hb hts (fun w h => List.mem_cons_of_mem _ (in_P w h)) t_P tk_P n_P hown hK hP hD hS 0 rfl rfl 7 (by decide) (hts _ (List.mem_cons_of_mem _ lk_329)) (fun _ h9 => h9) rfl (by decide +kernel) rfl rfl (Nat.le_of_ble_eq_true rfl) d_P_read_12 (fun H locs hP hD hS => ?_)
  obtain ⟨I2, hI2, hf⟩ := wk_letE hf
  have hP : va_P (dC, dI) vwCl (rw_W h q g hm qm gm so sg sx I2 A M MB L) H := by rw [hI2]; exact hP
  have hD : va_D B9 (rw_W h q g hm qm gm so sg sx I2 A M MB L) := by rw [hI2]; exact hD
  clear hI2
  refine lv_aload_n hx hb d_P_read_15 rfl (lv_at hl 0 rfl) ?_
  refine lv_iconst (v := (-1)) hx hb d_P_read_16 (by decide) ?_
  refine va_put (D := (dC, dI)) (ci := 2) (v := .int (-1)) (ty := .int) (C := R_P) (T := F_P) (N := 13) hx hb hts (fun w h => List.mem_cons_of_mem _ (in_P w h)) t_P tk_P n_P hown hK hP hD hS 0 rfl rfl 9 (by decide) (hts _ (List.mem_cons_of_mem _ lk_330)) (fun _ h9 => h9) rfl (by decide +kernel) rfl rfl (Nat.le_of_ble_eq_true rfl) d_P_read_17 (fun H locs hP hD hS => ?_)
  obtain ⟨I3, hI3, hf⟩ := wk_letE hf
  have hP : va_P (dC, dI) vwCl (rw_W h q g hm qm gm so sg sx I3 A M MB L) H := by rw [hI3]; exact hP
  have hD : va_D B9 (rw_W h q g hm qm gm so sg sx I3 A M MB L) := by rw [hI3]; exact hD
  clear hI3
  refine lv_aload_n hx hb d_P_read_20 rfl (lv_at hl 0 rfl) ?_
  refine va_get (D := (dC, dI)) (ci := 2) (v := .ref hm) (C := R_P) (T := F_P) (N := 13) hx hb hts (fun w h => List.mem_cons_of_mem _ (in_P w h)) hown hK hP 0 rfl rfl 4 (by decide) (hts _ (List.mem_cons_of_mem _ lk_331)) (fun _ h9 => h9) rfl d_P_read_21 ?_
  refine lv_iconst (v := 0) hx hb d_P_read_24 (by decide) ?_
  refine va_put (D := (dC, dI)) (ci := 3) (v := .int 0) (ty := .int) (C := R_A) (T := F_A) (N := 10) hx hb hts (fun w h => List.mem_cons_of_mem _ (in_A w h)) t_A tk_A n_A hown hK hP hD hS 5 rfl rfl 5 (by decide) (hts _ (List.mem_cons_of_mem _ lk_332)) (fun _ h9 => h9) rfl (by decide +kernel) rfl rfl (Nat.le_of_ble_eq_true rfl) d_P_read_25 (fun H locs hP hD hS => ?_)
  obtain ⟨M4, hM4, hf⟩ := wk_letE hf
  have hP : va_P (dC, dI) vwCl (rw_W h q g hm qm gm so sg sx I3 A M4 MB L) H := by rw [hM4]; exact hP
  have hD : va_D B9 (rw_W h q g hm qm gm so sg sx I3 A M4 MB L) := by rw [hM4]; exact hD
  clear hM4
  refine lv_aload_n hx hb d_P_read_28 rfl (lv_at hl 0 rfl) ?_
  refine lv_iconst (v := 0) hx hb d_P_read_29 (by decide) ?_
  refine va_put (D := (dC, dI)) (ci := 2) (v := .int 0) (ty := .int) (C := R_P) (T := F_P) (N := 13) hx hb hts (fun w h => List.mem_cons_of_mem _ (in_P w h)) t_P tk_P n_P hown hK hP hD hS 0 rfl rfl 8 (by decide) (hts _ (List.mem_cons_of_mem _ lk_333)) (fun _ h9 => h9) rfl (by decide +kernel) rfl rfl (Nat.le_of_ble_eq_true rfl) d_P_read_30 (fun H locs hP hD hS => ?_)
  obtain ⟨I5, hI5, hf⟩ := wk_letE hf
  have hP : va_P (dC, dI) vwCl (rw_W h q g hm qm gm so sg sx I5 A M4 MB L) H := by rw [hI5]; exact hP
  have hD : va_D B9 (rw_W h q g hm qm gm so sg sx I5 A M4 MB L) := by rw [hI5]; exact hD
  clear hI5
  refine lv_aload_n hx hb d_P_read_33 rfl (lv_at hl 0 rfl) ?_
  refine lv_iconst (v := (-1)) hx hb d_P_read_34 (by decide) ?_
  have hPc := hP.sub (ws' := (rw_W h q g hm qm gm so sg sx I5 A M4 MB L)) [0, 1, 2, 3, 4, 5, 6, 7, 8, 9, 10, 11] rfl
  have hDc := hD.sub (ws' := (rw_W h q g hm qm gm so sg sx I5 A M4 MB L)) [0, 1, 2, 3, 4, 5, 6, 7, 8, 9, 10, 11] (by decide) rfl
  have hKc := hK.sub (tys' := (rw_T h q g hm qm gm so sg sx)) [0, 1, 2, 3, 4, 5, 6, 7, 8, 9] rfl
  have hFc := va_free (wc := (rw_W h q g hm qm gm so sg sx I5 A M4 MB L)) hD hS hA [0, 1, 2, 3, 4, 5, 6, 7, 8, 9, 10, 11] rfl
  cases hg6 : f_P_openChoice sx I5 A M4 MB L (-1) with
  | none => rw [hg6] at hf; cases hf
  | some z6 =>
    obtain ⟨r6, I6, A6, M6, MB6, L6⟩ := z6
    rw [hg6] at hf
    dsimp only [Option.bind_some] at hf
    refine va_callv (va_runV (As := [.int (-1)]) (rest := []) ⟨hx, hb, hml, hown, hts⟩ (cm_P_openChoice l dC dI h q g hm qm gm so sg sx _  I5 A M4 MB L (-1) r6 I6 A6 M6 MB6 L6 hg6) (cwV 1 hts (gd_v lk_351 lk_352 lk_353 lk_349 lk_350) rfl rfl rfl (by decide +kernel) ⟨Nat.le_of_ble_eq_true rfl, Nat.le_of_ble_eq_true rfl⟩) ⟨fun a U g mk q => by obtain ⟨q0, q1, qP, qK, qD⟩ := q; exact ⟨q0, q1, qP, va_K.moved (u := U) (U := U.calling g mk a) (Vm.Alike.refl U.vm) qK, qD⟩, va_recv (ci := 2) (q0 := 0) hK hP rfl rfl, fun U hU hW => ⟨rfl, by rw [hU], by rw [hU]; exact hPc, va_K.moved hW.alike hKc, hDc.weaken (fun _ _ _ _ => trivial)⟩⟩ rfl rfl hl.1 rfl (lv_room (Nat.le_of_ble_eq_true rfl)) d_P_read_35 ⟨Nat.le_of_ble_eq_true rfl, Nat.le_of_ble_eq_true rfl⟩) hS (fun q _ h => hFc q h) hFc (fun u t H1 locs ht hvm hw hB hz1 hk1 hS => ?_)
    obtain ⟨hP1, hK1, hD1⟩ := hB
    rw [ht] at hP1
    obtain ⟨hP, hD⟩ := va_join (wr := (([] : List Nat).map (fun i => ((rw_W h q g hm qm gm so sg sx I5 A M4 MB L)).getD i (0, .inr (0, []))))) (w1 := (rw_W h q g hm qm gm so sg sx I6 A6 M6 MB6 L6)) hP hD [0, 1, 2, 3, 4, 5, 6, 7, 8, 9, 10, 11] [] rfl rfl (by decide) (by decide) hk1 hFc hP1 hD1
    generalize H1 = H at hP hS ⊢
    have hP := hP.sub (ws' := (rw_W h q g hm qm gm so sg sx I6 A6 M6 MB6 L6)) [0, 1, 2, 3, 4, 5, 6, 7, 8, 9, 10, 11] rfl
    have hD := hD.sub (ws' := (rw_W h q g hm qm gm so sg sx I6 A6 M6 MB6 L6)) [0, 1, 2, 3, 4, 5, 6, 7, 8, 9, 10, 11] (by decide) rfl
    refine lv_iconst (v := 0) hx hb d_P_read_38 (by decide) ?_
    refine lv_istore_n (lv' := [(3, .int 0), (0, .ref h), (1, .ref so), (2, .int k2)]) hx hb d_P_read_39 rfl hl (by decide) rfl (fun ls hl => ?_)
    have hl : lv_has ls 4 [(3, .int 0), (0, .ref h), (1, .ref so), (2, .int k2)] := hl
    exact hrc40 I6 A6 M6 MB6 L6 (upd (upd (fun _ => 0) 2 k2) 3 0) (fun _ => 0) _ _ _ hf (lv_sub hl [1, 2, 3, 0] rfl) hP hD hS

-- 18.ccon07
set_option maxHeartbeats 8000000 in
set_option maxRecDepth 100000 in
theorem cm_P_handOver (l : Launch) (dC : Nat → ClassId) (dI : Nat → Nat → Nat) (h : Nat) (q : Nat → Nat) (hm : Nat) (sf : Value) (hp : Nat) (sz : Nat) (I : MI) (r : Int32) (I' : MI) (hf : f_P_handOver I  = some (r, I')) : Met l y_P_handOver w_P_handOver ({ frames := 0, cells := 0, slots := 0, locals := 0 }) (va_Pc [.ref h, .ref hp] (fun U => U.heap.size = sz ∧ va_P (dC, dI) vwCl (hw_W h q hm sf I) U.heap ∧ va_K (dC, dI) vwCl (hw_T h q hm sf) U ∧ va_D (fun _ => True) (hw_W h q hm sf I))) (va_Qr (fun (u : Unit) => u = u) (fun (_ : Unit) ra t => ra = hm ∧ va_P (dC, dI) vwCl (hw_W h q hp sf I') t.heap ∧ va_K (dC, dI) vwCl (hw_T h q hm sf) t ∧ va_D (va_A (hw_W h q hm sf I) sz) (hw_W h q hp sf I')) (va_A (hw_W h q hm sf I) sz)) 0 0 (va_A (hw_W h q hm sf I) sz) := by
  refine Met.ofW (cc := prog_3_method_2_code) (maxL := 3) (ret := (some (.object "DraftTree$Automaton"))) (by decide) rfl ?_
  intro p e s m args below meth c s₁ B hml hv
  obtain ⟨rfl, hsz, hP, hK, hD0⟩ := hv
  have hx := B.exec
  have hb := B.bytes
  have hr := B.returns
  have hts := atoms_spec (ws := w_P_handOver) B.pre
  have hown : s.vm.findClass "DraftTree$PatternReader" = some m.cls := findClass_of_methodNamed B.named
  have hlocks := B.notSynchronized
  subst hsz
  have hD := hD0.self (sz := s.heap.size)
  generalize hAe : va_A (hw_W h q hm sf I) s.heap.size = B9 at hD ⊢
  have hA : ∀ q : Nat, s.heap.size ≤ q → B9 q := fun q h => by rw [← hAe]; exact Or.inr h
  clear hAe
  have hS : va_S B9 s.heap s.heap [] := va_S.rf
  have hl := lv_entry ([.ref h, .ref hp]) (n := 3) (Nat.le_of_ble_eq_true rfl)
  rw [lg_entry_eq]
  generalize (lg_sl ([.ref h, .ref hp]) ++ List.replicate (3 - (lg_sl ([.ref h, .ref hp])).length) Slot.unset).toArray = ls at hl ⊢
  have hl : lv_has ls 3 [(0, .ref h), (1, .ref hp)] := hl
  unfold f_P_handOver at hf
  refine lv_aload_n hx hb d_P_handOver_0 rfl (lv_at hl 0 rfl) ?_
  refine va_get (D := (dC, dI)) (ci := 2) (v := .ref hm) (C := R_P) (T := F_P) (N := 13) hx hb hts (fun w h => List.mem_cons_of_mem _ (in_P w h)) hown hK hP 0 rfl rfl 4 (by decide) (hts _ (List.mem_cons_of_mem _ lk_331)) (fun _ h9 => h9) rfl d_P_handOver_1 ?_
  refine lv_astore_n (lv' := [(2, .ref hm), (0, .ref h), (1, .ref hp)]) hx hb d_P_handOver_4 rfl hl (by decide) rfl (fun ls hl => ?_)
  have hl : lv_has ls 3 [(2, .ref hm), (0, .ref h), (1, .ref hp)] := hl
  refine lv_aload_n hx hb d_P_handOver_5 rfl (lv_at hl 1 rfl) ?_
  refine lv_aload_n hx hb d_P_handOver_6 rfl (lv_at hl 2 rfl) ?_
  refine va_put (D := (dC, dI)) (ci := 2) (v := .ref hp) (ty := .object "DraftTree$Automaton") (C := R_P) (T := F_P) (N := 13) hx hb hts (fun w h => List.mem_cons_of_mem _ (in_P w h)) t_P tk_P n_P hown hK hP hD hS 0 rfl rfl 4 (by decide) (hts _ (List.mem_cons_of_mem _ lk_331)) (fun _ h9 => h9) rfl (by decide +kernel) rfl rfl (Nat.le_of_ble_eq_true rfl) d_P_handOver_7 (fun H locs hP hD hS => ?_)
  have hP : va_P (dC, dI) vwCl (hw_W h q hp sf I) H := hP
  have hD : va_D B9 (hw_W h q hp sf I) := hD
  refine lv_aload_n hx hb d_P_handOver_10 rfl (lv_at hl 0 rfl) ?_
  obtain ⟨e0, e1⟩ := wk_inj1 hf
  subst e0
  subst e1
  exact W.aret (v := .ref hm) hx hb hr (Or.inl ⟨_, rfl⟩) (Or.inr ⟨_, rfl⟩) (fun t ht hW => ⟨⟨(), hm, rfl, rfl, rfl, by rw [ht]; exact hP, va_K.moved hW.alike hK, hD⟩, hS.F ht⟩) hS.2.2 d_P_handOver_11

set_option maxHeartbeats 8000000 in
set_option maxRecDepth 100000 in
theorem cm_D_compile (l : Launch) (dC : Nat → ClassId) (dI : Nat → Nat → Nat) (h : Nat) (q : Nat → Nat) (g : Nat → ClassId) (hp : Nat) (qp : Nat → Nat) (gp : Nat → ClassId) (tq : Nat) (tg : ClassId) (tn : Nat) (tx : Nat → Int32) (hj : Nat) (qj : Nat → Nat) (gj : Nat → ClassId) (hm : Nat) (qm : Nat → Nat) (gm : Nat → ClassId) (sf : Value) (sz : Nat) (I : MI) (A : MA) (M : MI) (MB : MA) (L : ML) (RI : MI) (RA : MA) (N : MI) (NB : MA) (NL : ML) (r : Int32) (I' : MI) (A' : MA) (M' : MI) (MB' : MA) (L' : ML) (RI' : MI) (RA' : MA) (N' : MI) (NB' : MA) (NL' : ML) (hf : f_D_compile I A M MB L RI RA N NB NL  = some (0, r, I', A', M', MB', L', RI', RA', N', NB', NL')) : Met l y_D_compile w_D_compile ({ frames := 6, cells := 0, slots := 0, locals := 131 }) (va_Pc [.ref h] (fun U => U.heap.size = sz ∧ va_P (dC, dI) vwCl (dc_W h q g hp qp gp tq tg tn tx hj qj gj hm qm gm hp hm sf I A M MB L RI RA N NB NL) U.heap ∧ va_K (dC, dI) vwCl (dc_T h q g hp qp gp tq tg tn tx hj qj gj hm qm gm hp hm sf) U ∧ va_D (fun _ => True) (dc_W h q g hp qp gp tq tg tn tx hj qj gj hm qm gm hp hm sf I A M MB L RI RA N NB NL))) (va_Qv (fun (u : Unit) => u = u) (fun (_ : Unit) t => va_P (dC, dI) vwCl (dc_W h q g hp qp gp tq tg tn tx hj qj gj hm qm gm hm hp (.ref (q 0)) I' A' M' MB' L' RI' RA' N' NB' NL') t.heap ∧ va_K (dC, dI) vwCl (dc_T h q g hp qp gp tq tg tn tx hj qj gj hm qm gm hp hm sf) t ∧ va_D (va_A (dc_W h q g hp qp gp tq tg tn tx hj qj gj hm qm gm hp hm sf I A M MB L RI RA N NB NL) sz) (dc_W h q g hp qp gp tq tg tn tx hj qj gj hm qm gm hm hp (.ref (q 0)) I' A' M' MB' L' RI' RA' N' NB' NL')) (va_A (dc_W h q g hp qp gp tq tg tn tx hj qj gj hm qm gm hp hm sf I A M MB L RI RA N NB NL) sz)) 0 0 (va_A (dc_W h q g hp qp gp tq tg tn tx hj qj gj hm qm gm hp hm sf I A M MB L RI RA N NB NL) sz) := by
  refine Met.ofW (cc := prog_1_method_7_code) (maxL := 1) (ret := none) (by decide) rfl ?_
  intro p e s m args below meth c s₁ B hml hv
  obtain ⟨rfl, hsz, hP, hK, hD0⟩ := hv
  have hx := B.exec
  have hb := B.bytes
  have hr := B.returns
  have hts := atoms_spec (ws := w_D_compile) B.pre
  have hown : s.vm.findClass "DraftTree" = some m.cls := findClass_of_methodNamed B.named
  have hlocks := B.notSynchronized
  subst hsz
  have hD := hD0.self (sz := s.heap.size)
  generalize hAe : va_A (dc_W h q g hp qp gp tq tg tn tx hj qj gj hm qm gm hp hm sf I A M MB L RI RA N NB NL) s.heap.size = B9 at hD ⊢
  have hA : ∀ q : Nat, s.heap.size ≤ q → B9 q := fun q h => by rw [← hAe]; exact Or.inr h
  clear hAe
  have hS : va_S B9 s.heap s.heap [] := va_S.rf
  have hl := lv_entry ([.ref h]) (n := 1) (Nat.le_of_ble_eq_true rfl)
  rw [lg_entry_eq]
  generalize (lg_sl ([.ref h]) ++ List.replicate (1 - (lg_sl ([.ref h])).length) Slot.unset).toArray = ls at hl ⊢
  have hl : lv_has ls 1 [(0, .ref h)] := hl
  unfold f_D_compile at hf
  refine lv_aload_n hx hb d_D_compile_0 rfl (lv_at hl 0 rfl) ?_
  refine lv_aload_n hx hb d_D_compile_1 rfl (lv_at hl 0 rfl) ?_
  refine va_get (D := (dC, dI)) (ci := 0) (v := .ref hj) (C := R_D) (T := F_D) (N := 14) hx hb hts (fun w h => List.mem_cons_of_mem _ (in_D w h)) hown hK hP 0 rfl rfl 8 (by decide) (hts _ (List.mem_cons_of_mem _ lk_311)) (fun _ h9 => h9) rfl d_D_compile_2 ?_
  refine lv_aload_n hx hb d_D_compile_5 rfl (lv_at hl 0 rfl) ?_
  refine va_get (D := (dC, dI)) (ci := 0) (v := .ref (q 0)) (C := R_D) (T := F_D) (N := 14) hx hb hts (fun w h => List.mem_cons_of_mem _ (in_D w h)) hown hK hP 0 rfl rfl 0 (by decide) (hts _ (List.mem_cons_of_mem _ lk_312)) (fun _ h9 => h9) rfl d_D_compile_6 ?_
  refine lv_aload_n hx hb d_D_compile_9 rfl (lv_at hl 0 rfl) ?_
  refine va_get (D := (dC, dI)) (ci := 0) (v := .int (I 1)) (C := R_D) (T := F_D) (N := 14) hx hb hts (fun w h => List.mem_cons_of_mem _ (in_D w h)) hown hK hP 0 rfl rfl 1 (by decide) (hts _ (List.mem_cons_of_mem _ lk_313)) (fun _ h9 => h9) rfl d_D_compile_10 ?_
  have hPc := hP.sub (ws' := (rq_W hj qj gj hm qm gm (q 0) (g 0) (A 0) sf RI RA N NB NL)) [11, 12, 13, 14, 15, 16, 17, 18, 19, 20, 21, 1] rfl
  have hDc := hD.sub (ws' := (rq_W hj qj gj hm qm gm (q 0) (g 0) (A 0) sf RI RA N NB NL)) [11, 12, 13, 14, 15, 16, 17, 18, 19, 20, 21, 1] (by decide) rfl
  have hKc := hK.sub (tys' := (rq_T hj qj gj hm qm gm (q 0) (g 0) (A 0) sf)) [9, 10, 11, 12, 13, 14, 15, 16, 17, 0] rfl
  have hFc := va_free (wc := (rq_W hj qj gj hm qm gm (q 0) (g 0) (A 0) sf RI RA N NB NL)) hD hS hA [11, 12, 13, 14, 15, 16, 17, 18, 19, 20, 21, 1] rfl
  cases hg1 : f_P_read (A 0) RI RA N NB NL (I 1) with
  | none => rw [hg1] at hf; cases hf
  | some z1 =>
    obtain ⟨r1, RI1, RA1, N1, NB1, NL1⟩ := z1
    rw [hg1] at hf
    dsimp only [Option.bind_some] at hf
    refine va_calli (va_runV (As := [.ref (q 0), .int (I 1)]) (rest := [.ref h]) ⟨hx, hb, hml, hown, hts⟩ (cm_P_read l dC dI hj qj gj hm qm gm (q 0) (g 0) (A 0) sf _  RI RA N NB NL (I 1) r1 RI1 RA1 N1 NB1 NL1 hg1) (cwV 2 hts (gd_v lk_423 lk_424 lk_425 lk_349 lk_422) rfl rfl rfl (by decide +kernel) ⟨Nat.le_of_ble_eq_true rfl, Nat.le_of_ble_eq_true rfl⟩) ⟨fun a U g mk q => by obtain ⟨q0, q1, qP, qK, qD⟩ := q; exact ⟨q0, q1, qP, va_K.moved (u := U) (U := U.calling g mk a) (Vm.Alike.refl U.vm) qK, qD⟩, va_recv (ci := 2) (q0 := 11) hK hP rfl rfl, fun U hU hW => ⟨rfl, by rw [hU], by rw [hU]; exact hPc, va_K.moved hW.alike hKc, hDc.weaken (fun _ _ _ _ => trivial)⟩⟩ rfl rfl hl.1 rfl (lv_room (Nat.le_of_ble_eq_true rfl)) d_D_compile_13 ⟨Nat.le_of_ble_eq_true rfl, Nat.le_of_ble_eq_true rfl⟩) hS (fun q _ h => hFc q h) hFc (fun r9 u t H1 locs ht hvm hw hB hz1 hk1 hS => ?_)
    obtain ⟨hP1, hK1, hD1⟩ := hB
    rw [ht] at hP1
    rw [hw]
    obtain ⟨hP, hD⟩ := va_join (wr := (([0, 2, 3, 4, 5, 6, 7, 8, 9, 10] : List Nat).map (fun i => ((dc_W h q g hp qp gp tq tg tn tx hj qj gj hm qm gm hp hm sf I A M MB L RI RA N NB NL)).getD i (0, .inr (0, []))))) (w1 := (rw_W hj qj gj hm qm gm (q 0) (g 0) (A 0) RI1 RA1 N1 NB1 NL1)) hP hD [11, 12, 13, 14, 15, 16, 17, 18, 19, 20, 21, 1] [0, 2, 3, 4, 5, 6, 7, 8, 9, 10] rfl rfl (by decide) (by decide) hk1 hFc hP1 hD1
    generalize H1 = H at hP hS ⊢
    have hP := hP.sub (ws' := (dc_W h q g hp qp gp tq tg tn tx hj qj gj hm qm gm hp hm (.ref (q 0)) I A M MB L RI1 RA1 N1 NB1 NL1)) [0, 21, 1, 2, 3, 4, 5, 6, 7, 8, 9, 10, 11, 12, 13, 14, 15, 16, 17, 18, 19, 20] rfl
    have hD := hD.sub (ws' := (dc_W h q g hp qp gp tq tg tn tx hj qj gj hm qm gm hp hm (.ref (q 0)) I A M MB L RI1 RA1 N1 NB1 NL1)) [0, 21, 1, 2, 3, 4, 5, 6, 7, 8, 9, 10, 11, 12, 13, 14, 15, 16, 17, 18, 19, 20] (by decide) rfl
    refine va_put (D := (dC, dI)) (ci := 0) (v := .int r1) (ty := .int) (C := R_D) (T := F_D) (N := 14) hx hb hts (fun w h => List.mem_cons_of_mem _ (in_D w h)) t_D tk_D n_D hown hK hP hD hS 0 rfl rfl 11 (by decide) (hts _ (List.mem_cons_of_mem _ lk_426)) (fun _ h9 => h9) rfl (by decide +kernel) rfl rfl (Nat.le_of_ble_eq_true rfl) d_D_compile_16 (fun H locs hP hD hS => ?_)
    obtain ⟨I2, hI2, hf⟩ := wk_letE hf
    have hP : va_P (dC, dI) vwCl (dc_W h q g hp qp gp tq tg tn tx hj qj gj hm qm gm hp hm (.ref (q 0)) I2 A M MB L RI1 RA1 N1 NB1 NL1) H := by rw [hI2]; exact hP
    have hD : va_D B9 (dc_W h q g hp qp gp tq tg tn tx hj qj gj hm qm gm hp hm (.ref (q 0)) I2 A M MB L RI1 RA1 N1 NB1 NL1) := by rw [hI2]; exact hD
    clear hI2
    refine lv_aload_n hx hb d_D_compile_19 rfl (lv_at hl 0 rfl) ?_
    refine va_get (D := (dC, dI)) (ci := 0) (v := .int (I2 11)) (C := R_D) (T := F_D) (N := 14) hx hb hts (fun w h => List.mem_cons_of_mem _ (in_D w h)) hown hK hP 0 rfl rfl 11 (by decide) (hts _ (List.mem_cons_of_mem _ lk_426)) (fun _ h9 => h9) rfl d_D_compile_20 ?_
    refine lv_iconst (v := (-1)) hx hb d_D_compile_23 (by decide) ?_
    refine lv_icmp_eq (tgt := 35) hx hb d_D_compile_24 (by decide) (fun hc1 => ?_) (fun hc1 => ?_)
    ·
      have hf := wk_ift hc1 hf
      refine lv_aload_n hx hb d_D_compile_35 rfl (lv_at hl 0 rfl) ?_
      refine lv_aload_n hx hb d_D_compile_36 rfl (lv_at hl 0 rfl) ?_
      refine va_get (D := (dC, dI)) (ci := 0) (v := .ref hj) (C := R_D) (T := F_D) (N := 14) hx hb hts (fun w h => List.mem_cons_of_mem _ (in_D w h)) hown hK hP 0 rfl rfl 8 (by decide) (hts _ (List.mem_cons_of_mem _ lk_311)) (fun _ h9 => h9) rfl d_D_compile_37 ?_
      refine lv_aload_n hx hb d_D_compile_40 rfl (lv_at hl 0 rfl) ?_
      refine va_get (D := (dC, dI)) (ci := 0) (v := .ref hp) (C := R_D) (T := F_D) (N := 14) hx hb hts (fun w h => List.mem_cons_of_mem _ (in_D w h)) hown hK hP 0 rfl rfl 9 (by decide) (hts _ (List.mem_cons_of_mem _ lk_247)) (fun _ h9 => h9) rfl d_D_compile_41 ?_
      have hPc := hP.sub (ws' := (hw_W hj qj hm (.ref (q 0)) RI1)) [11] rfl
      have hDc := hD.sub (ws' := (hw_W hj qj hm (.ref (q 0)) RI1)) [11] (by decide) rfl
      have hKc := hK.sub (tys' := (hw_T hj qj hm (.ref (q 0)))) [] rfl
      have hFc := va_free (wc := (hw_W hj qj hm (.ref (q 0)) RI1)) hD hS hA [11] rfl
      cases hg3 : f_P_handOver RI1 with
      | none => rw [hg3] at hf; cases hf
      | some z3 =>
        obtain ⟨r3, RI3⟩ := z3
        rw [hg3] at hf
        dsimp only [Option.bind_some] at hf
        refine va_callr (va_runV (As := [.ref hp]) (rest := [.ref h]) ⟨hx, hb, hml, hown, hts⟩ (cm_P_handOver l dC dI hj qj hm (.ref (q 0)) hp _  RI1 r3 RI3 hg3) (cwV 1 hts (gd_v lk_428 lk_429 lk_430 lk_349 lk_427) rfl rfl rfl (by decide +kernel) ⟨Nat.le_of_ble_eq_true rfl, Nat.le_of_ble_eq_true rfl⟩) ⟨fun a U g mk q => by obtain ⟨q0, q1, qP, qK, qD⟩ := q; exact ⟨q0, q1, qP, va_K.moved (u := U) (U := U.calling g mk a) (Vm.Alike.refl U.vm) qK, qD⟩, va_recv (ci := 2) (q0 := 11) hK hP rfl rfl, fun U hU hW => ⟨rfl, by rw [hU], by rw [hU]; exact hPc, va_K.moved hW.alike hKc, hDc.weaken (fun _ _ _ _ => trivial)⟩⟩ rfl rfl hl.1 rfl (lv_room (Nat.le_of_ble_eq_true rfl)) d_D_compile_44 ⟨Nat.le_of_ble_eq_true rfl, Nat.le_of_ble_eq_true rfl⟩) hS (fun q _ h => hFc q h) hFc (fun u ra t H1 locs ht hvm hw hB hz1 hk1 hS => ?_)
        obtain ⟨hra, hP1, hK1, hD1⟩ := hB
        rw [ht] at hP1
        rw [hra]
        obtain ⟨hP, hD⟩ := va_join (wr := (([0, 1, 2, 3, 4, 5, 6, 7, 8, 9, 10, 12, 13, 14, 15, 16, 17, 18, 19, 20, 21] : List Nat).map (fun i => ((dc_W h q g hp qp gp tq tg tn tx hj qj gj hm qm gm hp hm (.ref (q 0)) I2 A M MB L RI1 RA1 N1 NB1 NL1)).getD i (0, .inr (0, []))))) (w1 := (hw_W hj qj hp (.ref (q 0)) RI3)) hP hD [11] [0, 1, 2, 3, 4, 5, 6, 7, 8, 9, 10, 12, 13, 14, 15, 16, 17, 18, 19, 20, 21] rfl rfl (by decide) (by decide) hk1 hFc hP1 hD1
        generalize H1 = H at hP hS ⊢
        have hP := hP.sub (ws' := (dc_W h q g hp qp gp tq tg tn tx hj qj gj hm qm gm hp hp (.ref (q 0)) I2 A M MB L RI3 RA1 N1 NB1 NL1)) [0, 1, 2, 3, 4, 5, 6, 7, 8, 9, 10, 21, 11, 12, 13, 14, 15, 16, 17, 18, 19, 20] rfl
        have hD := hD.sub (ws' := (dc_W h q g hp qp gp tq tg tn tx hj qj gj hm qm gm hp hp (.ref (q 0)) I2 A M MB L RI3 RA1 N1 NB1 NL1)) [0, 1, 2, 3, 4, 5, 6, 7, 8, 9, 10, 21, 11, 12, 13, 14, 15, 16, 17, 18, 19, 20] (by decide) rfl
        refine va_put (D := (dC, dI)) (ci := 0) (v := .ref hm) (ty := .object "DraftTree$Automaton") (C := R_D) (T := F_D) (N := 14) hx hb hts (fun w h => List.mem_cons_of_mem _ (in_D w h)) t_D tk_D n_D hown hK hP hD hS 0 rfl rfl 9 (by decide) (hts _ (List.mem_cons_of_mem _ lk_247)) (fun _ h9 => h9) rfl (by decide +kernel) rfl rfl (Nat.le_of_ble_eq_true rfl) d_D_compile_47 (fun H locs hP hD hS => ?_)
        have hP : va_P (dC, dI) vwCl (dc_W h q g hp qp gp tq tg tn tx hj qj gj hm qm gm hm hp (.ref (q 0)) I2 A M MB L RI3 RA1 N1 NB1 NL1) H := hP
        have hD : va_D B9 (dc_W h q g hp qp gp tq tg tn tx hj qj gj hm qm gm hm hp (.ref (q 0)) I2 A M MB L RI3 RA1 N1 NB1 NL1) := hD
        refine lv_aload_n hx hb d_D_compile_50 rfl (lv_at hl 0 rfl) ?_
        refine lv_iconst (v := 1) hx hb d_D_compile_51 (by decide) ?_
        refine va_put (D := (dC, dI)) (ci := 0) (v := .int 1) (ty := .boolean) (C := R_D) (T := F_D) (N := 14) hx hb hts (fun w h => List.mem_cons_of_mem _ (in_D w h)) t_D tk_D n_D hown hK hP hD hS 0 rfl rfl 10 (by decide) (hts _ (List.mem_cons_of_mem _ lk_431)) (fun _ h9 => h9) rfl (by decide +kernel) rfl rfl (Nat.le_of_ble_eq_true rfl) d_D_compile_52 (fun H locs hP hD hS => ?_)
        obtain ⟨I4, hI4, hf⟩ := wk_letE hf
        have hP : va_P (dC, dI) vwCl (dc_W h q g hp qp gp tq tg tn tx hj qj gj hm qm gm hm hp (.ref (q 0)) I4 A M MB L RI3 RA1 N1 NB1 NL1) H := by rw [hI4]; exact hP
        have hD : va_D B9 (dc_W h q g hp qp gp tq tg tn tx hj qj gj hm qm gm hm hp (.ref (q 0)) I4 A M MB L RI3 RA1 N1 NB1 NL1) := by rw [hI4]; exact hD
        clear hI4
        refine lv_aload_n hx hb d_D_compile_55 rfl (lv_at hl 0 rfl) ?_
        refine lv_iconst (v := 0) hx hb d_D_compile_56 (by decide) ?_
        refine va_put (D := (dC, dI)) (ci := 0) (v := .int 0) (ty := .int) (C := R_D) (T := F_D) (N := 14) hx hb hts (fun w h => List.mem_cons_of_mem _ (in_D w h)) t_D tk_D n_D hown hK hP hD hS 0 rfl rfl 1 (by decide) (hts _ (List.mem_cons_of_mem _ lk_313)) (fun _ h9 => h9) rfl (by decide +kernel) rfl rfl (Nat.le_of_ble_eq_true rfl) d_D_compile_57 (fun H locs hP hD hS => ?_)
        obtain ⟨I5, hI5, hf⟩ := wk_letE hf
        have hP : va_P (dC, dI) vwCl (dc_W h q g hp qp gp tq tg tn tx hj qj gj hm qm gm hm hp (.ref (q 0)) I5 A M MB L RI3 RA1 N1 NB1 NL1) H := by rw [hI5]; exact hP
        have hD : va_D B9 (dc_W h q g hp qp gp tq tg tn tx hj qj gj hm qm gm hm hp (.ref (q 0)) I5 A M MB L RI3 RA1 N1 NB1 NL1) := by rw [hI5]; exact hD
        clear hI5
        obtain ⟨e0, e1, e2, e3, e4, e5, e6, e7, e8, e9, e10, e11⟩ := wk_inj11 hf
        subst e1
        subst e2
        subst e3
        subst e4
        subst e5
        subst e6
        subst e7
        subst e8
        subst e9
        subst e10
        subst e11
        exact W.vret hx hb hr (fun t ht hW => ⟨⟨(), rfl, rfl, by rw [ht]; exact hP, va_K.moved hW.alike hK, hD⟩, hS.F ht⟩) hS.2.2 d_D_compile_60
    ·
      have hf := wk_iff hc1 hf
      exact (wk_tag (by decide) hf).elim
set_option maxHeartbeats 8000000 in
set_option maxRecDepth 100000 in
theorem ct_D_compile_3 (l : Launch) (hfl : l.flags = flags0) (dC : Nat → ClassId) (dI : Nat → Nat → Nat) (h : Nat) (q : Nat → Nat) (g : Nat → ClassId) (hp : Nat) (qp : Nat → Nat) (gp : Nat → ClassId) (tq : Nat) (tg : ClassId) (tn : Nat) (tx : Nat → Int32) (hj : Nat) (qj : Nat → Nat) (gj : Nat → ClassId) (hm : Nat) (qm : Nat → Nat) (gm : Nat → ClassId) (sf : Value) (sz : Nat) (I : MI) (A : MA) (M : MI) (MB : MA) (L : ML) (RI : MI) (RA : MA) (N : MI) (NB : MA) (NL : ML) (r : Int32) (I' : MI) (A' : MA) (M' : MI) (MB' : MA) (L' : ML) (RI' : MI) (RA' : MA) (N' : MI) (NB' : MA) (NL' : ML) (hf : f_D_compile I A M MB L RI RA N NB NL  = some (3, r, I', A', M', MB', L', RI', RA', N', NB', NL')) : th_Met l y_D_compile w_D_compile ({ frames := 6, cells := 1, slots := 6, locals := 131 }) (va_Pc [.ref h] (fun U => U.heap.size = sz ∧ va_P (dC, dI) vwCl (dc_W h q g hp qp gp tq tg tn tx hj qj gj hm qm gm hp hm sf I A M MB L RI RA N NB NL) U.heap ∧ va_K (dC, dI) vwCl (dc_T h q g hp qp gp tq tg tn tx hj qj gj hm qm gm hp hm sf) U ∧ va_D (fun _ => True) (dc_W h q g hp qp gp tq tg tn tx hj qj gj hm qm gm hp hm sf I A M MB L RI RA N NB NL) ∧ th_ZA (va_A (dc_W h q g hp qp gp tq tg tn tx hj qj gj hm qm gm hp hm sf I A M MB L RI RA N NB NL) sz) U)) (th_Qw "java/lang/IllegalArgumentException" (fun t => va_P (dC, dI) vwCl (dc_W h q g hp qp gp tq tg tn tx hj qj gj hm qm gm hp hm (.ref (q 0)) I' A' M' MB' L' RI' RA' N' NB' NL') t.heap ∧ va_K (dC, dI) vwCl (dc_T h q g hp qp gp tq tg tn tx hj qj gj hm qm gm hp hm sf) t ∧ va_D (va_A (dc_W h q g hp qp gp tq tg tn tx hj qj gj hm qm gm hp hm sf I A M MB L RI RA N NB NL) sz) (dc_W h q g hp qp gp tq tg tn tx hj qj gj hm qm gm hp hm (.ref (q 0)) I' A' M' MB' L' RI' RA' N' NB' NL')) (va_A (dc_W h q g hp qp gp tq tg tn tx hj qj gj hm qm gm hp hm sf I A M MB L RI RA N NB NL) sz)) 1 6 (va_A (dc_W h q g hp qp gp tq tg tn tx hj qj gj hm qm gm hp hm sf I A M MB L RI RA N NB NL) sz) := by
  refine th_Met.ofW (cc := prog_1_method_7_code) (maxL := 1) (ret := none) (by decide) rfl ?_
  intro p e s m args below meth c s₁ B hml hnh hv
  obtain ⟨rfl, hsz, hP, hK, hD0, hZ⟩ := hv
  have hx := B.exec
  have hb := B.bytes
  have hr := B.returns
  have hts := atoms_spec (ws := w_D_compile) B.pre
  have hown : s.vm.findClass "DraftTree" = some m.cls := findClass_of_methodNamed B.named
  have hlocks := B.notSynchronized
  have htr := Launch.traces_off hfl B.admits
  subst hsz
  have hD := hD0.self (sz := s.heap.size)
  generalize hAe : va_A (dc_W h q g hp qp gp tq tg tn tx hj qj gj hm qm gm hp hm sf I A M MB L RI RA N NB NL) s.heap.size = B9 at hD hZ ⊢
  have hA : ∀ q : Nat, s.heap.size ≤ q → B9 q := fun q h => by rw [← hAe]; exact Or.inr h
  clear hAe
  have hS : va_S B9 s.heap s.heap [] := va_S.rf
  have hl := lv_entry ([.ref h]) (n := 1) (Nat.le_of_ble_eq_true rfl)
  rw [lg_entry_eq]
  generalize (lg_sl ([.ref h]) ++ List.replicate (1 - (lg_sl ([.ref h])).length) Slot.unset).toArray = ls at hl ⊢
  have hl : lv_has ls 1 [(0, .ref h)] := hl
  unfold f_D_compile at hf
  refine lv_aload_n hx hb d_D_compile_0 rfl (lv_at hl 0 rfl) ?_
  refine lv_aload_n hx hb d_D_compile_1 rfl (lv_at hl 0 rfl) ?_
  refine va_get (D := (dC, dI)) (ci := 0) (v := .ref hj) (C := R_D) (T := F_D) (N := 14) hx hb hts (fun w h => List.mem_cons_of_mem _ (in_D w h)) hown hK hP 0 rfl rfl 8 (by decide) (hts _ (List.mem_cons_of_mem _ lk_311)) (fun _ h9 => h9) rfl d_D_compile_2 ?_
  refine lv_aload_n hx hb d_D_compile_5 rfl (lv_at hl 0 rfl) ?_
  refine va_get (D := (dC, dI)) (ci := 0) (v := .ref (q 0)) (C := R_D) (T := F_D) (N := 14) hx hb hts (fun w h => List.mem_cons_of_mem _ (in_D w h)) hown hK hP 0 rfl rfl 0 (by decide) (hts _ (List.mem_cons_of_mem _ lk_312)) (fun _ h9 => h9) rfl d_D_compile_6 ?_
  refine lv_aload_n hx hb d_D_compile_9 rfl (lv_at hl 0 rfl) ?_
  refine va_get (D := (dC, dI)) (ci := 0) (v := .int (I 1)) (C := R_D) (T := F_D) (N := 14) hx hb hts (fun w h => List.mem_cons_of_mem _ (in_D w h)) hown hK hP 0 rfl rfl 1 (by decide) (hts _ (List.mem_cons_of_mem _ lk_313)) (fun _ h9 => h9) rfl d_D_compile_10 ?_
  have hPc := hP.sub (ws' := (rq_W hj qj gj hm qm gm (q 0) (g 0) (A 0) sf RI RA N NB NL)) [11, 12, 13, 14, 15, 16, 17, 18, 19, 20, 21, 1] rfl
  have hDc := hD.sub (ws' := (rq_W hj qj gj hm qm gm (q 0) (g 0) (A 0) sf RI RA N NB NL)) [11, 12, 13, 14, 15, 16, 17, 18, 19, 20, 21, 1] (by decide) rfl
  have hKc := hK.sub (tys' := (rq_T hj qj gj hm qm gm (q 0) (g 0) (A 0) sf)) [9, 10, 11, 12, 13, 14, 15, 16, 17, 0] rfl
  have hFc := va_free (wc := (rq_W hj qj gj hm qm gm (q 0) (g 0) (A 0) sf RI RA N NB NL)) hD hS hA [11, 12, 13, 14, 15, 16, 17, 18, 19, 20, 21, 1] rfl
  cases hg1 : f_P_read (A 0) RI RA N NB NL (I 1) with
  | none => rw [hg1] at hf; cases hf
  | some z1 =>
    obtain ⟨r1, RI1, RA1, N1, NB1, NL1⟩ := z1
    rw [hg1] at hf
    dsimp only [Option.bind_some] at hf
    refine va_calli (va_runV (As := [.ref (q 0), .int (I 1)]) (rest := [.ref h]) ⟨hx, hb, hml, hown, hts⟩ (cm_P_read l dC dI hj qj gj hm qm gm (q 0) (g 0) (A 0) sf _  RI RA N NB NL (I 1) r1 RI1 RA1 N1 NB1 NL1 hg1) (cwV 2 hts (gd_v lk_423 lk_424 lk_425 lk_349 lk_422) rfl rfl rfl (by decide +kernel) ⟨Nat.le_of_ble_eq_true rfl, Nat.le_of_ble_eq_true rfl⟩) ⟨fun a U g mk q => by obtain ⟨q0, q1, qP, qK, qD⟩ := q; exact ⟨q0, q1, qP, va_K.moved (u := U) (U := U.calling g mk a) (Vm.Alike.refl U.vm) qK, qD⟩, va_recv (ci := 2) (q0 := 11) hK hP rfl rfl, fun U hU hW => ⟨rfl, by rw [hU], by rw [hU]; exact hPc, va_K.moved hW.alike hKc, hDc.weaken (fun _ _ _ _ => trivial)⟩⟩ rfl rfl hl.1 rfl (lv_room (Nat.le_of_ble_eq_true rfl)) d_D_compile_13 ⟨Nat.le_of_ble_eq_true rfl, Nat.le_of_ble_eq_true rfl⟩) hS (fun q _ h => hFc q h) hFc (fun r9 u t H1 locs ht hvm hw hB hz1 hk1 hS => ?_)
    obtain ⟨hP1, hK1, hD1⟩ := hB
    rw [ht] at hP1
    rw [hw]
    obtain ⟨hP, hD⟩ := va_join (wr := (([0, 2, 3, 4, 5, 6, 7, 8, 9, 10] : List Nat).map (fun i => ((dc_W h q g hp qp gp tq tg tn tx hj qj gj hm qm gm hp hm sf I A M MB L RI RA N NB NL)).getD i (0, .inr (0, []))))) (w1 := (rw_W hj qj gj hm qm gm (q 0) (g 0) (A 0) RI1 RA1 N1 NB1 NL1)) hP hD [11, 12, 13, 14, 15, 16, 17, 18, 19, 20, 21, 1] [0, 2, 3, 4, 5, 6, 7, 8, 9, 10] rfl rfl (by decide) (by decide) hk1 hFc hP1 hD1
    generalize H1 = H at hP hS ⊢
    have hP := hP.sub (ws' := (dc_W h q g hp qp gp tq tg tn tx hj qj gj hm qm gm hp hm (.ref (q 0)) I A M MB L RI1 RA1 N1 NB1 NL1)) [0, 21, 1, 2, 3, 4, 5, 6, 7, 8, 9, 10, 11, 12, 13, 14, 15, 16, 17, 18, 19, 20] rfl
    have hD := hD.sub (ws' := (dc_W h q g hp qp gp tq tg tn tx hj qj gj hm qm gm hp hm (.ref (q 0)) I A M MB L RI1 RA1 N1 NB1 NL1)) [0, 21, 1, 2, 3, 4, 5, 6, 7, 8, 9, 10, 11, 12, 13, 14, 15, 16, 17, 18, 19, 20] (by decide) rfl
    refine va_put (D := (dC, dI)) (ci := 0) (v := .int r1) (ty := .int) (C := R_D) (T := F_D) (N := 14) hx hb hts (fun w h => List.mem_cons_of_mem _ (in_D w h)) t_D tk_D n_D hown hK hP hD hS 0 rfl rfl 11 (by decide) (hts _ (List.mem_cons_of_mem _ lk_426)) (fun _ h9 => h9) rfl (by decide +kernel) rfl rfl (Nat.le_of_ble_eq_true rfl) d_D_compile_16 (fun H locs hP hD hS => ?_)
    obtain ⟨I2, hI2, hf⟩ := wk_letE hf
    have hP : va_P (dC, dI) vwCl (dc_W h q g hp qp gp tq tg tn tx hj qj gj hm qm gm hp hm (.ref (q 0)) I2 A M MB L RI1 RA1 N1 NB1 NL1) H := by rw [hI2]; exact hP
    have hD : va_D B9 (dc_W h q g hp qp gp tq tg tn tx hj qj gj hm qm gm hp hm (.ref (q 0)) I2 A M MB L RI1 RA1 N1 NB1 NL1) := by rw [hI2]; exact hD
    clear hI2
    refine lv_aload_n hx hb d_D_compile_19 rfl (lv_at hl 0 rfl) ?_
    refine va_get (D := (dC, dI)) (ci := 0) (v := .int (I2 11)) (C := R_D) (T := F_D) (N := 14) hx hb hts (fun w h => List.mem_cons_of_mem _ (in_D w h)) hown hK hP 0 rfl rfl 11 (by decide) (hts _ (List.mem_cons_of_mem _ lk_426)) (fun _ h9 => h9) rfl d_D_compile_20 ?_
    refine lv_iconst (v := (-1)) hx hb d_D_compile_23 (by decide) ?_
    refine lv_icmp_eq (tgt := 35) hx hb d_D_compile_24 (by decide) (fun hc1 => ?_) (fun hc1 => ?_)
    ·
      have hf := wk_ift hc1 hf
      refine lv_aload_n hx hb d_D_compile_35 rfl (lv_at hl 0 rfl) ?_
      refine lv_aload_n hx hb d_D_compile_36 rfl (lv_at hl 0 rfl) ?_
      refine va_get (D := (dC, dI)) (ci := 0) (v := .ref hj) (C := R_D) (T := F_D) (N := 14) hx hb hts (fun w h => List.mem_cons_of_mem _ (in_D w h)) hown hK hP 0 rfl rfl 8 (by decide) (hts _ (List.mem_cons_of_mem _ lk_311)) (fun _ h9 => h9) rfl d_D_compile_37 ?_
      refine lv_aload_n hx hb d_D_compile_40 rfl (lv_at hl 0 rfl) ?_
      refine va_get (D := (dC, dI)) (ci := 0) (v := .ref hp) (C := R_D) (T := F_D) (N := 14) hx hb hts (fun w h => List.mem_cons_of_mem _ (in_D w h)) hown hK hP 0 rfl rfl 9 (by decide) (hts _ (List.mem_cons_of_mem _ lk_247)) (fun _ h9 => h9) rfl d_D_compile_41 ?_
      have hPc := hP.sub (ws' := (hw_W hj qj hm (.ref (q 0)) RI1)) [11] rfl
      have hDc := hD.sub (ws' := (hw_W hj qj hm (.ref (q 0)) RI1)) [11] (by decide) rfl
      have hKc := hK.sub (tys' := (hw_T hj qj hm (.ref (q 0)))) [] rfl
      have hFc := va_free (wc := (hw_W hj qj hm (.ref (q 0)) RI1)) hD hS hA [11] rfl
      cases hg3 : f_P_handOver RI1 with
      | none => rw [hg3] at hf; cases hf
      | some z3 =>
        obtain ⟨r3, RI3⟩ := z3
        rw [hg3] at hf
        dsimp only [Option.bind_some] at hf
        refine va_callr (va_runV (As := [.ref hp]) (rest := [.ref h]) ⟨hx, hb, hml, hown, hts⟩ (cm_P_handOver l dC dI hj qj hm (.ref (q 0)) hp _  RI1 r3 RI3 hg3) (cwV 1 hts (gd_v lk_428 lk_429 lk_430 lk_349 lk_427) rfl rfl rfl (by decide +kernel) ⟨Nat.le_of_ble_eq_true rfl, Nat.le_of_ble_eq_true rfl⟩) ⟨fun a U g mk q => by obtain ⟨q0, q1, qP, qK, qD⟩ := q; exact ⟨q0, q1, qP, va_K.moved (u := U) (U := U.calling g mk a) (Vm.Alike.refl U.vm) qK, qD⟩, va_recv (ci := 2) (q0 := 11) hK hP rfl rfl, fun U hU hW => ⟨rfl, by rw [hU], by rw [hU]; exact hPc, va_K.moved hW.alike hKc, hDc.weaken (fun _ _ _ _ => trivial)⟩⟩ rfl rfl hl.1 rfl (lv_room (Nat.le_of_ble_eq_true rfl)) d_D_compile_44 ⟨Nat.le_of_ble_eq_true rfl, Nat.le_of_ble_eq_true rfl⟩) hS (fun q _ h => hFc q h) hFc (fun u ra t H1 locs ht hvm hw hB hz1 hk1 hS => ?_)
        obtain ⟨hra, hP1, hK1, hD1⟩ := hB
        rw [ht] at hP1
        rw [hra]
        obtain ⟨hP, hD⟩ := va_join (wr := (([0, 1, 2, 3, 4, 5, 6, 7, 8, 9, 10, 12, 13, 14, 15, 16, 17, 18, 19, 20, 21] : List Nat).map (fun i => ((dc_W h q g hp qp gp tq tg tn tx hj qj gj hm qm gm hp hm (.ref (q 0)) I2 A M MB L RI1 RA1 N1 NB1 NL1)).getD i (0, .inr (0, []))))) (w1 := (hw_W hj qj hp (.ref (q 0)) RI3)) hP hD [11] [0, 1, 2, 3, 4, 5, 6, 7, 8, 9, 10, 12, 13, 14, 15, 16, 17, 18, 19, 20, 21] rfl rfl (by decide) (by decide) hk1 hFc hP1 hD1
        generalize H1 = H at hP hS ⊢
        have hP := hP.sub (ws' := (dc_W h q g hp qp gp tq tg tn tx hj qj gj hm qm gm hp hp (.ref (q 0)) I2 A M MB L RI3 RA1 N1 NB1 NL1)) [0, 1, 2, 3, 4, 5, 6, 7, 8, 9, 10, 21, 11, 12, 13, 14, 15, 16, 17, 18, 19, 20] rfl
        have hD := hD.sub (ws' := (dc_W h q g hp qp gp tq tg tn tx hj qj gj hm qm gm hp hp (.ref (q 0)) I2 A M MB L RI3 RA1 N1 NB1 NL1)) [0, 1, 2, 3, 4, 5, 6, 7, 8, 9, 10, 21, 11, 12, 13, 14, 15, 16, 17, 18, 19, 20] (by decide) rfl
        refine va_put (D := (dC, dI)) (ci := 0) (v := .ref hm) (ty := .object "DraftTree$Automaton") (C := R_D) (T := F_D) (N := 14) hx hb hts (fun w h => List.mem_cons_of_mem _ (in_D w h)) t_D tk_D n_D hown hK hP hD hS 0 rfl rfl 9 (by decide) (hts _ (List.mem_cons_of_mem _ lk_247)) (fun _ h9 => h9) rfl (by decide +kernel) rfl rfl (Nat.le_of_ble_eq_true rfl) d_D_compile_47 (fun H locs hP hD hS => ?_)
        have hP : va_P (dC, dI) vwCl (dc_W h q g hp qp gp tq tg tn tx hj qj gj hm qm gm hm hp (.ref (q 0)) I2 A M MB L RI3 RA1 N1 NB1 NL1) H := hP
        have hD : va_D B9 (dc_W h q g hp qp gp tq tg tn tx hj qj gj hm qm gm hm hp (.ref (q 0)) I2 A M MB L RI3 RA1 N1 NB1 NL1) := hD
        refine lv_aload_n hx hb d_D_compile_50 rfl (lv_at hl 0 rfl) ?_
        refine lv_iconst (v := 1) hx hb d_D_compile_51 (by decide) ?_
        refine va_put (D := (dC, dI)) (ci := 0) (v := .int 1) (ty := .boolean) (C := R_D) (T := F_D) (N := 14) hx hb hts (fun w h => List.mem_cons_of_mem _ (in_D w h)) t_D tk_D n_D hown hK hP hD hS 0 rfl rfl 10 (by decide) (hts _ (List.mem_cons_of_mem _ lk_431)) (fun _ h9 => h9) rfl (by decide +kernel) rfl rfl (Nat.le_of_ble_eq_true rfl) d_D_compile_52 (fun H locs hP hD hS => ?_)
        obtain ⟨I4, hI4, hf⟩ := wk_letE hf
        have hP : va_P (dC, dI) vwCl (dc_W h q g hp qp gp tq tg tn tx hj qj gj hm qm gm hm hp (.ref (q 0)) I4 A M MB L RI3 RA1 N1 NB1 NL1) H := by rw [hI4]; exact hP
        have hD : va_D B9 (dc_W h q g hp qp gp tq tg tn tx hj qj gj hm qm gm hm hp (.ref (q 0)) I4 A M MB L RI3 RA1 N1 NB1 NL1) := by rw [hI4]; exact hD
        clear hI4
        refine lv_aload_n hx hb d_D_compile_55 rfl (lv_at hl 0 rfl) ?_
        refine lv_iconst (v := 0) hx hb d_D_compile_56 (by decide) ?_
        refine va_put (D := (dC, dI)) (ci := 0) (v := .int 0) (ty := .int) (C := R_D) (T := F_D) (N := 14) hx hb hts (fun w h => List.mem_cons_of_mem _ (in_D w h)) t_D tk_D n_D hown hK hP hD hS 0 rfl rfl 1 (by decide) (hts _ (List.mem_cons_of_mem _ lk_313)) (fun _ h9 => h9) rfl (by decide +kernel) rfl rfl (Nat.le_of_ble_eq_true rfl) d_D_compile_57 (fun H locs hP hD hS => ?_)
        obtain ⟨I5, hI5, hf⟩ := wk_letE hf
        have hP : va_P (dC, dI) vwCl (dc_W h q g hp qp gp tq tg tn tx hj qj gj hm qm gm hm hp (.ref (q 0)) I5 A M MB L RI3 RA1 N1 NB1 NL1) H := by rw [hI5]; exact hP
        have hD : va_D B9 (dc_W h q g hp qp gp tq tg tn tx hj qj gj hm qm gm hm hp (.ref (q 0)) I5 A M MB L RI3 RA1 N1 NB1 NL1) := by rw [hI5]; exact hD
        clear hI5
        exact (wk_tag (by decide) hf).elim
    ·
      have hf := wk_iff hc1 hf
      obtain ⟨e0, e1, e2, e3, e4, e5, e6, e7, e8, e9, e10, e11⟩ := wk_inj11 hf
      subst e1
      subst e2
      subst e3
      subst e4
      subst e5
      subst e6
      subst e7
      subst e8
      subst e9
      subst e10
      subst e11
      exact th_newG hx hb htr hown (by decide) (by decide) (wk_thr hts hZ hS lk_432 lk_433 (fun _ a9 b9 => oa_1 a9 b9)) hnh (by rw [hl.1, hml]) hS (Nat.le_of_ble_eq_true rfl) (Nat.le_of_ble_eq_true rfl) (Nat.le_of_ble_eq_true rfl) (Nat.le_of_ble_eq_true rfl) (Nat.le_of_ble_eq_true rfl) (Nat.le_of_ble_eq_true rfl) hlocks (fun t hal hk => ⟨hP.kept (fun k q hq => hk _ (hP k q hq).lt), va_K.moved hal hK, hD⟩) d_D_compile_27 d_D_compile_30 d_D_compile_31 d_D_compile_34

set_option maxHeartbeats 8000000 in
set_option maxRecDepth 100000 in
theorem cm_D_fault (l : Launch) (dC : Nat → ClassId) (dI : Nat → Nat → Nat) (h : Nat) (q : Nat → Nat) (g : Nat → ClassId) (hp : Nat) (qp : Nat → Nat) (gp : Nat → ClassId) (tq : Nat) (tg : ClassId) (tn : Nat) (tx : Nat → Int32) (sz : Nat) (I : MI) (A : MA) (M : MI) (MB : MA) (L : ML) (r : Int32) (I' : MI) (A' : MA) (M' : MI) (MB' : MA) (L' : ML) (hf : f_D_fault tn tx I A M MB L  = some (r, I', A', M', MB', L')) : Met l y_D_fault w_D_fault ({ frames := 0, cells := 0, slots := 0, locals := 0 }) (va_Pc [.ref h] (fun U => U.heap.size = sz ∧ va_P (dC, dI) vwCl (dw_W h q g hp qp gp tq tg tn tx I A M MB L) U.heap ∧ va_K (dC, dI) vwCl (dw_T h q g hp qp gp tq tg tn tx) U ∧ va_D (fun _ => True) (dw_W h q g hp qp gp tq tg tn tx I A M MB L))) (va_Qi (fun (r9 : Int32) (_ : Unit) => r9 = r) (fun (_ : Unit) t => va_P (dC, dI) vwCl (dw_W h q g hp qp gp tq tg tn tx I' A' M' MB' L') t.heap ∧ va_K (dC, dI) vwCl (dw_T h q g hp qp gp tq tg tn tx) t ∧ va_D (va_A (dw_W h q g hp qp gp tq tg tn tx I A M MB L) sz) (dw_W h q g hp qp gp tq tg tn tx I' A' M' MB' L')) (va_A (dw_W h q g hp qp gp tq tg tn tx I A M MB L) sz)) 0 0 (va_A (dw_W h q g hp qp gp tq tg tn tx I A M MB L) sz) := by
  refine Met.ofW (cc := prog_1_method_8_code) (maxL := 1) (ret := (some .int)) (by decide) rfl ?_
  intro p e s m args below meth c s₁ B hml hv
  obtain ⟨rfl, hsz, hP, hK, hD0⟩ := hv
  have hx := B.exec
  have hb := B.bytes
  have hr := B.returns
  have hts := atoms_spec (ws := w_D_fault) B.pre
  have hown : s.vm.findClass "DraftTree" = some m.cls := findClass_of_methodNamed B.named
  have hlocks := B.notSynchronized
  subst hsz
  have hD := hD0.self (sz := s.heap.size)
  generalize hAe : va_A (dw_W h q g hp qp gp tq tg tn tx I A M MB L) s.heap.size = B9 at hD ⊢
  have hA : ∀ q : Nat, s.heap.size ≤ q → B9 q := fun q h => by rw [← hAe]; exact Or.inr h
  clear hAe
  have hS : va_S B9 s.heap s.heap [] := va_S.rf
  have hl := lv_entry ([.ref h]) (n := 1) (Nat.le_of_ble_eq_true rfl)
  rw [lg_entry_eq]
  generalize (lg_sl ([.ref h]) ++ List.replicate (1 - (lg_sl ([.ref h])).length) Slot.unset).toArray = ls at hl ⊢
  have hl : lv_has ls 1 [(0, .ref h)] := hl
  unfold f_D_fault at hf
  refine lv_aload_n hx hb d_D_fault_0 rfl (lv_at hl 0 rfl) ?_
  refine va_get (D := (dC, dI)) (ci := 0) (v := .int (I 11)) (C := R_D) (T := F_D) (N := 14) hx hb hts (fun w h => List.mem_cons_of_mem _ (in_D w h)) hown hK hP 0 rfl rfl 11 (by decide) (hts _ (List.mem_cons_of_mem _ lk_426)) (fun _ h9 => h9) rfl d_D_fault_1 ?_
  obtain ⟨e0, e1, e2, e3, e4, e5⟩ := wk_inj5 hf
  subst e0
  subst e1
  subst e2
  subst e3
  subst e4
  subst e5
  exact W.iret (v := (I 11)) hx hb hr (fun t ht hW => ⟨⟨(I 11), (), rfl, rfl, by rw [ht]; exact hP, va_K.moved hW.alike hK, hD⟩, hS.F ht⟩) hS.2.2 d_D_fault_4

set_option maxHeartbeats 8000000 in
set_option maxRecDepth 100000 in
theorem cm_D_figure (l : Launch) (dC : Nat → ClassId) (dI : Nat → Nat → Nat) (h : Nat) (q : Nat → Nat) (g : Nat → ClassId) (hp : Nat) (qp : Nat → Nat) (gp : Nat → ClassId) (tq : Nat) (tg : ClassId) (tn : Nat) (tx : Nat → Int32) (sz : Nat) (I : MI) (A : MA) (M : MI) (MB : MA) (L : ML) (k1 : Int32) (r : Int32) (I' : MI) (A' : MA) (M' : MI) (MB' : MA) (L' : ML) (hf : f_D_figure tn tx I A M MB L  k1 = some (0, r, I', A', M', MB', L')) : Met l y_D_figure w_D_figure ({ frames := 0, cells := 0, slots := 0, locals := 0 }) (va_Pc [.ref h, .int k1] (fun U => U.heap.size = sz ∧ va_P (dC, dI) vwCl (dw_W h q g hp qp gp tq tg tn tx I A M MB L) U.heap ∧ va_K (dC, dI) vwCl (dw_T h q g hp qp gp tq tg tn tx) U ∧ va_D (fun _ => True) (dw_W h q g hp qp gp tq tg tn tx I A M MB L))) (va_Qi (fun (r9 : Int32) (_ : Unit) => r9 = r) (fun (_ : Unit) t => va_P (dC, dI) vwCl (dw_W h q g hp qp gp tq tg tn tx I' A' M' MB' L') t.heap ∧ va_K (dC, dI) vwCl (dw_T h q g hp qp gp tq tg tn tx) t ∧ va_D (va_A (dw_W h q g hp qp gp tq tg tn tx I A M MB L) sz) (dw_W h q g hp qp gp tq tg tn tx I' A' M' MB' L')) (va_A (dw_W h q g hp qp gp tq tg tn tx I A M MB L) sz)) 0 0 (va_A (dw_W h q g hp qp gp tq tg tn tx I A M MB L) sz) := by
  refine Met.ofW (cc := prog_1_method_17_code) (maxL := 2) (ret := (some .int)) (by decide) rfl ?_
  intro p e s m args below meth c s₁ B hml hv
  obtain ⟨rfl, hsz, hP, hK, hD0⟩ := hv
  have hx := B.exec
  have hb := B.bytes
  have hr := B.returns
  have hts := atoms_spec (ws := w_D_figure) B.pre
  have hown : s.vm.findClass "DraftTree" = some m.cls := findClass_of_methodNamed B.named
  have hlocks := B.notSynchronized
  subst hsz
  have hD := hD0.self (sz := s.heap.size)
  generalize hAe : va_A (dw_W h q g hp qp gp tq tg tn tx I A M MB L) s.heap.size = B9 at hD ⊢
  have hA : ∀ q : Nat, s.heap.size ≤ q → B9 q := fun q h => by rw [← hAe]; exact Or.inr h
  clear hAe
  have hS : va_S B9 s.heap s.heap [] := va_S.rf
  have hl := lv_entry ([.ref h, .int k1]) (n := 2) (Nat.le_of_ble_eq_true rfl)
  rw [lg_entry_eq]
  generalize (lg_sl ([.ref h, .int k1]) ++ List.replicate (2 - (lg_sl ([.ref h, .int k1])).length) Slot.unset).toArray = ls at hl ⊢
  have hl : lv_has ls 2 [(0, .ref h), (1, .int k1)] := hl
  unfold f_D_figure at hf
  refine lv_iload_n hx hb d_D_figure_0 rfl (lv_at hl 1 rfl) ?_
  by_cases hc1 : k1 = 0
  ·
    have hf := wk_ift hc1 hf
    refine wk_top (w := .int 0) (congrArg _ hc1) ?_
    refine lv_tableIn (off := 35) (tgt := 36) hx hb d_D_figure_1 (by decide) (by decide) (by decide) (by decide) ?_
    refine lv_aload_n hx hb d_D_figure_36 rfl (lv_at hl 0 rfl) ?_
    refine va_get (D := (dC, dI)) (ci := 0) (v := .int (I 4)) (C := R_D) (T := F_D) (N := 14) hx hb hts (fun w h => List.mem_cons_of_mem _ (in_D w h)) hown hK hP 0 rfl rfl 4 (by decide) (hts _ (List.mem_cons_of_mem _ lk_436)) (fun _ h9 => h9) rfl d_D_figure_37 ?_
    obtain ⟨e0, e1, e2, e3, e4, e5, e6⟩ := wk_inj6 hf
    subst e1
    subst e2
    subst e3
    subst e4
    subst e5
    subst e6
    exact W.iret (v := (I 4)) hx hb hr (fun t ht hW => ⟨⟨(I 4), (), rfl, rfl, by rw [ht]; exact hP, va_K.moved hW.alike hK, hD⟩, hS.F ht⟩) hS.2.2 d_D_figure_40
  ·
    have hf := wk_iff hc1 hf
    by_cases hc2 : k1 = 1
    ·
      have hf := wk_ift hc2 hf
      refine wk_top (w := .int 1) (congrArg _ hc2) ?_
      refine lv_tableIn (off := 40) (tgt := 41) hx hb d_D_figure_1 (by decide) (by decide) (by decide) (by decide) ?_
      refine lv_aload_n hx hb d_D_figure_41 rfl (lv_at hl 0 rfl) ?_
      refine va_get (D := (dC, dI)) (ci := 0) (v := .int (I 3)) (C := R_D) (T := F_D) (N := 14) hx hb hts (fun w h => List.mem_cons_of_mem _ (in_D w h)) hown hK hP 0 rfl rfl 3 (by decide) (hts _ (List.mem_cons_of_mem _ lk_437)) (fun _ h9 => h9) rfl d_D_figure_42 ?_
      obtain ⟨e0, e1, e2, e3, e4, e5, e6⟩ := wk_inj6 hf
      subst e1
      subst e2
      subst e3
      subst e4
      subst e5
      subst e6
      exact W.iret (v := (I 3)) hx hb hr (fun t ht hW => ⟨⟨(I 3), (), rfl, rfl, by rw [ht]; exact hP, va_K.moved hW.alike hK, hD⟩, hS.F ht⟩) hS.2.2 d_D_figure_45
    ·
      have hf := wk_iff hc2 hf
      by_cases hc3 : k1 = 2
      ·
        have hf := wk_ift hc3 hf
        refine wk_top (w := .int 2) (congrArg _ hc3) ?_
        refine lv_tableIn (off := 45) (tgt := 46) hx hb d_D_figure_1 (by decide) (by decide) (by decide) (by decide) ?_
        refine lv_aload_n hx hb d_D_figure_46 rfl (lv_at hl 0 rfl) ?_
        refine va_get (D := (dC, dI)) (ci := 0) (v := .int (I 6)) (C := R_D) (T := F_D) (N := 14) hx hb hts (fun w h => List.mem_cons_of_mem _ (in_D w h)) hown hK hP 0 rfl rfl 6 (by decide) (hts _ (List.mem_cons_of_mem _ lk_438)) (fun _ h9 => h9) rfl d_D_figure_47 ?_
        obtain ⟨e0, e1, e2, e3, e4, e5, e6⟩ := wk_inj6 hf
        subst e1
        subst e2
        subst e3
        subst e4
        subst e5
        subst e6
        exact W.iret (v := (I 6)) hx hb hr (fun t ht hW => ⟨⟨(I 6), (), rfl, rfl, by rw [ht]; exact hP, va_K.moved hW.alike hK, hD⟩, hS.F ht⟩) hS.2.2 d_D_figure_50
      ·
        have hf := wk_iff hc3 hf
        by_cases hc4 : k1 = 3
        ·
          have hf := wk_ift hc4 hf
          refine wk_top (w := .int 3) (congrArg _ hc4) ?_
          refine lv_tableIn (off := 50) (tgt := 51) hx hb d_D_figure_1 (by decide) (by decide) (by decide) (by decide) ?_
          refine lv_aload_n hx hb d_D_figure_51 rfl (lv_at hl 0 rfl) ?_
          refine va_get (D := (dC, dI)) (ci := 0) (v := .int (I 7)) (C := R_D) (T := F_D) (N := 14) hx hb hts (fun w h => List.mem_cons_of_mem _ (in_D w h)) hown hK hP 0 rfl rfl 7 (by decide) (hts _ (List.mem_cons_of_mem _ lk_439)) (fun _ h9 => h9) rfl d_D_figure_52 ?_
          obtain ⟨e0, e1, e2, e3, e4, e5, e6⟩ := wk_inj6 hf
          subst e1
          subst e2
          subst e3
          subst e4
          subst e5
          subst e6
          exact W.iret (v := (I 7)) hx hb hr (fun t ht hW => ⟨⟨(I 7), (), rfl, rfl, by rw [ht]; exact hP, va_K.moved hW.alike hK, hD⟩, hS.F ht⟩) hS.2.2 d_D_figure_55
        ·
          have hf := wk_iff hc4 hf
          by_cases hc5 : k1 = 4
          ·
            have hf := wk_ift hc5 hf
            refine wk_top (w := .int 4) (congrArg _ hc5) ?_
            refine lv_tableIn (off := 55) (tgt := 56) hx hb d_D_figure_1 (by decide) (by decide) (by decide) (by decide) ?_
            refine lv_aload_n hx hb d_D_figure_56 rfl (lv_at hl 0 rfl) ?_
            refine va_get (D := (dC, dI)) (ci := 0) (v := .int (I 1)) (C := R_D) (T := F_D) (N := 14) hx hb hts (fun w h => List.mem_cons_of_mem _ (in_D w h)) hown hK hP 0 rfl rfl 1 (by decide) (hts _ (List.mem_cons_of_mem _ lk_313)) (fun _ h9 => h9) rfl d_D_figure_57 ?_
            obtain ⟨e0, e1, e2, e3, e4, e5, e6⟩ := wk_inj6 hf
            subst e1
            subst e2
            subst e3
            subst e4
            subst e5
            subst e6
            exact W.iret (v := (I 1)) hx hb hr (fun t ht hW => ⟨⟨(I 1), (), rfl, rfl, by rw [ht]; exact hP, va_K.moved hW.alike hK, hD⟩, hS.F ht⟩) hS.2.2 d_D_figure_60
          ·
            have hf := wk_iff hc5 hf
            have nhc1 : ¬ (k1).toInt = 0 := fun z => hc1 ((wk_eq 0 (by decide)).mpr z)
            have nhc2 : ¬ (k1).toInt = 1 := fun z => hc2 ((wk_eq 1 (by decide)).mpr z)
            have nhc3 : ¬ (k1).toInt = 2 := fun z => hc3 ((wk_eq 2 (by decide)).mpr z)
            have nhc4 : ¬ (k1).toInt = 3 := fun z => hc4 ((wk_eq 3 (by decide)).mpr z)
            have nhc5 : ¬ (k1).toInt = 4 := fun z => hc5 ((wk_eq 4 (by decide)).mpr z)
            refine lv_tableOut (tgt := 61) hx hb d_D_figure_1 (by omega) (by decide) ?_
            exact (wk_tag (by decide) hf).elim
set_option maxHeartbeats 8000000 in
set_option maxRecDepth 100000 in
theorem ct_D_figure_3 (l : Launch) (hfl : l.flags = flags0) (dC : Nat → ClassId) (dI : Nat → Nat → Nat) (h : Nat) (q : Nat → Nat) (g : Nat → ClassId) (hp : Nat) (qp : Nat → Nat) (gp : Nat → ClassId) (tq : Nat) (tg : ClassId) (tn : Nat) (tx : Nat → Int32) (sz : Nat) (I : MI) (A : MA) (M : MI) (MB : MA) (L : ML) (k1 : Int32) (r : Int32) (I' : MI) (A' : MA) (M' : MI) (MB' : MA) (L' : ML) (hf : f_D_figure tn tx I A M MB L  k1 = some (3, r, I', A', M', MB', L')) : th_Met l y_D_figure w_D_figure ({ frames := 6, cells := 1, slots := 6, locals := 81 }) (va_Pc [.ref h, .int k1] (fun U => U.heap.size = sz ∧ va_P (dC, dI) vwCl (dw_W h q g hp qp gp tq tg tn tx I A M MB L) U.heap ∧ va_K (dC, dI) vwCl (dw_T h q g hp qp gp tq tg tn tx) U ∧ va_D (fun _ => True) (dw_W h q g hp qp gp tq tg tn tx I A M MB L) ∧ th_ZA (va_A (dw_W h q g hp qp gp tq tg tn tx I A M MB L) sz) U)) (th_Qw "java/lang/IllegalArgumentException" (fun t => va_P (dC, dI) vwCl (dw_W h q g hp qp gp tq tg tn tx I' A' M' MB' L') t.heap ∧ va_K (dC, dI) vwCl (dw_T h q g hp qp gp tq tg tn tx) t ∧ va_D (va_A (dw_W h q g hp qp gp tq tg tn tx I A M MB L) sz) (dw_W h q g hp qp gp tq tg tn tx I' A' M' MB' L')) (va_A (dw_W h q g hp qp gp tq tg tn tx I A M MB L) sz)) 1 6 (va_A (dw_W h q g hp qp gp tq tg tn tx I A M MB L) sz) := by
  refine th_Met.ofW (cc := prog_1_method_17_code) (maxL := 2) (ret := (some .int)) (by decide) rfl ?_
  intro p e s m args below meth c s₁ B hml hnh hv
  obtain ⟨rfl, hsz, hP, hK, hD0, hZ⟩ := hv
  have hx := B.exec
  have hb := B.bytes
  have hr := B.returns
  have hts := atoms_spec (ws := w_D_figure) B.pre
  have hown : s.vm.findClass "DraftTree" = some m.cls := findClass_of_methodNamed B.named
  have hlocks := B.notSynchronized
  have htr := Launch.traces_off hfl B.admits
  subst hsz
  have hD := hD0.self (sz := s.heap.size)
  generalize hAe : va_A (dw_W h q g hp qp gp tq tg tn tx I A M MB L) s.heap.size = B9 at hD hZ ⊢
  have hA : ∀ q : Nat, s.heap.size ≤ q → B9 q := fun q h => by rw [← hAe]; exact Or.inr h
  clear hAe
  have hS : va_S B9 s.heap s.heap [] := va_S.rf
  have hl := lv_entry ([.ref h, .int k1]) (n := 2) (Nat.le_of_ble_eq_true rfl)
  rw [lg_entry_eq]
  generalize (lg_sl ([.ref h, .int k1]) ++ List.replicate (2 - (lg_sl ([.ref h, .int k1])).length) Slot.unset).toArray = ls at hl ⊢
  have hl : lv_has ls 2 [(0, .ref h), (1, .int k1)] := hl
  unfold f_D_figure at hf
  refine lv_iload_n hx hb d_D_figure_0 rfl (lv_at hl 1 rfl) ?_
  by_cases hc1 : k1 = 0
  ·
    have hf := wk_ift hc1 hf
    refine wk_top (w := .int 0) (congrArg _ hc1) ?_
    refine lv_tableIn (off := 35) (tgt := 36) hx hb d_D_figure_1 (by decide) (by decide) (by decide) (by decide) ?_
    refine lv_aload_n hx hb d_D_figure_36 rfl (lv_at hl 0 rfl) ?_
    refine va_get (D := (dC, dI)) (ci := 0) (v := .int (I 4)) (C := R_D) (T := F_D) (N := 14) hx hb hts (fun w h => List.mem_cons_of_mem _ (in_D w h)) hown hK hP 0 rfl rfl 4 (by decide) (hts _ (List.mem_cons_of_mem _ lk_436)) (fun _ h9 => h9) rfl d_D_figure_37 ?_
    exact (wk_tag (by decide) hf).elim
  ·
    have hf := wk_iff hc1 hf
    by_cases hc2 : k1 = 1
    ·
      have hf := wk_ift hc2 hf
      refine wk_top (w := .int 1) (congrArg _ hc2) ?_
      refine lv_tableIn (off := 40) (tgt := 41) hx hb d_D_figure_1 (by decide) (by decide) (by decide) (by decide) ?_
      refine lv_aload_n hx hb d_D_figure_41 rfl (lv_at hl 0 rfl) ?_
      refine va_get (D := (dC, dI)) (ci := 0) (v := .int (I 3)) (C := R_D) (T := F_D) (N := 14) hx hb hts (fun w h => List.mem_cons_of_mem _ (in_D w h)) hown hK hP 0 rfl rfl 3 (by decide) (hts _ (List.mem_cons_of_mem _ lk_437)) (fun _ h9 => h9) rfl d_D_figure_42 ?_
      exact (wk_tag (by decide) hf).elim
    ·
      have hf := wk_iff hc2 hf
      by_cases hc3 : k1 = 2
      ·
        have hf := wk_ift hc3 hf
        refine wk_top (w := .int 2) (congrArg _ hc3) ?_
        refine lv_tableIn (off := 45) (tgt := 46) hx hb d_D_figure_1 (by decide) (by decide) (by decide) (by decide) ?_
        refine lv_aload_n hx hb d_D_figure_46 rfl (lv_at hl 0 rfl) ?_
        refine va_get (D := (dC, dI)) (ci := 0) (v := .int (I 6)) (C := R_D) (T := F_D) (N := 14) hx hb hts (fun w h => List.mem_cons_of_mem _ (in_D w h)) hown hK hP 0 rfl rfl 6 (by decide) (hts _ (List.mem_cons_of_mem _ lk_438)) (fun _ h9 => h9) rfl d_D_figure_47 ?_
        exact (wk_tag (by decide) hf).elim
      ·
        have hf := wk_iff hc3 hf
        by_cases hc4 : k1 = 3
        ·
          have hf := wk_ift hc4 hf
          refine wk_top (w := .int 3) (congrArg _ hc4) ?_
          refine lv_tableIn (off := 50) (tgt := 51) hx hb d_D_figure_1 (by decide) (by decide) (by decide) (by decide) ?_
          refine lv_aload_n hx hb d_D_figure_51 rfl (lv_at hl 0 rfl) ?_
          refine va_get (D := (dC, dI)) (ci := 0) (v := .int (I 7)) (C := R_D) (T := F_D) (N := 14) hx hb hts (fun w h => List.mem_cons_of_mem _ (in_D w h)) hown hK hP 0 rfl rfl 7 (by decide) (hts _ (List.mem_cons_of_mem _ lk_439)) (fun _ h9 => h9) rfl d_D_figure_52 ?_
          exact (wk_tag (by decide) hf).elim
        ·
          have hf := wk_iff hc4 hf
          by_cases hc5 : k1 = 4
          ·
            have hf := wk_ift hc5 hf
            refine wk_top (w := .int 4) (congrArg _ hc5) ?_
            refine lv_tableIn (off := 55) (tgt := 56) hx hb d_D_figure_1 (by decide) (by decide) (by decide) (by decide) ?_
            refine lv_aload_n hx hb d_D_figure_56 rfl (lv_at hl 0 rfl) ?_
            refine va_get (D := (dC, dI)) (ci := 0) (v := .int (I 1)) (C := R_D) (T := F_D) (N := 14) hx hb hts (fun w h => List.mem_cons_of_mem _ (in_D w h)) hown hK hP 0 rfl rfl 1 (by decide) (hts _ (List.mem_cons_of_mem _ lk_313)) (fun _ h9 => h9) rfl d_D_figure_57 ?_
            exact (wk_tag (by decide) hf).elim
          ·
            have hf := wk_iff hc5 hf
            have nhc1 : ¬ (k1).toInt = 0 := fun z => hc1 ((wk_eq 0 (by decide)).mpr z)
            have nhc2 : ¬ (k1).toInt = 1 := fun z => hc2 ((wk_eq 1 (by decide)).mpr z)
            have nhc3 : ¬ (k1).toInt = 2 := fun z => hc3 ((wk_eq 2 (by decide)).mpr z)
            have nhc4 : ¬ (k1).toInt = 3 := fun z => hc4 ((wk_eq 3 (by decide)).mpr z)
            have nhc5 : ¬ (k1).toInt = 4 := fun z => hc5 ((wk_eq 4 (by decide)).mpr z)
            refine lv_tableOut (tgt := 61) hx hb d_D_figure_1 (by omega) (by decide) ?_
            obtain ⟨e0, e1, e2, e3, e4, e5, e6⟩ := wk_inj6 hf
            subst e1
            subst e2
            subst e3
            subst e4
            subst e5
            subst e6
            exact th_newG hx hb htr hown (by decide) (by decide) (wk_thr hts hZ hS lk_432 lk_433 (fun _ a9 b9 => oa_1 a9 b9)) hnh (by rw [hl.1, hml]) hS (Nat.le_of_ble_eq_true rfl) (Nat.le_of_ble_eq_true rfl) (Nat.le_of_ble_eq_true rfl) (Nat.le_of_ble_eq_true rfl) (Nat.le_of_ble_eq_true rfl) (Nat.le_of_ble_eq_true rfl) hlocks (fun t hal hk => ⟨hP.kept (fun k q hq => hk _ (hP k q hq).lt), va_K.moved hal hK, hD⟩) d_D_figure_61 d_D_figure_64 d_D_figure_65 d_D_figure_68

-- 18.ccon08
set_option maxHeartbeats 8000000 in
set_option maxRecDepth 100000 in
theorem cm_D_requirePlace (l : Launch) (dC : Nat → ClassId) (dI : Nat → Nat → Nat) (h : Nat) (q : Nat → Nat) (g : Nat → ClassId) (hp : Nat) (qp : Nat → Nat) (gp : Nat → ClassId) (tq : Nat) (tg : ClassId) (tn : Nat) (tx : Nat → Int32) (sz : Nat) (I : MI) (A : MA) (M : MI) (MB : MA) (L : ML) (k1 : Int32) (r : Int32) (I' : MI) (A' : MA) (M' : MI) (MB' : MA) (L' : ML) (hf : f_D_requirePlace tn tx I A M MB L  k1 = some (0, r, I', A', M', MB', L')) : Met l y_D_requirePlace w_D_requirePlace ({ frames := 0, cells := 0, slots := 0, locals := 0 }) (va_Pc [.ref h, .int k1] (fun U => U.heap.size = sz ∧ va_P (dC, dI) vwCl (dw_W h q g hp qp gp tq tg tn tx I A M MB L) U.heap ∧ va_K (dC, dI) vwCl (dw_T h q g hp qp gp tq tg tn tx) U ∧ va_D (fun _ => True) (dw_W h q g hp qp gp tq tg tn tx I A M MB L))) (va_Qv (fun (u : Unit) => u = u) (fun (_ : Unit) t => va_P (dC, dI) vwCl (dw_W h q g hp qp gp tq tg tn tx I' A' M' MB' L') t.heap ∧ va_K (dC, dI) vwCl (dw_T h q g hp qp gp tq tg tn tx) t ∧ va_D (va_A (dw_W h q g hp qp gp tq tg tn tx I A M MB L) sz) (dw_W h q g hp qp gp tq tg tn tx I' A' M' MB' L')) (va_A (dw_W h q g hp qp gp tq tg tn tx I A M MB L) sz)) 0 0 (va_A (dw_W h q g hp qp gp tq tg tn tx I A M MB L) sz) := by
  refine Met.ofW (cc := prog_1_method_19_code) (maxL := 2) (ret := none) (by decide) rfl ?_
  intro p e s m args below meth c s₁ B hml hv
  obtain ⟨rfl, hsz, hP, hK, hD0⟩ := hv
  have hx := B.exec
  have hb := B.bytes
  have hr := B.returns
  have hts := atoms_spec (ws := w_D_requirePlace) B.pre
  have hown : s.vm.findClass "DraftTree" = some m.cls := findClass_of_methodNamed B.named
  have hlocks := B.notSynchronized
  subst hsz
  have hD := hD0.self (sz := s.heap.size)
  generalize hAe : va_A (dw_W h q g hp qp gp tq tg tn tx I A M MB L) s.heap.size = B9 at hD ⊢
  have hA : ∀ q : Nat, s.heap.size ≤ q → B9 q := fun q h => by rw [← hAe]; exact Or.inr h
  clear hAe
  have hS : va_S B9 s.heap s.heap [] := va_S.rf
  have hl := lv_entry ([.ref h, .int k1]) (n := 2) (Nat.le_of_ble_eq_true rfl)
  rw [lg_entry_eq]
  generalize (lg_sl ([.ref h, .int k1]) ++ List.replicate (2 - (lg_sl ([.ref h, .int k1])).length) Slot.unset).toArray = ls at hl ⊢
  have hl : lv_has ls 2 [(0, .ref h), (1, .int k1)] := hl
  have blk13 : ∀ (I : MI) (A : MA) (M : MI) (MB : MA) (L : ML) (X : Nat → Int32) (Y : Nat → Int64) (ls : Array Slot) (H : Heap) (locs : List Loc), f_D_requirePlace_13 tn tx I A M MB L X Y = some (0, r, I', A', M', MB', L') → lv_has ls 2 [(0, .ref h), (1, .int (X 1))] → va_P (dC, dI) vwCl (dw_W h q g hp qp gp tq tg tn tx I A M MB L) H → va_D B9 (dw_W h q g hp qp gp tq tg tn tx I A M MB L) → va_S B9 s.heap H locs → W p l e (headSpec w_D_requirePlace ({ frames := 0, cells := 0, slots := 0, locals := 0 })).room s m ([.ref h, .int k1] : List Value).toArray below meth c H locs 0 0 (MQ below (va_Qv (fun (u : Unit) => u = u) (fun (_ : Unit) t => va_P (dC, dI) vwCl (dw_W h q g hp qp gp tq tg tn tx I' A' M' MB' L') t.heap ∧ va_K (dC, dI) vwCl (dw_T h q g hp qp gp tq tg tn tx) t ∧ va_D B9 (dw_W h q g hp qp gp tq tg tn tx I' A' M' MB' L')) B9) ([.ref h, .int k1] : List Value).toArray s 0 0 B9) (F0 m 13 ls []) := by
    intro I A M MB L X Y ls H locs hf hl hP hD hS
    unfold f_D_requirePlace_13 at hf
    exact (wk_tag (by decide) hf).elim
  unfold f_D_requirePlace at hf
  refine lv_iload_n hx hb d_D_requirePlace_0 rfl (lv_at hl 1 rfl) ?_
  refine lv_if_lt (tgt := 13) hx hb d_D_requirePlace_1 (by decide) (fun hc1 => ?_) (fun hc1 => ?_)
  ·
    have hf := wk_ift hc1 hf
    exact blk13 I A M MB L (upd (fun _ => 0) 1 k1) (fun _ => 0) _ _ _ hf (lv_sub hl [0, 1] rfl) hP hD hS
  ·
    have hf := wk_iff hc1 hf
    refine lv_iload_n hx hb d_D_requirePlace_4 rfl (lv_at hl 1 rfl) ?_
    refine lv_aload_n hx hb d_D_requirePlace_5 rfl (lv_at hl 0 rfl) ?_
    refine va_get (D := (dC, dI)) (ci := 0) (v := .ref tq) (C := R_D) (T := F_D) (N := 14) hx hb hts (fun w h => List.mem_cons_of_mem _ (in_D w h)) hown hK hP 0 rfl rfl 5 (by decide) (hts _ (List.mem_cons_of_mem _ lk_242)) (fun _ h9 => h9) rfl d_D_requirePlace_6 ?_
    refine va_alen (v := (Int32.ofNat tn)) hx hb hK hP 10 8 rfl rfl rfl d_D_requirePlace_9 ?_
    refine lv_icmp_le (tgt := 21) hx hb d_D_requirePlace_10 (by decide) (fun hc2 => ?_) (fun hc2 => ?_)
    ·
      have hf := wk_ift hc2 hf
      obtain ⟨e0, e1, e2, e3, e4, e5, e6⟩ := wk_inj6 hf
      subst e1
      subst e2
      subst e3
      subst e4
      subst e5
      subst e6
      exact W.vret hx hb hr (fun t ht hW => ⟨⟨(), rfl, rfl, by rw [ht]; exact hP, va_K.moved hW.alike hK, hD⟩, hS.F ht⟩) hS.2.2 d_D_requirePlace_21
    ·
      have hf := wk_iff hc2 hf
      exact blk13 I A M MB L (upd (fun _ => 0) 1 k1) (fun _ => 0) _ _ _ hf (lv_sub hl [0, 1] rfl) hP hD hS
set_option maxHeartbeats 8000000 in
set_option maxRecDepth 100000 in
theorem ct_D_requirePlace_2 (l : Launch) (hfl : l.flags = flags0) (dC : Nat → ClassId) (dI : Nat → Nat → Nat) (h : Nat) (q : Nat → Nat) (g : Nat → ClassId) (hp : Nat) (qp : Nat → Nat) (gp : Nat → ClassId) (tq : Nat) (tg : ClassId) (tn : Nat) (tx : Nat → Int32) (sz : Nat) (I : MI) (A : MA) (M : MI) (MB : MA) (L : ML) (k1 : Int32) (r : Int32) (I' : MI) (A' : MA) (M' : MI) (MB' : MA) (L' : ML) (hf : f_D_requirePlace tn tx I A M MB L  k1 = some (2, r, I', A', M', MB', L')) : th_Met l y_D_requirePlace w_D_requirePlace ({ frames := 6, cells := 1, slots := 6, locals := 81 }) (va_Pc [.ref h, .int k1] (fun U => U.heap.size = sz ∧ va_P (dC, dI) vwCl (dw_W h q g hp qp gp tq tg tn tx I A M MB L) U.heap ∧ va_K (dC, dI) vwCl (dw_T h q g hp qp gp tq tg tn tx) U ∧ va_D (fun _ => True) (dw_W h q g hp qp gp tq tg tn tx I A M MB L) ∧ th_ZA (va_A (dw_W h q g hp qp gp tq tg tn tx I A M MB L) sz) U)) (th_Qw "java/lang/IndexOutOfBoundsException" (fun t => va_P (dC, dI) vwCl (dw_W h q g hp qp gp tq tg tn tx I' A' M' MB' L') t.heap ∧ va_K (dC, dI) vwCl (dw_T h q g hp qp gp tq tg tn tx) t ∧ va_D (va_A (dw_W h q g hp qp gp tq tg tn tx I A M MB L) sz) (dw_W h q g hp qp gp tq tg tn tx I' A' M' MB' L')) (va_A (dw_W h q g hp qp gp tq tg tn tx I A M MB L) sz)) 1 6 (va_A (dw_W h q g hp qp gp tq tg tn tx I A M MB L) sz) := by
  refine th_Met.ofW (cc := prog_1_method_19_code) (maxL := 2) (ret := none) (by decide) rfl ?_
  intro p e s m args below meth c s₁ B hml hnh hv
  obtain ⟨rfl, hsz, hP, hK, hD0, hZ⟩ := hv
  have hx := B.exec
  have hb := B.bytes
  have hr := B.returns
  have hts := atoms_spec (ws := w_D_requirePlace) B.pre
  have hown : s.vm.findClass "DraftTree" = some m.cls := findClass_of_methodNamed B.named
  have hlocks := B.notSynchronized
  have htr := Launch.traces_off hfl B.admits
  subst hsz
  have hD := hD0.self (sz := s.heap.size)
  generalize hAe : va_A (dw_W h q g hp qp gp tq tg tn tx I A M MB L) s.heap.size = B9 at hD hZ ⊢
  have hA : ∀ q : Nat, s.heap.size ≤ q → B9 q := fun q h => by rw [← hAe]; exact Or.inr h
  clear hAe
  have hS : va_S B9 s.heap s.heap [] := va_S.rf
  have hl := lv_entry ([.ref h, .int k1]) (n := 2) (Nat.le_of_ble_eq_true rfl)
  rw [lg_entry_eq]
  generalize (lg_sl ([.ref h, .int k1]) ++ List.replicate (2 - (lg_sl ([.ref h, .int k1])).length) Slot.unset).toArray = ls at hl ⊢
  have hl : lv_has ls 2 [(0, .ref h), (1, .int k1)] := hl
  have blk13 : ∀ (I : MI) (A : MA) (M : MI) (MB : MA) (L : ML) (X : Nat → Int32) (Y : Nat → Int64) (ls : Array Slot) (H : Heap) (locs : List Loc), f_D_requirePlace_13 tn tx I A M MB L X Y = some (2, r, I', A', M', MB', L') → lv_has ls 2 [(0, .ref h), (1, .int (X 1))] → va_P (dC, dI) vwCl (dw_W h q g hp qp gp tq tg tn tx I A M MB L) H → va_D B9 (dw_W h q g hp qp gp tq tg tn tx I A M MB L) → va_S B9 s.heap H locs → W p l e (headSpec w_D_requirePlace ({ frames := 6, cells := 1, slots := 6, locals := 81 })).room s m ([.ref h, .int k1] : List Value).toArray below meth c H locs 0 0 (th_Q below (th_Qw "java/lang/IndexOutOfBoundsException" (fun t => va_P (dC, dI) vwCl (dw_W h q g hp qp gp tq tg tn tx I' A' M' MB' L') t.heap ∧ va_K (dC, dI) vwCl (dw_T h q g hp qp gp tq tg tn tx) t ∧ va_D B9 (dw_W h q g hp qp gp tq tg tn tx I' A' M' MB' L')) B9) ([.ref h, .int k1] : List Value).toArray s 1 6 B9) (F0 m 13 ls []) := by
    intro I A M MB L X Y ls H locs hf hl hP hD hS
    unfold f_D_requirePlace_13 at hf
    obtain ⟨e0, e1, e2, e3, e4, e5, e6⟩ := wk_inj6 hf
    subst e1
    subst e2
    subst e3
    subst e4
    subst e5
    subst e6
    exact th_newG hx hb htr hown (by decide) (by decide) (wk_thr hts hZ hS lk_243 lk_244 (fun _ a9 b9 => oa_0 a9 b9)) hnh (by rw [hl.1, hml]) hS (Nat.le_of_ble_eq_true rfl) (Nat.le_of_ble_eq_true rfl) (Nat.le_of_ble_eq_true rfl) (Nat.le_of_ble_eq_true rfl) (Nat.le_of_ble_eq_true rfl) (Nat.le_of_ble_eq_true rfl) hlocks (fun t hal hk => ⟨hP.kept (fun k q hq => hk _ (hP k q hq).lt), va_K.moved hal hK, hD⟩) d_D_requirePlace_13 d_D_requirePlace_16 d_D_requirePlace_17 d_D_requirePlace_20
  unfold f_D_requirePlace at hf
  refine lv_iload_n hx hb d_D_requirePlace_0 rfl (lv_at hl 1 rfl) ?_
  refine lv_if_lt (tgt := 13) hx hb d_D_requirePlace_1 (by decide) (fun hc1 => ?_) (fun hc1 => ?_)
  ·
    have hf := wk_ift hc1 hf
    exact blk13 I A M MB L (upd (fun _ => 0) 1 k1) (fun _ => 0) _ _ _ hf (lv_sub hl [0, 1] rfl) hP hD hS
  ·
    have hf := wk_iff hc1 hf
    refine lv_iload_n hx hb d_D_requirePlace_4 rfl (lv_at hl 1 rfl) ?_
    refine lv_aload_n hx hb d_D_requirePlace_5 rfl (lv_at hl 0 rfl) ?_
    refine va_get (D := (dC, dI)) (ci := 0) (v := .ref tq) (C := R_D) (T := F_D) (N := 14) hx hb hts (fun w h => List.mem_cons_of_mem _ (in_D w h)) hown hK hP 0 rfl rfl 5 (by decide) (hts _ (List.mem_cons_of_mem _ lk_242)) (fun _ h9 => h9) rfl d_D_requirePlace_6 ?_
    refine va_alen (v := (Int32.ofNat tn)) hx hb hK hP 10 8 rfl rfl rfl d_D_requirePlace_9 ?_
    refine lv_icmp_le (tgt := 21) hx hb d_D_requirePlace_10 (by decide) (fun hc2 => ?_) (fun hc2 => ?_)
    ·
      have hf := wk_ift hc2 hf
      exact (wk_tag (by decide) hf).elim
    ·
      have hf := wk_iff hc2 hf
      exact blk13 I A M MB L (upd (fun _ => 0) 1 k1) (fun _ => 0) _ _ _ hf (lv_sub hl [0, 1] rfl) hP hD hS

set_option maxHeartbeats 8000000 in
set_option maxRecDepth 100000 in
theorem cm_D_find (l : Launch) (dC : Nat → ClassId) (dI : Nat → Nat → Nat) (h : Nat) (q : Nat → Nat) (g : Nat → ClassId) (hp : Nat) (qp : Nat → Nat) (gp : Nat → ClassId) (tq : Nat) (tg : ClassId) (tn : Nat) (tx : Nat → Int32) (sz : Nat) (I : MI) (A : MA) (M : MI) (MB : MA) (L : ML) (k1 : Int32) (r : Int32) (I' : MI) (A' : MA) (M' : MI) (MB' : MA) (L' : ML) (hf : f_D_find tn tx I A M MB L  k1 = some (0, r, I', A', M', MB', L')) : Met l y_D_find w_D_find ({ frames := 5, cells := 0, slots := 0, locals := 127 }) (va_Pc [.ref h, .int k1] (fun U => U.heap.size = sz ∧ va_P (dC, dI) vwCl (dw_W h q g hp qp gp tq tg tn tx I A M MB L) U.heap ∧ va_K (dC, dI) vwCl (dw_T h q g hp qp gp tq tg tn tx) U ∧ va_D (fun _ => True) (dw_W h q g hp qp gp tq tg tn tx I A M MB L))) (va_Qi (fun (r9 : Int32) (_ : Unit) => r9 = r) (fun (_ : Unit) t => va_P (dC, dI) vwCl (dw_W h q g hp qp gp tq tg tn tx I' A' M' MB' L') t.heap ∧ va_K (dC, dI) vwCl (dw_T h q g hp qp gp tq tg tn tx) t ∧ va_D (va_A (dw_W h q g hp qp gp tq tg tn tx I A M MB L) sz) (dw_W h q g hp qp gp tq tg tn tx I' A' M' MB' L')) (va_A (dw_W h q g hp qp gp tq tg tn tx I A M MB L) sz)) 0 0 (va_A (dw_W h q g hp qp gp tq tg tn tx I A M MB L) sz) := by
  refine Met.ofW (cc := prog_1_method_9_code) (maxL := 2) (ret := (some .int)) (by decide) rfl ?_
  intro p e s m args below meth c s₁ B hml hv
  obtain ⟨rfl, hsz, hP, hK, hD0⟩ := hv
  have hx := B.exec
  have hb := B.bytes
  have hr := B.returns
  have hts := atoms_spec (ws := w_D_find) B.pre
  have hown : s.vm.findClass "DraftTree" = some m.cls := findClass_of_methodNamed B.named
  have hlocks := B.notSynchronized
  subst hsz
  have hD := hD0.self (sz := s.heap.size)
  generalize hAe : va_A (dw_W h q g hp qp gp tq tg tn tx I A M MB L) s.heap.size = B9 at hD ⊢
  have hA : ∀ q : Nat, s.heap.size ≤ q → B9 q := fun q h => by rw [← hAe]; exact Or.inr h
  clear hAe
  have hS : va_S B9 s.heap s.heap [] := va_S.rf
  have hl := lv_entry ([.ref h, .int k1]) (n := 2) (Nat.le_of_ble_eq_true rfl)
  rw [lg_entry_eq]
  generalize (lg_sl ([.ref h, .int k1]) ++ List.replicate (2 - (lg_sl ([.ref h, .int k1])).length) Slot.unset).toArray = ls at hl ⊢
  have hl : lv_has ls 2 [(0, .ref h), (1, .int k1)] := hl
  unfold f_D_find at hf
  refine lv_aload_n hx hb d_D_find_0 rfl (lv_at hl 0 rfl) ?_
  refine va_get (D := (dC, dI)) (ci := 0) (v := .int (I 10)) (C := R_D) (T := F_D) (N := 14) hx hb hts (fun w h => List.mem_cons_of_mem _ (in_D w h)) hown hK hP 0 rfl rfl 10 (by decide) (hts _ (List.mem_cons_of_mem _ lk_431)) (fun _ h9 => h9) rfl d_D_find_1 ?_
  refine lv_if_ne (tgt := 15) hx hb d_D_find_4 (by decide) (fun hc1 => ?_) (fun hc1 => ?_)
  ·
    have hf := wk_iff hc1 hf
    refine lv_aload_n hx hb d_D_find_15 rfl (lv_at hl 0 rfl) ?_
    refine lv_iload_n hx hb d_D_find_16 rfl (lv_at hl 1 rfl) ?_
    have hPc := hP.sub (ws' := (dw_W h q g hp qp gp tq tg tn tx I A M MB L)) [0, 1, 2, 3, 4, 5, 6, 7, 8, 9, 10] rfl
    have hDc := hD.sub (ws' := (dw_W h q g hp qp gp tq tg tn tx I A M MB L)) [0, 1, 2, 3, 4, 5, 6, 7, 8, 9, 10] (by decide) rfl
    have hKc := hK.sub (tys' := (dw_T h q g hp qp gp tq tg tn tx)) [0, 1, 2, 3, 4, 5, 6, 7, 8] rfl
    have hFc := va_free (wc := (dw_W h q g hp qp gp tq tg tn tx I A M MB L)) hD hS hA [0, 1, 2, 3, 4, 5, 6, 7, 8, 9, 10] rfl
    cases hg1 : f_D_requirePlace tn tx I A M MB L k1 with
    | none => rw [hg1] at hf; cases hf
    | some z1 =>
      obtain ⟨tg1, r1, I1, A1, M1, MB1, L1⟩ := z1
      rw [hg1] at hf
      dsimp only [Option.bind_some] at hf
      by_cases ht1 : tg1 = 0
      ·
        have hf := wk_ift ht1 hf
        rw [ht1] at hg1
        refine va_callv (va_runV (As := [.int k1]) (rest := []) ⟨hx, hb, hml, hown, hts⟩ (cm_D_requirePlace l dC dI h q g hp qp gp tq tg tn tx _  I A M MB L k1 r1 I1 A1 M1 MB1 L1 hg1) (cwV 1 hts (gd_v lk_442 lk_443 lk_444 lk_445 lk_441) rfl rfl rfl (by decide +kernel) ⟨Nat.le_of_ble_eq_true rfl, Nat.le_of_ble_eq_true rfl⟩) ⟨fun a U g mk q => by obtain ⟨q0, q1, qP, qK, qD⟩ := q; exact ⟨q0, q1, qP, va_K.moved (u := U) (U := U.calling g mk a) (Vm.Alike.refl U.vm) qK, qD⟩, va_recv (ci := 0) (q0 := 0) hK hP rfl rfl, fun U hU hW => ⟨rfl, by rw [hU], by rw [hU]; exact hPc, va_K.moved hW.alike hKc, hDc.weaken (fun _ _ _ _ => trivial)⟩⟩ rfl rfl hl.1 rfl (lv_room (Nat.le_of_ble_eq_true rfl)) d_D_find_17 ⟨Nat.le_of_ble_eq_true rfl, Nat.le_of_ble_eq_true rfl⟩) hS (fun q _ h => hFc q h) hFc (fun u t H1 locs ht hvm hw hB hz1 hk1 hS => ?_)
        obtain ⟨hP1, hK1, hD1⟩ := hB
        rw [ht] at hP1
        obtain ⟨hP, hD⟩ := va_join (wr := (([] : List Nat).map (fun i => ((dw_W h q g hp qp gp tq tg tn tx I A M MB L)).getD i (0, .inr (0, []))))) (w1 := (dw_W h q g hp qp gp tq tg tn tx I1 A1 M1 MB1 L1)) hP hD [0, 1, 2, 3, 4, 5, 6, 7, 8, 9, 10] [] rfl rfl (by decide) (by decide) hk1 hFc hP1 hD1
        generalize H1 = H at hP hS ⊢
        have hP := hP.sub (ws' := (dw_W h q g hp qp gp tq tg tn tx I1 A1 M1 MB1 L1)) [0, 1, 2, 3, 4, 5, 6, 7, 8, 9, 10] rfl
        have hD := hD.sub (ws' := (dw_W h q g hp qp gp tq tg tn tx I1 A1 M1 MB1 L1)) [0, 1, 2, 3, 4, 5, 6, 7, 8, 9, 10] (by decide) rfl
        refine lv_aload_n hx hb d_D_find_20 rfl (lv_at hl 0 rfl) ?_
        refine va_get (D := (dC, dI)) (ci := 0) (v := .ref hp) (C := R_D) (T := F_D) (N := 14) hx hb hts (fun w h => List.mem_cons_of_mem _ (in_D w h)) hown hK hP 0 rfl rfl 9 (by decide) (hts _ (List.mem_cons_of_mem _ lk_247)) (fun _ h9 => h9) rfl d_D_find_21 ?_
        refine lv_aload_n hx hb d_D_find_24 rfl (lv_at hl 0 rfl) ?_
        refine va_get (D := (dC, dI)) (ci := 0) (v := .ref tq) (C := R_D) (T := F_D) (N := 14) hx hb hts (fun w h => List.mem_cons_of_mem _ (in_D w h)) hown hK hP 0 rfl rfl 5 (by decide) (hts _ (List.mem_cons_of_mem _ lk_242)) (fun _ h9 => h9) rfl d_D_find_25 ?_
        refine lv_iload_n hx hb d_D_find_28 rfl (lv_at hl 1 rfl) ?_
        have hPc := hP.sub (ws' := (at_W hp qp gp tq tg tn tx M1 MB1 L1)) [4, 5, 6, 7, 8, 9, 10] rfl
        have hDc := hD.sub (ws' := (at_W hp qp gp tq tg tn tx M1 MB1 L1)) [4, 5, 6, 7, 8, 9, 10] (by decide) rfl
        have hKc := hK.sub (tys' := (at_T hp qp gp tq tg tn tx)) [3, 4, 5, 6, 7, 8] rfl
        have hFc := va_free (wc := (at_W hp qp gp tq tg tn tx M1 MB1 L1)) hD hS hA [4, 5, 6, 7, 8, 9, 10] rfl
        cases hg2 : f_A_seek tn tx M1 MB1 L1 k1 with
        | none => rw [hg2] at hf; cases hf
        | some z2 =>
          obtain ⟨r2, M2, MB2, L2⟩ := z2
          rw [hg2] at hf
          dsimp only [Option.bind_some] at hf
          refine va_calli (va_runV (As := [.ref tq, .int k1]) (rest := []) ⟨hx, hb, hml, hown, hts⟩ (cm_A_seek l dC dI hp qp gp tq tg tn tx _  M1 MB1 L1 k1 r2 M2 MB2 L2 hg2) (cwV 2 hts (gd_v lk_303 lk_304 lk_305 lk_274 lk_302) rfl rfl rfl (by decide +kernel) ⟨Nat.le_of_ble_eq_true rfl, Nat.le_of_ble_eq_true rfl⟩) ⟨fun a U g mk q => by obtain ⟨q0, q1, qP, qK, qD⟩ := q; exact ⟨q0, q1, qP, va_K.moved (u := U) (U := U.calling g mk a) (Vm.Alike.refl U.vm) qK, qD⟩, va_recv (ci := 3) (q0 := 4) hK hP rfl rfl, fun U hU hW => ⟨rfl, by rw [hU], by rw [hU]; exact hPc, va_K.moved hW.alike hKc, hDc.weaken (fun _ _ _ _ => trivial)⟩⟩ rfl rfl hl.1 rfl (lv_room (Nat.le_of_ble_eq_true rfl)) d_D_find_29 ⟨Nat.le_of_ble_eq_true rfl, Nat.le_of_ble_eq_true rfl⟩) hS (fun q _ h => hFc q h) hFc (fun r9 u t H1 locs ht hvm hw hB hz1 hk1 hS => ?_)
          obtain ⟨hP1, hK1, hD1⟩ := hB
          rw [ht] at hP1
          rw [hw]
          obtain ⟨hP, hD⟩ := va_join (wr := (([0, 1, 2, 3] : List Nat).map (fun i => ((dw_W h q g hp qp gp tq tg tn tx I1 A1 M1 MB1 L1)).getD i (0, .inr (0, []))))) (w1 := (at_W hp qp gp tq tg tn tx M2 MB2 L2)) hP hD [4, 5, 6, 7, 8, 9, 10] [0, 1, 2, 3] rfl rfl (by decide) (by decide) hk1 hFc hP1 hD1
          generalize H1 = H at hP hS ⊢
          have hP := hP.sub (ws' := (dw_W h q g hp qp gp tq tg tn tx I1 A1 M2 MB2 L2)) [0, 1, 2, 3, 4, 5, 6, 7, 8, 9, 10] rfl
          have hD := hD.sub (ws' := (dw_W h q g hp qp gp tq tg tn tx I1 A1 M2 MB2 L2)) [0, 1, 2, 3, 4, 5, 6, 7, 8, 9, 10] (by decide) rfl
          refine lv_if_ne (tgt := 43) hx hb d_D_find_32 (by decide) (fun hc2 => ?_) (fun hc2 => ?_)
          ·
            have hf := wk_iff hc2 hf
            refine lv_aload_n hx hb d_D_find_43 rfl (lv_at hl 0 rfl) ?_
            refine lv_aload_n hx hb d_D_find_44 rfl (lv_at hl 0 rfl) ?_
            refine va_get (D := (dC, dI)) (ci := 0) (v := .ref hp) (C := R_D) (T := F_D) (N := 14) hx hb hts (fun w h => List.mem_cons_of_mem _ (in_D w h)) hown hK hP 0 rfl rfl 9 (by decide) (hts _ (List.mem_cons_of_mem _ lk_247)) (fun _ h9 => h9) rfl d_D_find_45 ?_
            refine va_get (D := (dC, dI)) (ci := 3) (v := .int (M2 8)) (C := R_A) (T := F_A) (N := 10) hx hb hts (fun w h => List.mem_cons_of_mem _ (in_A w h)) hown hK hP 4 rfl rfl 8 (by decide) (hts _ (List.mem_cons_of_mem _ lk_307)) (fun _ h9 => h9) rfl d_D_find_48 ?_
            refine va_put (D := (dC, dI)) (ci := 0) (v := .int (M2 8)) (ty := .int) (C := R_D) (T := F_D) (N := 14) hx hb hts (fun w h => List.mem_cons_of_mem _ (in_D w h)) t_D tk_D n_D hown hK hP hD hS 0 rfl rfl 7 (by decide) (hts _ (List.mem_cons_of_mem _ lk_439)) (fun _ h9 => h9) rfl (by decide +kernel) rfl rfl (Nat.le_of_ble_eq_true rfl) d_D_find_51 (fun H locs hP hD hS => ?_)
            obtain ⟨I3, hI3, hf⟩ := wk_letE hf
            have hP : va_P (dC, dI) vwCl (dw_W h q g hp qp gp tq tg tn tx I3 A1 M2 MB2 L2) H := by rw [hI3]; exact hP
            have hD : va_D B9 (dw_W h q g hp qp gp tq tg tn tx I3 A1 M2 MB2 L2) := by rw [hI3]; exact hD
            clear hI3
            refine lv_aload_n hx hb d_D_find_54 rfl (lv_at hl 0 rfl) ?_
            refine lv_aload_n hx hb d_D_find_55 rfl (lv_at hl 0 rfl) ?_
            refine va_get (D := (dC, dI)) (ci := 0) (v := .ref hp) (C := R_D) (T := F_D) (N := 14) hx hb hts (fun w h => List.mem_cons_of_mem _ (in_D w h)) hown hK hP 0 rfl rfl 9 (by decide) (hts _ (List.mem_cons_of_mem _ lk_247)) (fun _ h9 => h9) rfl d_D_find_56 ?_
            refine va_get (D := (dC, dI)) (ci := 3) (v := .int (M2 9)) (C := R_A) (T := F_A) (N := 10) hx hb hts (fun w h => List.mem_cons_of_mem _ (in_A w h)) hown hK hP 4 rfl rfl 9 (by decide) (hts _ (List.mem_cons_of_mem _ lk_309)) (fun _ h9 => h9) rfl d_D_find_59 ?_
            refine va_put (D := (dC, dI)) (ci := 0) (v := .int (M2 9)) (ty := .int) (C := R_D) (T := F_D) (N := 14) hx hb hts (fun w h => List.mem_cons_of_mem _ (in_D w h)) t_D tk_D n_D hown hK hP hD hS 0 rfl rfl 6 (by decide) (hts _ (List.mem_cons_of_mem _ lk_438)) (fun _ h9 => h9) rfl (by decide +kernel) rfl rfl (Nat.le_of_ble_eq_true rfl) d_D_find_62 (fun H locs hP hD hS => ?_)
            obtain ⟨I4, hI4, hf⟩ := wk_letE hf
            have hP : va_P (dC, dI) vwCl (dw_W h q g hp qp gp tq tg tn tx I4 A1 M2 MB2 L2) H := by rw [hI4]; exact hP
            have hD : va_D B9 (dw_W h q g hp qp gp tq tg tn tx I4 A1 M2 MB2 L2) := by rw [hI4]; exact hD
            clear hI4
            refine lv_aload_n hx hb d_D_find_65 rfl (lv_at hl 0 rfl) ?_
            refine va_get (D := (dC, dI)) (ci := 0) (v := .int (I4 7)) (C := R_D) (T := F_D) (N := 14) hx hb hts (fun w h => List.mem_cons_of_mem _ (in_D w h)) hown hK hP 0 rfl rfl 7 (by decide) (hts _ (List.mem_cons_of_mem _ lk_439)) (fun _ h9 => h9) rfl d_D_find_66 ?_
            obtain ⟨e0, e1, e2, e3, e4, e5, e6⟩ := wk_inj6 hf
            subst e1
            subst e2
            subst e3
            subst e4
            subst e5
            subst e6
            exact W.iret (v := (I4 7)) hx hb hr (fun t ht hW => ⟨⟨(I4 7), (), rfl, rfl, by rw [ht]; exact hP, va_K.moved hW.alike hK, hD⟩, hS.F ht⟩) hS.2.2 d_D_find_69
          ·
            have hf := wk_ift hc2 hf
            exact (wk_tag (by decide) hf).elim
      ·
        have hf := wk_iff ht1 hf
        by_cases hq1_2 : tg1 = 2
        ·
          have hf := wk_ift hq1_2 hf
          exact (wk_tag (by decide) hf).elim
        ·
          have hf := wk_iff hq1_2 hf
          cases hf
  ·
    have hf := wk_ift hc1 hf
    exact (wk_tag (by decide) hf).elim
set_option maxHeartbeats 8000000 in
set_option maxRecDepth 100000 in
theorem ct_D_find_1 (l : Launch) (hfl : l.flags = flags0) (dC : Nat → ClassId) (dI : Nat → Nat → Nat) (h : Nat) (q : Nat → Nat) (g : Nat → ClassId) (hp : Nat) (qp : Nat → Nat) (gp : Nat → ClassId) (tq : Nat) (tg : ClassId) (tn : Nat) (tx : Nat → Int32) (sz : Nat) (I : MI) (A : MA) (M : MI) (MB : MA) (L : ML) (k1 : Int32) (r : Int32) (I' : MI) (A' : MA) (M' : MI) (MB' : MA) (L' : ML) (hf : f_D_find tn tx I A M MB L  k1 = some (1, r, I', A', M', MB', L')) : th_Met l y_D_find w_D_find ({ frames := 7, cells := 1, slots := 6, locals := 127 }) (va_Pc [.ref h, .int k1] (fun U => U.heap.size = sz ∧ va_P (dC, dI) vwCl (dw_W h q g hp qp gp tq tg tn tx I A M MB L) U.heap ∧ va_K (dC, dI) vwCl (dw_T h q g hp qp gp tq tg tn tx) U ∧ va_D (fun _ => True) (dw_W h q g hp qp gp tq tg tn tx I A M MB L) ∧ th_ZA (va_A (dw_W h q g hp qp gp tq tg tn tx I A M MB L) sz) U)) (th_Qw "java/lang/IllegalStateException" (fun t => va_P (dC, dI) vwCl (dw_W h q g hp qp gp tq tg tn tx I' A' M' MB' L') t.heap ∧ va_K (dC, dI) vwCl (dw_T h q g hp qp gp tq tg tn tx) t ∧ va_D (va_A (dw_W h q g hp qp gp tq tg tn tx I A M MB L) sz) (dw_W h q g hp qp gp tq tg tn tx I' A' M' MB' L')) (va_A (dw_W h q g hp qp gp tq tg tn tx I A M MB L) sz)) 1 6 (va_A (dw_W h q g hp qp gp tq tg tn tx I A M MB L) sz) := by
  refine th_Met.ofW (cc := prog_1_method_9_code) (maxL := 2) (ret := (some .int)) (by decide) rfl ?_
  intro p e s m args below meth c s₁ B hml hnh hv
  obtain ⟨rfl, hsz, hP, hK, hD0, hZ⟩ := hv
  have hx := B.exec
  have hb := B.bytes
  have hr := B.returns
  have hts := atoms_spec (ws := w_D_find) B.pre
  have hown : s.vm.findClass "DraftTree" = some m.cls := findClass_of_methodNamed B.named
  have hlocks := B.notSynchronized
  have htr := Launch.traces_off hfl B.admits
  subst hsz
  have hD := hD0.self (sz := s.heap.size)
  generalize hAe : va_A (dw_W h q g hp qp gp tq tg tn tx I A M MB L) s.heap.size = B9 at hD hZ ⊢
  have hA : ∀ q : Nat, s.heap.size ≤ q → B9 q := fun q h => by rw [← hAe]; exact Or.inr h
  clear hAe
  have hS : va_S B9 s.heap s.heap [] := va_S.rf
  have hl := lv_entry ([.ref h, .int k1]) (n := 2) (Nat.le_of_ble_eq_true rfl)
  rw [lg_entry_eq]
  generalize (lg_sl ([.ref h, .int k1]) ++ List.replicate (2 - (lg_sl ([.ref h, .int k1])).length) Slot.unset).toArray = ls at hl ⊢
  have hl : lv_has ls 2 [(0, .ref h), (1, .int k1)] := hl
  unfold f_D_find at hf
  refine lv_aload_n hx hb d_D_find_0 rfl (lv_at hl 0 rfl) ?_
  refine va_get (D := (dC, dI)) (ci := 0) (v := .int (I 10)) (C := R_D) (T := F_D) (N := 14) hx hb hts (fun w h => List.mem_cons_of_mem _ (in_D w h)) hown hK hP 0 rfl rfl 10 (by decide) (hts _ (List.mem_cons_of_mem _ lk_431)) (fun _ h9 => h9) rfl d_D_find_1 ?_
  refine lv_if_ne (tgt := 15) hx hb d_D_find_4 (by decide) (fun hc1 => ?_) (fun hc1 => ?_)
  ·
    have hf := wk_iff hc1 hf
    refine lv_aload_n hx hb d_D_find_15 rfl (lv_at hl 0 rfl) ?_
    refine lv_iload_n hx hb d_D_find_16 rfl (lv_at hl 1 rfl) ?_
    have hPc := hP.sub (ws' := (dw_W h q g hp qp gp tq tg tn tx I A M MB L)) [0, 1, 2, 3, 4, 5, 6, 7, 8, 9, 10] rfl
    have hDc := hD.sub (ws' := (dw_W h q g hp qp gp tq tg tn tx I A M MB L)) [0, 1, 2, 3, 4, 5, 6, 7, 8, 9, 10] (by decide) rfl
    have hKc := hK.sub (tys' := (dw_T h q g hp qp gp tq tg tn tx)) [0, 1, 2, 3, 4, 5, 6, 7, 8] rfl
    have hFc := va_free (wc := (dw_W h q g hp qp gp tq tg tn tx I A M MB L)) hD hS hA [0, 1, 2, 3, 4, 5, 6, 7, 8, 9, 10] rfl
    cases hg1 : f_D_requirePlace tn tx I A M MB L k1 with
    | none => rw [hg1] at hf; cases hf
    | some z1 =>
      obtain ⟨tg1, r1, I1, A1, M1, MB1, L1⟩ := z1
      rw [hg1] at hf
      dsimp only [Option.bind_some] at hf
      by_cases ht1 : tg1 = 0
      ·
        have hf := wk_ift ht1 hf
        rw [ht1] at hg1
        refine va_callv (va_runV (As := [.int k1]) (rest := []) ⟨hx, hb, hml, hown, hts⟩ (cm_D_requirePlace l dC dI h q g hp qp gp tq tg tn tx _  I A M MB L k1 r1 I1 A1 M1 MB1 L1 hg1) (cwV 1 hts (gd_v lk_442 lk_443 lk_444 lk_445 lk_441) rfl rfl rfl (by decide +kernel) ⟨Nat.le_of_ble_eq_true rfl, Nat.le_of_ble_eq_true rfl⟩) ⟨fun a U g mk q => by obtain ⟨q0, q1, qP, qK, qD⟩ := q; exact ⟨q0, q1, qP, va_K.moved (u := U) (U := U.calling g mk a) (Vm.Alike.refl U.vm) qK, qD⟩, va_recv (ci := 0) (q0 := 0) hK hP rfl rfl, fun U hU hW => ⟨rfl, by rw [hU], by rw [hU]; exact hPc, va_K.moved hW.alike hKc, hDc.weaken (fun _ _ _ _ => trivial)⟩⟩ rfl rfl hl.1 rfl (lv_room (Nat.le_of_ble_eq_true rfl)) d_D_find_17 ⟨Nat.le_of_ble_eq_true rfl, Nat.le_of_ble_eq_true rfl⟩) hS (fun q _ h => hFc q h) hFc (fun u t H1 locs ht hvm hw hB hz1 hk1 hS => ?_)
        obtain ⟨hP1, hK1, hD1⟩ := hB
        rw [ht] at hP1
        obtain ⟨hP, hD⟩ := va_join (wr := (([] : List Nat).map (fun i => ((dw_W h q g hp qp gp tq tg tn tx I A M MB L)).getD i (0, .inr (0, []))))) (w1 := (dw_W h q g hp qp gp tq tg tn tx I1 A1 M1 MB1 L1)) hP hD [0, 1, 2, 3, 4, 5, 6, 7, 8, 9, 10] [] rfl rfl (by decide) (by decide) hk1 hFc hP1 hD1
        generalize H1 = H at hP hS ⊢
        have hP := hP.sub (ws' := (dw_W h q g hp qp gp tq tg tn tx I1 A1 M1 MB1 L1)) [0, 1, 2, 3, 4, 5, 6, 7, 8, 9, 10] rfl
        have hD := hD.sub (ws' := (dw_W h q g hp qp gp tq tg tn tx I1 A1 M1 MB1 L1)) [0, 1, 2, 3, 4, 5, 6, 7, 8, 9, 10] (by decide) rfl
        refine lv_aload_n hx hb d_D_find_20 rfl (lv_at hl 0 rfl) ?_
        refine va_get (D := (dC, dI)) (ci := 0) (v := .ref hp) (C := R_D) (T := F_D) (N := 14) hx hb hts (fun w h => List.mem_cons_of_mem _ (in_D w h)) hown hK hP 0 rfl rfl 9 (by decide) (hts _ (List.mem_cons_of_mem _ lk_247)) (fun _ h9 => h9) rfl d_D_find_21 ?_
        refine lv_aload_n hx hb d_D_find_24 rfl (lv_at hl 0 rfl) ?_
        refine va_get (D := (dC, dI)) (ci := 0) (v := .ref tq) (C := R_D) (T := F_D) (N := 14) hx hb hts (fun w h => List.mem_cons_of_mem _ (in_D w h)) hown hK hP 0 rfl rfl 5 (by decide) (hts _ (List.mem_cons_of_mem _ lk_242)) (fun _ h9 => h9) rfl d_D_find_25 ?_
        refine lv_iload_n hx hb d_D_find_28 rfl (lv_at hl 1 rfl) ?_
        have hPc := hP.sub (ws' := (at_W hp qp gp tq tg tn tx M1 MB1 L1)) [4, 5, 6, 7, 8, 9, 10] rfl
        have hDc := hD.sub (ws' := (at_W hp qp gp tq tg tn tx M1 MB1 L1)) [4, 5, 6, 7, 8, 9, 10] (by decide) rfl
        have hKc := hK.sub (tys' := (at_T hp qp gp tq tg tn tx)) [3, 4, 5, 6, 7, 8] rfl
        have hFc := va_free (wc := (at_W hp qp gp tq tg tn tx M1 MB1 L1)) hD hS hA [4, 5, 6, 7, 8, 9, 10] rfl
        cases hg2 : f_A_seek tn tx M1 MB1 L1 k1 with
        | none => rw [hg2] at hf; cases hf
        | some z2 =>
          obtain ⟨r2, M2, MB2, L2⟩ := z2
          rw [hg2] at hf
          dsimp only [Option.bind_some] at hf
          refine va_calli (va_runV (As := [.ref tq, .int k1]) (rest := []) ⟨hx, hb, hml, hown, hts⟩ (cm_A_seek l dC dI hp qp gp tq tg tn tx _  M1 MB1 L1 k1 r2 M2 MB2 L2 hg2) (cwV 2 hts (gd_v lk_303 lk_304 lk_305 lk_274 lk_302) rfl rfl rfl (by decide +kernel) ⟨Nat.le_of_ble_eq_true rfl, Nat.le_of_ble_eq_true rfl⟩) ⟨fun a U g mk q => by obtain ⟨q0, q1, qP, qK, qD⟩ := q; exact ⟨q0, q1, qP, va_K.moved (u := U) (U := U.calling g mk a) (Vm.Alike.refl U.vm) qK, qD⟩, va_recv (ci := 3) (q0 := 4) hK hP rfl rfl, fun U hU hW => ⟨rfl, by rw [hU], by rw [hU]; exact hPc, va_K.moved hW.alike hKc, hDc.weaken (fun _ _ _ _ => trivial)⟩⟩ rfl rfl hl.1 rfl (lv_room (Nat.le_of_ble_eq_true rfl)) d_D_find_29 ⟨Nat.le_of_ble_eq_true rfl, Nat.le_of_ble_eq_true rfl⟩) hS (fun q _ h => hFc q h) hFc (fun r9 u t H1 locs ht hvm hw hB hz1 hk1 hS => ?_)
          obtain ⟨hP1, hK1, hD1⟩ := hB
          rw [ht] at hP1
          rw [hw]
          obtain ⟨hP, hD⟩ := va_join (wr := (([0, 1, 2, 3] : List Nat).map (fun i => ((dw_W h q g hp qp gp tq tg tn tx I1 A1 M1 MB1 L1)).getD i (0, .inr (0, []))))) (w1 := (at_W hp qp gp tq tg tn tx M2 MB2 L2)) hP hD [4, 5, 6, 7, 8, 9, 10] [0, 1, 2, 3] rfl rfl (by decide) (by decide) hk1 hFc hP1 hD1
          generalize H1 = H at hP hS ⊢
          have hP := hP.sub (ws' := (dw_W h q g hp qp gp tq tg tn tx I1 A1 M2 MB2 L2)) [0, 1, 2, 3, 4, 5, 6, 7, 8, 9, 10] rfl
          have hD := hD.sub (ws' := (dw_W h q g hp qp gp tq tg tn tx I1 A1 M2 MB2 L2)) [0, 1, 2, 3, 4, 5, 6, 7, 8, 9, 10] (by decide) rfl
          refine lv_if_ne (tgt := 43) hx hb d_D_find_32 (by decide) (fun hc2 => ?_) (fun hc2 => ?_)
          ·
            have hf := wk_iff hc2 hf
            refine lv_aload_n hx hb d_D_find_43 rfl (lv_at hl 0 rfl) ?_
            refine lv_aload_n hx hb d_D_find_44 rfl (lv_at hl 0 rfl) ?_
            refine va_get (D := (dC, dI)) (ci := 0) (v := .ref hp) (C := R_D) (T := F_D) (N := 14) hx hb hts (fun w h => List.mem_cons_of_mem _ (in_D w h)) hown hK hP 0 rfl rfl 9 (by decide) (hts _ (List.mem_cons_of_mem _ lk_247)) (fun _ h9 => h9) rfl d_D_find_45 ?_
            refine va_get (D := (dC, dI)) (ci := 3) (v := .int (M2 8)) (C := R_A) (T := F_A) (N := 10) hx hb hts (fun w h => List.mem_cons_of_mem _ (in_A w h)) hown hK hP 4 rfl rfl 8 (by decide) (hts _ (List.mem_cons_of_mem _ lk_307)) (fun _ h9 => h9) rfl d_D_find_48 ?_
            refine va_put (D := (dC, dI)) (ci := 0) (v := .int (M2 8)) (ty := .int) (C := R_D) (T := F_D) (N := 14) hx hb hts (fun w h => List.mem_cons_of_mem _ (in_D w h)) t_D tk_D n_D hown hK hP hD hS 0 rfl rfl 7 (by decide) (hts _ (List.mem_cons_of_mem _ lk_439)) (fun _ h9 => h9) rfl (by decide +kernel) rfl rfl (Nat.le_of_ble_eq_true rfl) d_D_find_51 (fun H locs hP hD hS => ?_)
            obtain ⟨I3, hI3, hf⟩ := wk_letE hf
            have hP : va_P (dC, dI) vwCl (dw_W h q g hp qp gp tq tg tn tx I3 A1 M2 MB2 L2) H := by rw [hI3]; exact hP
            have hD : va_D B9 (dw_W h q g hp qp gp tq tg tn tx I3 A1 M2 MB2 L2) := by rw [hI3]; exact hD
            clear hI3
            refine lv_aload_n hx hb d_D_find_54 rfl (lv_at hl 0 rfl) ?_
            refine lv_aload_n hx hb d_D_find_55 rfl (lv_at hl 0 rfl) ?_
            refine va_get (D := (dC, dI)) (ci := 0) (v := .ref hp) (C := R_D) (T := F_D) (N := 14) hx hb hts (fun w h => List.mem_cons_of_mem _ (in_D w h)) hown hK hP 0 rfl rfl 9 (by decide) (hts _ (List.mem_cons_of_mem _ lk_247)) (fun _ h9 => h9) rfl d_D_find_56 ?_
            refine va_get (D := (dC, dI)) (ci := 3) (v := .int (M2 9)) (C := R_A) (T := F_A) (N := 10) hx hb hts (fun w h => List.mem_cons_of_mem _ (in_A w h)) hown hK hP 4 rfl rfl 9 (by decide) (hts _ (List.mem_cons_of_mem _ lk_309)) (fun _ h9 => h9) rfl d_D_find_59 ?_
            refine va_put (D := (dC, dI)) (ci := 0) (v := .int (M2 9)) (ty := .int) (C := R_D) (T := F_D) (N := 14) hx hb hts (fun w h => List.mem_cons_of_mem _ (in_D w h)) t_D tk_D n_D hown hK hP hD hS 0 rfl rfl 6 (by decide) (hts _ (List.mem_cons_of_mem _ lk_438)) (fun _ h9 => h9) rfl (by decide +kernel) rfl rfl (Nat.le_of_ble_eq_true rfl) d_D_find_62 (fun H locs hP hD hS => ?_)
            obtain ⟨I4, hI4, hf⟩ := wk_letE hf
            have hP : va_P (dC, dI) vwCl (dw_W h q g hp qp gp tq tg tn tx I4 A1 M2 MB2 L2) H := by rw [hI4]; exact hP
            have hD : va_D B9 (dw_W h q g hp qp gp tq tg tn tx I4 A1 M2 MB2 L2) := by rw [hI4]; exact hD
            clear hI4
            refine lv_aload_n hx hb d_D_find_65 rfl (lv_at hl 0 rfl) ?_
            refine va_get (D := (dC, dI)) (ci := 0) (v := .int (I4 7)) (C := R_D) (T := F_D) (N := 14) hx hb hts (fun w h => List.mem_cons_of_mem _ (in_D w h)) hown hK hP 0 rfl rfl 7 (by decide) (hts _ (List.mem_cons_of_mem _ lk_439)) (fun _ h9 => h9) rfl d_D_find_66 ?_
            exact (wk_tag (by decide) hf).elim
          ·
            have hf := wk_ift hc2 hf
            exact (wk_tag (by decide) hf).elim
      ·
        have hf := wk_iff ht1 hf
        by_cases hq1_2 : tg1 = 2
        ·
          have hf := wk_ift hq1_2 hf
          exact (wk_tag (by decide) hf).elim
        ·
          have hf := wk_iff hq1_2 hf
          cases hf
  ·
    have hf := wk_ift hc1 hf
    obtain ⟨e0, e1, e2, e3, e4, e5, e6⟩ := wk_inj6 hf
    subst e1
    subst e2
    subst e3
    subst e4
    subst e5
    subst e6
    exact th_newG hx hb htr hown (by decide) (by decide) (wk_thr hts hZ hS lk_446 lk_447 (fun _ a9 b9 => oa_2 a9 b9)) hnh (by rw [hl.1, hml]) hS (Nat.le_of_ble_eq_true rfl) (Nat.le_of_ble_eq_true rfl) (Nat.le_of_ble_eq_true rfl) (Nat.le_of_ble_eq_true rfl) (Nat.le_of_ble_eq_true rfl) (Nat.le_of_ble_eq_true rfl) hlocks (fun t hal hk => ⟨hP.kept (fun k q hq => hk _ (hP k q hq).lt), va_K.moved hal hK, hD⟩) d_D_find_7 d_D_find_10 d_D_find_11 d_D_find_14
set_option maxHeartbeats 8000000 in
set_option maxRecDepth 100000 in
theorem ct_D_find_2 (l : Launch) (hfl : l.flags = flags0) (dC : Nat → ClassId) (dI : Nat → Nat → Nat) (h : Nat) (q : Nat → Nat) (g : Nat → ClassId) (hp : Nat) (qp : Nat → Nat) (gp : Nat → ClassId) (tq : Nat) (tg : ClassId) (tn : Nat) (tx : Nat → Int32) (sz : Nat) (I : MI) (A : MA) (M : MI) (MB : MA) (L : ML) (k1 : Int32) (r : Int32) (I' : MI) (A' : MA) (M' : MI) (MB' : MA) (L' : ML) (hf : f_D_find tn tx I A M MB L  k1 = some (2, r, I', A', M', MB', L')) : th_Met l y_D_find w_D_find ({ frames := 7, cells := 1, slots := 6, locals := 127 }) (va_Pc [.ref h, .int k1] (fun U => U.heap.size = sz ∧ va_P (dC, dI) vwCl (dw_W h q g hp qp gp tq tg tn tx I A M MB L) U.heap ∧ va_K (dC, dI) vwCl (dw_T h q g hp qp gp tq tg tn tx) U ∧ va_D (fun _ => True) (dw_W h q g hp qp gp tq tg tn tx I A M MB L) ∧ th_ZA (va_A (dw_W h q g hp qp gp tq tg tn tx I A M MB L) sz) U)) (th_Qw "java/lang/IndexOutOfBoundsException" (fun t => va_P (dC, dI) vwCl (dw_W h q g hp qp gp tq tg tn tx I' A' M' MB' L') t.heap ∧ va_K (dC, dI) vwCl (dw_T h q g hp qp gp tq tg tn tx) t ∧ va_D (va_A (dw_W h q g hp qp gp tq tg tn tx I A M MB L) sz) (dw_W h q g hp qp gp tq tg tn tx I' A' M' MB' L')) (va_A (dw_W h q g hp qp gp tq tg tn tx I A M MB L) sz)) 1 6 (va_A (dw_W h q g hp qp gp tq tg tn tx I A M MB L) sz) := by
  refine th_Met.ofW (cc := prog_1_method_9_code) (maxL := 2) (ret := (some .int)) (by decide) rfl ?_
  intro p e s m args below meth c s₁ B hml hnh hv
  obtain ⟨rfl, hsz, hP, hK, hD0, hZ⟩ := hv
  have hx := B.exec
  have hb := B.bytes
  have hr := B.returns
  have hts := atoms_spec (ws := w_D_find) B.pre
  have hown : s.vm.findClass "DraftTree" = some m.cls := findClass_of_methodNamed B.named
  have hlocks := B.notSynchronized
  have htr := Launch.traces_off hfl B.admits
  subst hsz
  have hD := hD0.self (sz := s.heap.size)
  generalize hAe : va_A (dw_W h q g hp qp gp tq tg tn tx I A M MB L) s.heap.size = B9 at hD hZ ⊢
  have hA : ∀ q : Nat, s.heap.size ≤ q → B9 q := fun q h => by rw [← hAe]; exact Or.inr h
  clear hAe
  have hS : va_S B9 s.heap s.heap [] := va_S.rf
  have hl := lv_entry ([.ref h, .int k1]) (n := 2) (Nat.le_of_ble_eq_true rfl)
  rw [lg_entry_eq]
  generalize (lg_sl ([.ref h, .int k1]) ++ List.replicate (2 - (lg_sl ([.ref h, .int k1])).length) Slot.unset).toArray = ls at hl ⊢
  have hl : lv_has ls 2 [(0, .ref h), (1, .int k1)] := hl
  unfold f_D_find at hf
  refine lv_aload_n hx hb d_D_find_0 rfl (lv_at hl 0 rfl) ?_
  refine va_get (D := (dC, dI)) (ci := 0) (v := .int (I 10)) (C := R_D) (T := F_D) (N := 14) hx hb hts (fun w h => List.mem_cons_of_mem _ (in_D w h)) hown hK hP 0 rfl rfl 10 (by decide) (hts _ (List.mem_cons_of_mem _ lk_431)) (fun _ h9 => h9) rfl d_D_find_1 ?_
  refine lv_if_ne (tgt := 15) hx hb d_D_find_4 (by decide) (fun hc1 => ?_) (fun hc1 => ?_)
  ·
    have hf := wk_iff hc1 hf
    refine lv_aload_n hx hb d_D_find_15 rfl (lv_at hl 0 rfl) ?_
    refine lv_iload_n hx hb d_D_find_16 rfl (lv_at hl 1 rfl) ?_
    have hPc := hP.sub (ws' := (dw_W h q g hp qp gp tq tg tn tx I A M MB L)) [0, 1, 2, 3, 4, 5, 6, 7, 8, 9, 10] rfl
    have hDc := hD.sub (ws' := (dw_W h q g hp qp gp tq tg tn tx I A M MB L)) [0, 1, 2, 3, 4, 5, 6, 7, 8, 9, 10] (by decide) rfl
    have hKc := hK.sub (tys' := (dw_T h q g hp qp gp tq tg tn tx)) [0, 1, 2, 3, 4, 5, 6, 7, 8] rfl
    have hFc := va_free (wc := (dw_W h q g hp qp gp tq tg tn tx I A M MB L)) hD hS hA [0, 1, 2, 3, 4, 5, 6, 7, 8, 9, 10] rfl
    cases hg1 : f_D_requirePlace tn tx I A M MB L k1 with
    | none => rw [hg1] at hf; cases hf
    | some z1 =>
      obtain ⟨tg1, r1, I1, A1, M1, MB1, L1⟩ := z1
      rw [hg1] at hf
      dsimp only [Option.bind_some] at hf
      by_cases ht1 : tg1 = 0
      ·
        have hf := wk_ift ht1 hf
        rw [ht1] at hg1
        refine va_callv (va_runV (As := [.int k1]) (rest := []) ⟨hx, hb, hml, hown, hts⟩ (cm_D_requirePlace l dC dI h q g hp qp gp tq tg tn tx _  I A M MB L k1 r1 I1 A1 M1 MB1 L1 hg1) (cwV 1 hts (gd_v lk_442 lk_443 lk_444 lk_445 lk_441) rfl rfl rfl (by decide +kernel) ⟨Nat.le_of_ble_eq_true rfl, Nat.le_of_ble_eq_true rfl⟩) ⟨fun a U g mk q => by obtain ⟨q0, q1, qP, qK, qD⟩ := q; exact ⟨q0, q1, qP, va_K.moved (u := U) (U := U.calling g mk a) (Vm.Alike.refl U.vm) qK, qD⟩, va_recv (ci := 0) (q0 := 0) hK hP rfl rfl, fun U hU hW => ⟨rfl, by rw [hU], by rw [hU]; exact hPc, va_K.moved hW.alike hKc, hDc.weaken (fun _ _ _ _ => trivial)⟩⟩ rfl rfl hl.1 rfl (lv_room (Nat.le_of_ble_eq_true rfl)) d_D_find_17 ⟨Nat.le_of_ble_eq_true rfl, Nat.le_of_ble_eq_true rfl⟩) hS (fun q _ h => hFc q h) hFc (fun u t H1 locs ht hvm hw hB hz1 hk1 hS => ?_)
        obtain ⟨hP1, hK1, hD1⟩ := hB
        rw [ht] at hP1
        obtain ⟨hP, hD⟩ := va_join (wr := (([] : List Nat).map (fun i => ((dw_W h q g hp qp gp tq tg tn tx I A M MB L)).getD i (0, .inr (0, []))))) (w1 := (dw_W h q g hp qp gp tq tg tn tx I1 A1 M1 MB1 L1)) hP hD [0, 1, 2, 3, 4, 5, 6, 7, 8, 9, 10] [] rfl rfl (by decide) (by decide) hk1 hFc hP1 hD1
        generalize H1 = H at hP hS ⊢
        have hP := hP.sub (ws' := (dw_W h q g hp qp gp tq tg tn tx I1 A1 M1 MB1 L1)) [0, 1, 2, 3, 4, 5, 6, 7, 8, 9, 10] rfl
        have hD := hD.sub (ws' := (dw_W h q g hp qp gp tq tg tn tx I1 A1 M1 MB1 L1)) [0, 1, 2, 3, 4, 5, 6, 7, 8, 9, 10] (by decide) rfl
        refine lv_aload_n hx hb d_D_find_20 rfl (lv_at hl 0 rfl) ?_
        refine va_get (D := (dC, dI)) (ci := 0) (v := .ref hp) (C := R_D) (T := F_D) (N := 14) hx hb hts (fun w h => List.mem_cons_of_mem _ (in_D w h)) hown hK hP 0 rfl rfl 9 (by decide) (hts _ (List.mem_cons_of_mem _ lk_247)) (fun _ h9 => h9) rfl d_D_find_21 ?_
        refine lv_aload_n hx hb d_D_find_24 rfl (lv_at hl 0 rfl) ?_
        refine va_get (D := (dC, dI)) (ci := 0) (v := .ref tq) (C := R_D) (T := F_D) (N := 14) hx hb hts (fun w h => List.mem_cons_of_mem _ (in_D w h)) hown hK hP 0 rfl rfl 5 (by decide) (hts _ (List.mem_cons_of_mem _ lk_242)) (fun _ h9 => h9) rfl d_D_find_25 ?_
        refine lv_iload_n hx hb d_D_find_28 rfl (lv_at hl 1 rfl) ?_
        have hPc := hP.sub (ws' := (at_W hp qp gp tq tg tn tx M1 MB1 L1)) [4, 5, 6, 7, 8, 9, 10] rfl
        have hDc := hD.sub (ws' := (at_W hp qp gp tq tg tn tx M1 MB1 L1)) [4, 5, 6, 7, 8, 9, 10] (by decide) rfl
        have hKc := hK.sub (tys' := (at_T hp qp gp tq tg tn tx)) [3, 4, 5, 6, 7, 8] rfl
        have hFc := va_free (wc := (at_W hp qp gp tq tg tn tx M1 MB1 L1)) hD hS hA [4, 5, 6, 7, 8, 9, 10] rfl
        cases hg2 : f_A_seek tn tx M1 MB1 L1 k1 with
        | none => rw [hg2] at hf; cases hf
        | some z2 =>
          obtain ⟨r2, M2, MB2, L2⟩ := z2
          rw [hg2] at hf
          dsimp only [Option.bind_some] at hf
          refine va_calli (va_runV (As := [.ref tq, .int k1]) (rest := []) ⟨hx, hb, hml, hown, hts⟩ (cm_A_seek l dC dI hp qp gp tq tg tn tx _  M1 MB1 L1 k1 r2 M2 MB2 L2 hg2) (cwV 2 hts (gd_v lk_303 lk_304 lk_305 lk_274 lk_302) rfl rfl rfl (by decide +kernel) ⟨Nat.le_of_ble_eq_true rfl, Nat.le_of_ble_eq_true rfl⟩) ⟨fun a U g mk q => by obtain ⟨q0, q1, qP, qK, qD⟩ := q; exact ⟨q0, q1, qP, va_K.moved (u := U) (U := U.calling g mk a) (Vm.Alike.refl U.vm) qK, qD⟩, va_recv (ci := 3) (q0 := 4) hK hP rfl rfl, fun U hU hW => ⟨rfl, by rw [hU], by rw [hU]; exact hPc, va_K.moved hW.alike hKc, hDc.weaken (fun _ _ _ _ => trivial)⟩⟩ rfl rfl hl.1 rfl (lv_room (Nat.le_of_ble_eq_true rfl)) d_D_find_29 ⟨Nat.le_of_ble_eq_true rfl, Nat.le_of_ble_eq_true rfl⟩) hS (fun q _ h => hFc q h) hFc (fun r9 u t H1 locs ht hvm hw hB hz1 hk1 hS => ?_)
          obtain ⟨hP1, hK1, hD1⟩ := hB
          rw [ht] at hP1
          rw [hw]
          obtain ⟨hP, hD⟩ := va_join (wr := (([0, 1, 2, 3] : List Nat).map (fun i => ((dw_W h q g hp qp gp tq tg tn tx I1 A1 M1 MB1 L1)).getD i (0, .inr (0, []))))) (w1 := (at_W hp qp gp tq tg tn tx M2 MB2 L2)) hP hD [4, 5, 6, 7, 8, 9, 10] [0, 1, 2, 3] rfl rfl (by decide) (by decide) hk1 hFc hP1 hD1
          generalize H1 = H at hP hS ⊢
          have hP := hP.sub (ws' := (dw_W h q g hp qp gp tq tg tn tx I1 A1 M2 MB2 L2)) [0, 1, 2, 3, 4, 5, 6, 7, 8, 9, 10] rfl
          have hD := hD.sub (ws' := (dw_W h q g hp qp gp tq tg tn tx I1 A1 M2 MB2 L2)) [0, 1, 2, 3, 4, 5, 6, 7, 8, 9, 10] (by decide) rfl
          refine lv_if_ne (tgt := 43) hx hb d_D_find_32 (by decide) (fun hc2 => ?_) (fun hc2 => ?_)
          ·
            have hf := wk_iff hc2 hf
            refine lv_aload_n hx hb d_D_find_43 rfl (lv_at hl 0 rfl) ?_
            refine lv_aload_n hx hb d_D_find_44 rfl (lv_at hl 0 rfl) ?_
            refine va_get (D := (dC, dI)) (ci := 0) (v := .ref hp) (C := R_D) (T := F_D) (N := 14) hx hb hts (fun w h => List.mem_cons_of_mem _ (in_D w h)) hown hK hP 0 rfl rfl 9 (by decide) (hts _ (List.mem_cons_of_mem _ lk_247)) (fun _ h9 => h9) rfl d_D_find_45 ?_
            refine va_get (D := (dC, dI)) (ci := 3) (v := .int (M2 8)) (C := R_A) (T := F_A) (N := 10) hx hb hts (fun w h => List.mem_cons_of_mem _ (in_A w h)) hown hK hP 4 rfl rfl 8 (by decide) (hts _ (List.mem_cons_of_mem _ lk_307)) (fun _ h9 => h9) rfl d_D_find_48 ?_
            refine va_put (D := (dC, dI)) (ci := 0) (v := .int (M2 8)) (ty := .int) (C := R_D) (T := F_D) (N := 14) hx hb hts (fun w h => List.mem_cons_of_mem _ (in_D w h)) t_D tk_D n_D hown hK hP hD hS 0 rfl rfl 7 (by decide) (hts _ (List.mem_cons_of_mem _ lk_439)) (fun _ h9 => h9) rfl (by decide +kernel) rfl rfl (Nat.le_of_ble_eq_true rfl) d_D_find_51 (fun H locs hP hD hS => ?_)
            obtain ⟨I3, hI3, hf⟩ := wk_letE hf
            have hP : va_P (dC, dI) vwCl (dw_W h q g hp qp gp tq tg tn tx I3 A1 M2 MB2 L2) H := by rw [hI3]; exact hP
            have hD : va_D B9 (dw_W h q g hp qp gp tq tg tn tx I3 A1 M2 MB2 L2) := by rw [hI3]; exact hD
            clear hI3
            refine lv_aload_n hx hb d_D_find_54 rfl (lv_at hl 0 rfl) ?_
            refine lv_aload_n hx hb d_D_find_55 rfl (lv_at hl 0 rfl) ?_
            refine va_get (D := (dC, dI)) (ci := 0) (v := .ref hp) (C := R_D) (T := F_D) (N := 14) hx hb hts (fun w h => List.mem_cons_of_mem _ (in_D w h)) hown hK hP 0 rfl rfl 9 (by decide) (hts _ (List.mem_cons_of_mem _ lk_247)) (fun _ h9 => h9) rfl d_D_find_56 ?_
            refine va_get (D := (dC, dI)) (ci := 3) (v := .int (M2 9)) (C := R_A) (T := F_A) (N := 10) hx hb hts (fun w h => List.mem_cons_of_mem _ (in_A w h)) hown hK hP 4 rfl rfl 9 (by decide) (hts _ (List.mem_cons_of_mem _ lk_309)) (fun _ h9 => h9) rfl d_D_find_59 ?_
            refine va_put (D := (dC, dI)) (ci := 0) (v := .int (M2 9)) (ty := .int) (C := R_D) (T := F_D) (N := 14) hx hb hts (fun w h => List.mem_cons_of_mem _ (in_D w h)) t_D tk_D n_D hown hK hP hD hS 0 rfl rfl 6 (by decide) (hts _ (List.mem_cons_of_mem _ lk_438)) (fun _ h9 => h9) rfl (by decide +kernel) rfl rfl (Nat.le_of_ble_eq_true rfl) d_D_find_62 (fun H locs hP hD hS => ?_)
            obtain ⟨I4, hI4, hf⟩ := wk_letE hf
            have hP : va_P (dC, dI) vwCl (dw_W h q g hp qp gp tq tg tn tx I4 A1 M2 MB2 L2) H := by rw [hI4]; exact hP
            have hD : va_D B9 (dw_W h q g hp qp gp tq tg tn tx I4 A1 M2 MB2 L2) := by rw [hI4]; exact hD
            clear hI4
            refine lv_aload_n hx hb d_D_find_65 rfl (lv_at hl 0 rfl) ?_
            refine va_get (D := (dC, dI)) (ci := 0) (v := .int (I4 7)) (C := R_D) (T := F_D) (N := 14) hx hb hts (fun w h => List.mem_cons_of_mem _ (in_D w h)) hown hK hP 0 rfl rfl 7 (by decide) (hts _ (List.mem_cons_of_mem _ lk_439)) (fun _ h9 => h9) rfl d_D_find_66 ?_
            exact (wk_tag (by decide) hf).elim
          ·
            have hf := wk_ift hc2 hf
            exact (wk_tag (by decide) hf).elim
      ·
        have hf := wk_iff ht1 hf
        by_cases hq1_2 : tg1 = 2
        ·
          have hf := wk_ift hq1_2 hf
          rw [hq1_2] at hg1
          obtain ⟨e0, e1, e2, e3, e4, e5, e6⟩ := wk_inj6 hf
          subst e1
          subst e2
          subst e3
          subst e4
          subst e5
          subst e6
          refine th_passG (A1 := va_A (dw_W h q g hp qp gp tq tg tn tx I A M MB L) _) (th_runV (As := [.int k1]) (rest := []) ⟨hx, hb, hml, hown, hts⟩ (ct_D_requirePlace_2 l hfl dC dI h q g hp qp gp tq tg tn tx _  I A M MB L k1 r1 I1 A1 M1 MB1 L1 hg1) (cwV 1 hts (gd_v lk_442 lk_443 lk_444 lk_445 lk_441) rfl rfl rfl (by decide +kernel) ⟨Nat.le_of_ble_eq_true rfl, Nat.le_of_ble_eq_true rfl⟩) ⟨fun a U g mk q => by obtain ⟨q0, q1, qP, qK, qD, qZ⟩ := q; exact ⟨q0, q1, qP, va_K.moved (u := U) (U := U.calling g mk a) (Vm.Alike.refl U.vm) qK, qD, th_ZA.calling qZ⟩, va_recv (ci := 0) (q0 := 0) hK hP rfl rfl, fun U hU hW => ⟨rfl, by rw [hU], by rw [hU]; exact hPc, va_K.moved hW.alike hKc, hDc.weaken (fun _ _ _ _ => trivial), th_ZA.to hZ hS hU hW hFc⟩⟩ rfl rfl hl.1 rfl (lv_room (Nat.le_of_ble_eq_true rfl)) d_D_find_17 ⟨Nat.le_of_ble_eq_true rfl, Nat.le_of_ble_eq_true rfl⟩) hnh hlocks hS hFc (Nat.le_of_ble_eq_true rfl) (Nat.le_of_ble_eq_true rfl) (fun t hal hb1 hz1 hk1 u hu hau => ?_)
          obtain ⟨hP1, hK1, hD1⟩ := hb1
          obtain ⟨hP, hD⟩ := va_join (wr := (([] : List Nat).map (fun i => ((dw_W h q g hp qp gp tq tg tn tx I A M MB L)).getD i (0, .inr (0, []))))) (w1 := (dw_W h q g hp qp gp tq tg tn tx I1 A1 M1 MB1 L1)) hP hD [0, 1, 2, 3, 4, 5, 6, 7, 8, 9, 10] [] rfl rfl (by decide) (by decide) hk1 hFc hP1 hD1
          exact ⟨by rw [hu]; exact hP.sub (ws' := (dw_W h q g hp qp gp tq tg tn tx I1 A1 M1 MB1 L1)) [0, 1, 2, 3, 4, 5, 6, 7, 8, 9, 10] rfl, va_K.moved hau hK, hD.sub (ws' := (dw_W h q g hp qp gp tq tg tn tx I1 A1 M1 MB1 L1)) [0, 1, 2, 3, 4, 5, 6, 7, 8, 9, 10] (by decide) rfl⟩
        ·
          have hf := wk_iff hq1_2 hf
          cases hf
  ·
    have hf := wk_ift hc1 hf
    exact (wk_tag (by decide) hf).elim
set_option maxHeartbeats 8000000 in
set_option maxRecDepth 100000 in
theorem ct_D_find_4 (l : Launch) (hfl : l.flags = flags0) (dC : Nat → ClassId) (dI : Nat → Nat → Nat) (h : Nat) (q : Nat → Nat) (g : Nat → ClassId) (hp : Nat) (qp : Nat → Nat) (gp : Nat → ClassId) (tq : Nat) (tg : ClassId) (tn : Nat) (tx : Nat → Int32) (sz : Nat) (I : MI) (A : MA) (M : MI) (MB : MA) (L : ML) (k1 : Int32) (r : Int32) (I' : MI) (A' : MA) (M' : MI) (MB' : MA) (L' : ML) (hf : f_D_find tn tx I A M MB L  k1 = some (4, r, I', A', M', MB', L')) : th_Met l y_D_find w_D_find ({ frames := 7, cells := 1, slots := 6, locals := 127 }) (va_Pc [.ref h, .int k1] (fun U => U.heap.size = sz ∧ va_P (dC, dI) vwCl (dw_W h q g hp qp gp tq tg tn tx I A M MB L) U.heap ∧ va_K (dC, dI) vwCl (dw_T h q g hp qp gp tq tg tn tx) U ∧ va_D (fun _ => True) (dw_W h q g hp qp gp tq tg tn tx I A M MB L) ∧ th_ZA (va_A (dw_W h q g hp qp gp tq tg tn tx I A M MB L) sz) U)) (th_Qw "java/util/NoSuchElementException" (fun t => va_P (dC, dI) vwCl (dw_W h q g hp qp gp tq tg tn tx I' A' M' MB' L') t.heap ∧ va_K (dC, dI) vwCl (dw_T h q g hp qp gp tq tg tn tx) t ∧ va_D (va_A (dw_W h q g hp qp gp tq tg tn tx I A M MB L) sz) (dw_W h q g hp qp gp tq tg tn tx I' A' M' MB' L')) (va_A (dw_W h q g hp qp gp tq tg tn tx I A M MB L) sz)) 1 6 (va_A (dw_W h q g hp qp gp tq tg tn tx I A M MB L) sz) := by
  refine th_Met.ofW (cc := prog_1_method_9_code) (maxL := 2) (ret := (some .int)) (by decide) rfl ?_
  intro p e s m args below meth c s₁ B hml hnh hv
  obtain ⟨rfl, hsz, hP, hK, hD0, hZ⟩ := hv
  have hx := B.exec
  have hb := B.bytes
  have hr := B.returns
  have hts := atoms_spec (ws := w_D_find) B.pre
  have hown : s.vm.findClass "DraftTree" = some m.cls := findClass_of_methodNamed B.named
  have hlocks := B.notSynchronized
  have htr := Launch.traces_off hfl B.admits
  subst hsz
  have hD := hD0.self (sz := s.heap.size)
  generalize hAe : va_A (dw_W h q g hp qp gp tq tg tn tx I A M MB L) s.heap.size = B9 at hD hZ ⊢
  have hA : ∀ q : Nat, s.heap.size ≤ q → B9 q := fun q h => by rw [← hAe]; exact Or.inr h
  clear hAe
  have hS : va_S B9 s.heap s.heap [] := va_S.rf
  have hl := lv_entry ([.ref h, .int k1]) (n := 2) (Nat.le_of_ble_eq_true rfl)
  rw [lg_entry_eq]
  generalize (lg_sl ([.ref h, .int k1]) ++ List.replicate (2 - (lg_sl ([.ref h, .int k1])).length) Slot.unset).toArray = ls at hl ⊢
  have hl : lv_has ls 2 [(0, .ref h), (1, .int k1)] := hl
  unfold f_D_find at hf
  refine lv_aload_n hx hb d_D_find_0 rfl (lv_at hl 0 rfl) ?_
  refine va_get (D := (dC, dI)) (ci := 0) (v := .int (I 10)) (C := R_D) (T := F_D) (N := 14) hx hb hts (fun w h => List.mem_cons_of_mem _ (in_D w h)) hown hK hP 0 rfl rfl 10 (by decide) (hts _ (List.mem_cons_of_mem _ lk_431)) (fun _ h9 => h9) rfl d_D_find_1 ?_
  refine lv_if_ne (tgt := 15) hx hb d_D_find_4 (by decide) (fun hc1 => ?_) (fun hc1 => ?_)
  ·
    have hf := wk_iff hc1 hf
    refine lv_aload_n hx hb d_D_find_15 rfl (lv_at hl 0 rfl) ?_
    refine lv_iload_n hx hb d_D_find_16 rfl (lv_at hl 1 rfl) ?_
    have hPc := hP.sub (ws' := (dw_W h q g hp qp gp tq tg tn tx I A M MB L)) [0, 1, 2, 3, 4, 5, 6, 7, 8, 9, 10] rfl
    have hDc := hD.sub (ws' := (dw_W h q g hp qp gp tq tg tn tx I A M MB L)) [0, 1, 2, 3, 4, 5, 6, 7, 8, 9, 10] (by decide) rfl
    have hKc := hK.sub (tys' := (dw_T h q g hp qp gp tq tg tn tx)) [0, 1, 2, 3, 4, 5, 6, 7, 8] rfl
    have hFc := va_free (wc := (dw_W h q g hp qp gp tq tg tn tx I A M MB L)) hD hS hA [0, 1, 2, 3, 4, 5, 6, 7, 8, 9, 10] rfl
    cases hg1 : f_D_requirePlace tn tx I A M MB L k1 with
    | none => rw [hg1] at hf; cases hf
    | some z1 =>
      obtain ⟨tg1, r1, I1, A1, M1, MB1, L1⟩ := z1
      rw [hg1] at hf
      dsimp only [Option.bind_some] at hf
      by_cases ht1 : tg1 = 0
      ·
        have hf := wk_ift ht1 hf
        rw [ht1] at hg1
        refine va_callv (va_runV (As := [.int k1]) (rest := []) ⟨hx, hb, hml, hown, hts⟩ (cm_D_requirePlace l dC dI h q g hp qp gp tq tg tn tx _  I A M MB L k1 r1 I1 A1 M1 MB1 L1 hg1) (cwV 1 hts (gd_v lk_442 lk_443 lk_444 lk_445 lk_441) rfl rfl rfl (by decide +kernel) ⟨Nat.le_of_ble_eq_true rfl, Nat.le_of_ble_eq_true rfl⟩) ⟨fun a U g mk q => by obtain ⟨q0, q1, qP, qK, qD⟩ := q; exact ⟨q0, q1, qP, va_K.moved (u := U) (U := U.calling g mk a) (Vm.Alike.refl U.vm) qK, qD⟩, va_recv (ci := 0) (q0 := 0) hK hP rfl rfl, fun U hU hW => ⟨rfl, by rw [hU], by rw [hU]; exact hPc, va_K.moved hW.alike hKc, hDc.weaken (fun _ _ _ _ => trivial)⟩⟩ rfl rfl hl.1 rfl (lv_room (Nat.le_of_ble_eq_true rfl)) d_D_find_17 ⟨Nat.le_of_ble_eq_true rfl, Nat.le_of_ble_eq_true rfl⟩) hS (fun q _ h => hFc q h) hFc (fun u t H1 locs ht hvm hw hB hz1 hk1 hS => ?_)
        obtain ⟨hP1, hK1, hD1⟩ := hB
        rw [ht] at hP1
        obtain ⟨hP, hD⟩ := va_join (wr := (([] : List Nat).map (fun i => ((dw_W h q g hp qp gp tq tg tn tx I A M MB L)).getD i (0, .inr (0, []))))) (w1 := (dw_W h q g hp qp gp tq tg tn tx I1 A1 M1 MB1 L1)) hP hD [0, 1, 2, 3, 4, 5, 6, 7, 8, 9, 10] [] rfl rfl (by decide) (by decide) hk1 hFc hP1 hD1
        generalize H1 = H at hP hS ⊢
        have hP := hP.sub (ws' := (dw_W h q g hp qp gp tq tg tn tx I1 A1 M1 MB1 L1)) [0, 1, 2, 3, 4, 5, 6, 7, 8, 9, 10] rfl
        have hD := hD.sub (ws' := (dw_W h q g hp qp gp tq tg tn tx I1 A1 M1 MB1 L1)) [0, 1, 2, 3, 4, 5, 6, 7, 8, 9, 10] (by decide) rfl
        refine lv_aload_n hx hb d_D_find_20 rfl (lv_at hl 0 rfl) ?_
        refine va_get (D := (dC, dI)) (ci := 0) (v := .ref hp) (C := R_D) (T := F_D) (N := 14) hx hb hts (fun w h => List.mem_cons_of_mem _ (in_D w h)) hown hK hP 0 rfl rfl 9 (by decide) (hts _ (List.mem_cons_of_mem _ lk_247)) (fun _ h9 => h9) rfl d_D_find_21 ?_
        refine lv_aload_n hx hb d_D_find_24 rfl (lv_at hl 0 rfl) ?_
        refine va_get (D := (dC, dI)) (ci := 0) (v := .ref tq) (C := R_D) (T := F_D) (N := 14) hx hb hts (fun w h => List.mem_cons_of_mem _ (in_D w h)) hown hK hP 0 rfl rfl 5 (by decide) (hts _ (List.mem_cons_of_mem _ lk_242)) (fun _ h9 => h9) rfl d_D_find_25 ?_
        refine lv_iload_n hx hb d_D_find_28 rfl (lv_at hl 1 rfl) ?_
        have hPc := hP.sub (ws' := (at_W hp qp gp tq tg tn tx M1 MB1 L1)) [4, 5, 6, 7, 8, 9, 10] rfl
        have hDc := hD.sub (ws' := (at_W hp qp gp tq tg tn tx M1 MB1 L1)) [4, 5, 6, 7, 8, 9, 10] (by decide) rfl
        have hKc := hK.sub (tys' := (at_T hp qp gp tq tg tn tx)) [3, 4, 5, 6, 7, 8] rfl
        have hFc := va_free (wc := (at_W hp qp gp tq tg tn tx M1 MB1 L1)) hD hS hA [4, 5, 6, 7, 8, 9, 10] rfl
        cases hg2 : f_A_seek tn tx M1 MB1 L1 k1 with
        | none => rw [hg2] at hf; cases hf
        | some z2 =>
          obtain ⟨r2, M2, MB2, L2⟩ := z2
          rw [hg2] at hf
          dsimp only [Option.bind_some] at hf
          refine va_calli (va_runV (As := [.ref tq, .int k1]) (rest := []) ⟨hx, hb, hml, hown, hts⟩ (cm_A_seek l dC dI hp qp gp tq tg tn tx _  M1 MB1 L1 k1 r2 M2 MB2 L2 hg2) (cwV 2 hts (gd_v lk_303 lk_304 lk_305 lk_274 lk_302) rfl rfl rfl (by decide +kernel) ⟨Nat.le_of_ble_eq_true rfl, Nat.le_of_ble_eq_true rfl⟩) ⟨fun a U g mk q => by obtain ⟨q0, q1, qP, qK, qD⟩ := q; exact ⟨q0, q1, qP, va_K.moved (u := U) (U := U.calling g mk a) (Vm.Alike.refl U.vm) qK, qD⟩, va_recv (ci := 3) (q0 := 4) hK hP rfl rfl, fun U hU hW => ⟨rfl, by rw [hU], by rw [hU]; exact hPc, va_K.moved hW.alike hKc, hDc.weaken (fun _ _ _ _ => trivial)⟩⟩ rfl rfl hl.1 rfl (lv_room (Nat.le_of_ble_eq_true rfl)) d_D_find_29 ⟨Nat.le_of_ble_eq_true rfl, Nat.le_of_ble_eq_true rfl⟩) hS (fun q _ h => hFc q h) hFc (fun r9 u t H1 locs ht hvm hw hB hz1 hk1 hS => ?_)
          obtain ⟨hP1, hK1, hD1⟩ := hB
          rw [ht] at hP1
          rw [hw]
          obtain ⟨hP, hD⟩ := va_join (wr := (([0, 1, 2, 3] : List Nat).map (fun i => ((dw_W h q g hp qp gp tq tg tn tx I1 A1 M1 MB1 L1)).getD i (0, .inr (0, []))))) (w1 := (at_W hp qp gp tq tg tn tx M2 MB2 L2)) hP hD [4, 5, 6, 7, 8, 9, 10] [0, 1, 2, 3] rfl rfl (by decide) (by decide) hk1 hFc hP1 hD1
          generalize H1 = H at hP hS ⊢
          have hP := hP.sub (ws' := (dw_W h q g hp qp gp tq tg tn tx I1 A1 M2 MB2 L2)) [0, 1, 2, 3, 4, 5, 6, 7, 8, 9, 10] rfl
          have hD := hD.sub (ws' := (dw_W h q g hp qp gp tq tg tn tx I1 A1 M2 MB2 L2)) [0, 1, 2, 3, 4, 5, 6, 7, 8, 9, 10] (by decide) rfl
          refine lv_if_ne (tgt := 43) hx hb d_D_find_32 (by decide) (fun hc2 => ?_) (fun hc2 => ?_)
          ·
            have hf := wk_iff hc2 hf
            refine lv_aload_n hx hb d_D_find_43 rfl (lv_at hl 0 rfl) ?_
            refine lv_aload_n hx hb d_D_find_44 rfl (lv_at hl 0 rfl) ?_
            refine va_get (D := (dC, dI)) (ci := 0) (v := .ref hp) (C := R_D) (T := F_D) (N := 14) hx hb hts (fun w h => List.mem_cons_of_mem _ (in_D w h)) hown hK hP 0 rfl rfl 9 (by decide) (hts _ (List.mem_cons_of_mem _ lk_247)) (fun _ h9 => h9) rfl d_D_find_45 ?_
            refine va_get (D := (dC, dI)) (ci := 3) (v := .int (M2 8)) (C := R_A) (T := F_A) (N := 10) hx hb hts (fun w h => List.mem_cons_of_mem _ (in_A w h)) hown hK hP 4 rfl rfl 8 (by decide) (hts _ (List.mem_cons_of_mem _ lk_307)) (fun _ h9 => h9) rfl d_D_find_48 ?_
            refine va_put (D := (dC, dI)) (ci := 0) (v := .int (M2 8)) (ty := .int) (C := R_D) (T := F_D) (N := 14) hx hb hts (fun w h => List.mem_cons_of_mem _ (in_D w h)) t_D tk_D n_D hown hK hP hD hS 0 rfl rfl 7 (by decide) (hts _ (List.mem_cons_of_mem _ lk_439)) (fun _ h9 => h9) rfl (by decide +kernel) rfl rfl (Nat.le_of_ble_eq_true rfl) d_D_find_51 (fun H locs hP hD hS => ?_)
            obtain ⟨I3, hI3, hf⟩ := wk_letE hf
            have hP : va_P (dC, dI) vwCl (dw_W h q g hp qp gp tq tg tn tx I3 A1 M2 MB2 L2) H := by rw [hI3]; exact hP
            have hD : va_D B9 (dw_W h q g hp qp gp tq tg tn tx I3 A1 M2 MB2 L2) := by rw [hI3]; exact hD
            clear hI3
            refine lv_aload_n hx hb d_D_find_54 rfl (lv_at hl 0 rfl) ?_
            refine lv_aload_n hx hb d_D_find_55 rfl (lv_at hl 0 rfl) ?_
            refine va_get (D := (dC, dI)) (ci := 0) (v := .ref hp) (C := R_D) (T := F_D) (N := 14) hx hb hts (fun w h => List.mem_cons_of_mem _ (in_D w h)) hown hK hP 0 rfl rfl 9 (by decide) (hts _ (List.mem_cons_of_mem _ lk_247)) (fun _ h9 => h9) rfl d_D_find_56 ?_
            refine va_get (D := (dC, dI)) (ci := 3) (v := .int (M2 9)) (C := R_A) (T := F_A) (N := 10) hx hb hts (fun w h => List.mem_cons_of_mem _ (in_A w h)) hown hK hP 4 rfl rfl 9 (by decide) (hts _ (List.mem_cons_of_mem _ lk_309)) (fun _ h9 => h9) rfl d_D_find_59 ?_
            refine va_put (D := (dC, dI)) (ci := 0) (v := .int (M2 9)) (ty := .int) (C := R_D) (T := F_D) (N := 14) hx hb hts (fun w h => List.mem_cons_of_mem _ (in_D w h)) t_D tk_D n_D hown hK hP hD hS 0 rfl rfl 6 (by decide) (hts _ (List.mem_cons_of_mem _ lk_438)) (fun _ h9 => h9) rfl (by decide +kernel) rfl rfl (Nat.le_of_ble_eq_true rfl) d_D_find_62 (fun H locs hP hD hS => ?_)
            obtain ⟨I4, hI4, hf⟩ := wk_letE hf
            have hP : va_P (dC, dI) vwCl (dw_W h q g hp qp gp tq tg tn tx I4 A1 M2 MB2 L2) H := by rw [hI4]; exact hP
            have hD : va_D B9 (dw_W h q g hp qp gp tq tg tn tx I4 A1 M2 MB2 L2) := by rw [hI4]; exact hD
            clear hI4
            refine lv_aload_n hx hb d_D_find_65 rfl (lv_at hl 0 rfl) ?_
            refine va_get (D := (dC, dI)) (ci := 0) (v := .int (I4 7)) (C := R_D) (T := F_D) (N := 14) hx hb hts (fun w h => List.mem_cons_of_mem _ (in_D w h)) hown hK hP 0 rfl rfl 7 (by decide) (hts _ (List.mem_cons_of_mem _ lk_439)) (fun _ h9 => h9) rfl d_D_find_66 ?_
            exact (wk_tag (by decide) hf).elim
          ·
            have hf := wk_ift hc2 hf
            obtain ⟨e0, e1, e2, e3, e4, e5, e6⟩ := wk_inj6 hf
            subst e1
            subst e2
            subst e3
            subst e4
            subst e5
            subst e6
            exact th_newG hx hb htr hown (by decide) (by decide) (wk_thr hts hZ hS lk_448 lk_449 (fun _ a9 b9 => oa_3 a9 b9)) hnh (by rw [hl.1, hml]) hS (Nat.le_of_ble_eq_true rfl) (Nat.le_of_ble_eq_true rfl) (Nat.le_of_ble_eq_true rfl) (Nat.le_of_ble_eq_true rfl) (Nat.le_of_ble_eq_true rfl) (Nat.le_of_ble_eq_true rfl) hlocks (fun t hal hk => ⟨hP.kept (fun k q hq => hk _ (hP k q hq).lt), va_K.moved hal hK, hD⟩) d_D_find_35 d_D_find_38 d_D_find_39 d_D_find_42
      ·
        have hf := wk_iff ht1 hf
        by_cases hq1_2 : tg1 = 2
        ·
          have hf := wk_ift hq1_2 hf
          exact (wk_tag (by decide) hf).elim
        ·
          have hf := wk_iff hq1_2 hf
          cases hf
  ·
    have hf := wk_ift hc1 hf
    exact (wk_tag (by decide) hf).elim

-- 18.ccon09
set_option maxHeartbeats 8000000 in
set_option maxRecDepth 100000 in
theorem cm_D_go (l : Launch) (dC : Nat → ClassId) (dI : Nat → Nat → Nat) (h : Nat) (q : Nat → Nat) (g : Nat → ClassId) (hp : Nat) (qp : Nat → Nat) (gp : Nat → ClassId) (tq : Nat) (tg : ClassId) (tn : Nat) (tx : Nat → Int32) (sz : Nat) (I : MI) (A : MA) (M : MI) (MB : MA) (L : ML) (k1 : Int32) (k2 : Int32) (r : Int32) (I' : MI) (A' : MA) (M' : MI) (MB' : MA) (L' : ML) (hf : f_D_go tn tx I A M MB L  k1 k2 = some (0, r, I', A', M', MB', L')) : Met l y_D_go w_D_go ({ frames := 1, cells := 0, slots := 0, locals := 21 }) (va_Pc [.ref h, .int k1, .int k2] (fun U => U.heap.size = sz ∧ va_P (dC, dI) vwCl (dw_W h q g hp qp gp tq tg tn tx I A M MB L) U.heap ∧ va_K (dC, dI) vwCl (dw_T h q g hp qp gp tq tg tn tx) U ∧ va_D (fun _ => True) (dw_W h q g hp qp gp tq tg tn tx I A M MB L))) (va_Qv (fun (u : Unit) => u = u) (fun (_ : Unit) t => va_P (dC, dI) vwCl (dw_W h q g hp qp gp tq tg tn tx I' A' M' MB' L') t.heap ∧ va_K (dC, dI) vwCl (dw_T h q g hp qp gp tq tg tn tx) t ∧ va_D (va_A (dw_W h q g hp qp gp tq tg tn tx I A M MB L) sz) (dw_W h q g hp qp gp tq tg tn tx I' A' M' MB' L')) (va_A (dw_W h q g hp qp gp tq tg tn tx I A M MB L) sz)) 0 0 (va_A (dw_W h q g hp qp gp tq tg tn tx I A M MB L) sz) := by
  refine Met.ofW (cc := prog_1_method_6_code) (maxL := 3) (ret := none) (by decide) rfl ?_
  intro p e s m args below meth c s₁ B hml hv
  obtain ⟨rfl, hsz, hP, hK, hD0⟩ := hv
  have hx := B.exec
  have hb := B.bytes
  have hr := B.returns
  have hts := atoms_spec (ws := w_D_go) B.pre
  have hown : s.vm.findClass "DraftTree" = some m.cls := findClass_of_methodNamed B.named
  have hlocks := B.notSynchronized
  subst hsz
  have hD := hD0.self (sz := s.heap.size)
  generalize hAe : va_A (dw_W h q g hp qp gp tq tg tn tx I A M MB L) s.heap.size = B9 at hD ⊢
  have hA : ∀ q : Nat, s.heap.size ≤ q → B9 q := fun q h => by rw [← hAe]; exact Or.inr h
  clear hAe
  have hS : va_S B9 s.heap s.heap [] := va_S.rf
  have hl := lv_entry ([.ref h, .int k1, .int k2]) (n := 3) (Nat.le_of_ble_eq_true rfl)
  rw [lg_entry_eq]
  generalize (lg_sl ([.ref h, .int k1, .int k2]) ++ List.replicate (3 - (lg_sl ([.ref h, .int k1, .int k2])).length) Slot.unset).toArray = ls at hl ⊢
  have hl : lv_has ls 3 [(0, .ref h), (1, .int k1), (2, .int k2)] := hl
  have blk54 : ∀ (I : MI) (A : MA) (M : MI) (MB : MA) (L : ML) (X : Nat → Int32) (Y : Nat → Int64) (ls : Array Slot) (H : Heap) (locs : List Loc), f_D_go_54 tn tx I A M MB L X Y = some (0, r, I', A', M', MB', L') → lv_has ls 3 [(0, .ref h), (1, .int (X 1)), (2, .int (X 2))] → va_P (dC, dI) vwCl (dw_W h q g hp qp gp tq tg tn tx I A M MB L) H → va_D B9 (dw_W h q g hp qp gp tq tg tn tx I A M MB L) → va_S B9 s.heap H locs → W p l e (headSpec w_D_go ({ frames := 1, cells := 0, slots := 0, locals := 21 })).room s m ([.ref h, .int k1, .int k2] : List Value).toArray below meth c H locs 0 0 (MQ below (va_Qv (fun (u : Unit) => u = u) (fun (_ : Unit) t => va_P (dC, dI) vwCl (dw_W h q g hp qp gp tq tg tn tx I' A' M' MB' L') t.heap ∧ va_K (dC, dI) vwCl (dw_T h q g hp qp gp tq tg tn tx) t ∧ va_D B9 (dw_W h q g hp qp gp tq tg tn tx I' A' M' MB' L')) B9) ([.ref h, .int k1, .int k2] : List Value).toArray s 0 0 B9) (F0 m 54 ls []) := by
    intro I A M MB L X Y ls H locs hf hl hP hD hS
    unfold f_D_go_54 at hf
    obtain ⟨e0, e1, e2, e3, e4, e5, e6⟩ := wk_inj6 hf
    subst e1
    subst e2
    subst e3
    subst e4
    subst e5
    subst e6
    exact W.vret hx hb hr (fun t ht hW => ⟨⟨(), rfl, rfl, by rw [ht]; exact hP, va_K.moved hW.alike hK, hD⟩, hS.F ht⟩) hS.2.2 d_D_go_54
  have blk33 : ∀ (I : MI) (A : MA) (M : MI) (MB : MA) (L : ML) (X : Nat → Int32) (Y : Nat → Int64) (ls : Array Slot) (H : Heap) (locs : List Loc), f_D_go_33 tn tx I A M MB L X Y = some (0, r, I', A', M', MB', L') → lv_has ls 3 [(0, .ref h), (1, .int (X 1)), (2, .int (X 2))] → va_P (dC, dI) vwCl (dw_W h q g hp qp gp tq tg tn tx I A M MB L) H → va_D B9 (dw_W h q g hp qp gp tq tg tn tx I A M MB L) → va_S B9 s.heap H locs → W p l e (headSpec w_D_go ({ frames := 1, cells := 0, slots := 0, locals := 21 })).room s m ([.ref h, .int k1, .int k2] : List Value).toArray below meth c H locs 0 0 (MQ below (va_Qv (fun (u : Unit) => u = u) (fun (_ : Unit) t => va_P (dC, dI) vwCl (dw_W h q g hp qp gp tq tg tn tx I' A' M' MB' L') t.heap ∧ va_K (dC, dI) vwCl (dw_T h q g hp qp gp tq tg tn tx) t ∧ va_D B9 (dw_W h q g hp qp gp tq tg tn tx I' A' M' MB' L')) B9) ([.ref h, .int k1, .int k2] : List Value).toArray s 0 0 B9) (F0 m 33 ls []) := by
    intro I A M MB L X Y ls H locs hf hl hP hD hS
    unfold f_D_go_33 at hf
    refine lv_aload_n hx hb d_D_go_33 rfl (lv_at hl 0 rfl) ?_
    refine lv_iload_n hx hb d_D_go_34 rfl (lv_at hl 1 rfl) ?_
    refine va_put (D := (dC, dI)) (ci := 0) (v := .int (X 1)) (ty := .int) (C := R_D) (T := F_D) (N := 14) hx hb hts (fun w h => List.mem_cons_of_mem _ (in_D w h)) t_D tk_D n_D hown hK hP hD hS 0 rfl rfl 6 (by decide) (hts _ (List.mem_cons_of_mem _ lk_438)) (fun _ h9 => h9) rfl (by decide +kernel) rfl rfl (Nat.le_of_ble_eq_true rfl) d_D_go_35 (fun H locs hP hD hS => ?_)
    obtain ⟨I1, hI1, hf⟩ := wk_letE hf
    have hP : va_P (dC, dI) vwCl (dw_W h q g hp qp gp tq tg tn tx I1 A M MB L) H := by rw [hI1]; exact hP
    have hD : va_D B9 (dw_W h q g hp qp gp tq tg tn tx I1 A M MB L) := by rw [hI1]; exact hD
    clear hI1
    refine lv_aload_n hx hb d_D_go_38 rfl (lv_at hl 0 rfl) ?_
    refine va_get (D := (dC, dI)) (ci := 0) (v := .int (I1 7)) (C := R_D) (T := F_D) (N := 14) hx hb hts (fun w h => List.mem_cons_of_mem _ (in_D w h)) hown hK hP 0 rfl rfl 7 (by decide) (hts _ (List.mem_cons_of_mem _ lk_439)) (fun _ h9 => h9) rfl d_D_go_39 ?_
    refine lv_aload_n hx hb d_D_go_42 rfl (lv_at hl 0 rfl) ?_
    refine va_get (D := (dC, dI)) (ci := 0) (v := .int (I1 6)) (C := R_D) (T := F_D) (N := 14) hx hb hts (fun w h => List.mem_cons_of_mem _ (in_D w h)) hown hK hP 0 rfl rfl 6 (by decide) (hts _ (List.mem_cons_of_mem _ lk_438)) (fun _ h9 => h9) rfl d_D_go_43 ?_
    refine lv_icmp_ne (tgt := 54) hx hb d_D_go_46 (by decide) (fun hc1 => ?_) (fun hc1 => ?_)
    ·
      have hf := wk_iff hc1 hf
      exact blk54 I1 A M MB L X Y _ _ _ hf (lv_sub hl [0, 1, 2] rfl) hP hD hS
    ·
      have hf := wk_ift hc1 hf
      refine lv_aload_n hx hb d_D_go_49 rfl (lv_at hl 0 rfl) ?_
      refine lv_iconst (v := (-1)) hx hb d_D_go_50 (by decide) ?_
      refine va_put (D := (dC, dI)) (ci := 0) (v := .int (-1)) (ty := .int) (C := R_D) (T := F_D) (N := 14) hx hb hts (fun w h => List.mem_cons_of_mem _ (in_D w h)) t_D tk_D n_D hown hK hP hD hS 0 rfl rfl 7 (by decide) (hts _ (List.mem_cons_of_mem _ lk_439)) (fun _ h9 => h9) rfl (by decide +kernel) rfl rfl (Nat.le_of_ble_eq_true rfl) d_D_go_51 (fun H locs hP hD hS => ?_)
      obtain ⟨I2, hI2, hf⟩ := wk_letE hf
      have hP : va_P (dC, dI) vwCl (dw_W h q g hp qp gp tq tg tn tx I2 A M MB L) H := by rw [hI2]; exact hP
      have hD : va_D B9 (dw_W h q g hp qp gp tq tg tn tx I2 A M MB L) := by rw [hI2]; exact hD
      clear hI2
      exact blk54 I2 A M MB L X Y _ _ _ hf (lv_sub hl [0, 1, 2] rfl) hP hD hS
  unfold f_D_go at hf
  refine lv_aload_n hx hb d_D_go_0 rfl (lv_at hl 0 rfl) ?_
  refine lv_iload_n hx hb d_D_go_1 rfl (lv_at hl 1 rfl) ?_
  have hPc := hP.sub (ws' := (dw_W h q g hp qp gp tq tg tn tx I A M MB L)) [0, 1, 2, 3, 4, 5, 6, 7, 8, 9, 10] rfl
  have hDc := hD.sub (ws' := (dw_W h q g hp qp gp tq tg tn tx I A M MB L)) [0, 1, 2, 3, 4, 5, 6, 7, 8, 9, 10] (by decide) rfl
  have hKc := hK.sub (tys' := (dw_T h q g hp qp gp tq tg tn tx)) [0, 1, 2, 3, 4, 5, 6, 7, 8] rfl
  have hFc := va_free (wc := (dw_W h q g hp qp gp tq tg tn tx I A M MB L)) hD hS hA [0, 1, 2, 3, 4, 5, 6, 7, 8, 9, 10] rfl
  cases hg1 : f_D_requirePlace tn tx I A M MB L k1 with
  | none => rw [hg1] at hf; cases hf
  | some z1 =>
    obtain ⟨tg1, r1, I1, A1, M1, MB1, L1⟩ := z1
    rw [hg1] at hf
    dsimp only [Option.bind_some] at hf
    by_cases ht1 : tg1 = 0
    ·
      have hf := wk_ift ht1 hf
      rw [ht1] at hg1
      refine va_callv (va_runV (As := [.int k1]) (rest := []) ⟨hx, hb, hml, hown, hts⟩ (cm_D_requirePlace l dC dI h q g hp qp gp tq tg tn tx _  I A M MB L k1 r1 I1 A1 M1 MB1 L1 hg1) (cwV 1 hts (gd_v lk_442 lk_443 lk_444 lk_445 lk_441) rfl rfl rfl (by decide +kernel) ⟨Nat.le_of_ble_eq_true rfl, Nat.le_of_ble_eq_true rfl⟩) ⟨fun a U g mk q => by obtain ⟨q0, q1, qP, qK, qD⟩ := q; exact ⟨q0, q1, qP, va_K.moved (u := U) (U := U.calling g mk a) (Vm.Alike.refl U.vm) qK, qD⟩, va_recv (ci := 0) (q0 := 0) hK hP rfl rfl, fun U hU hW => ⟨rfl, by rw [hU], by rw [hU]; exact hPc, va_K.moved hW.alike hKc, hDc.weaken (fun _ _ _ _ => trivial)⟩⟩ rfl rfl hl.1 rfl (lv_room (Nat.le_of_ble_eq_true rfl)) d_D_go_2 ⟨Nat.le_of_ble_eq_true rfl, Nat.le_of_ble_eq_true rfl⟩) hS (fun q _ h => hFc q h) hFc (fun u t H1 locs ht hvm hw hB hz1 hk1 hS => ?_)
      obtain ⟨hP1, hK1, hD1⟩ := hB
      rw [ht] at hP1
      obtain ⟨hP, hD⟩ := va_join (wr := (([] : List Nat).map (fun i => ((dw_W h q g hp qp gp tq tg tn tx I A M MB L)).getD i (0, .inr (0, []))))) (w1 := (dw_W h q g hp qp gp tq tg tn tx I1 A1 M1 MB1 L1)) hP hD [0, 1, 2, 3, 4, 5, 6, 7, 8, 9, 10] [] rfl rfl (by decide) (by decide) hk1 hFc hP1 hD1
      generalize H1 = H at hP hS ⊢
      have hP := hP.sub (ws' := (dw_W h q g hp qp gp tq tg tn tx I1 A1 M1 MB1 L1)) [0, 1, 2, 3, 4, 5, 6, 7, 8, 9, 10] rfl
      have hD := hD.sub (ws' := (dw_W h q g hp qp gp tq tg tn tx I1 A1 M1 MB1 L1)) [0, 1, 2, 3, 4, 5, 6, 7, 8, 9, 10] (by decide) rfl
      refine lv_iload_n hx hb d_D_go_5 rfl (lv_at hl 2 rfl) ?_
      refine lv_if_ne (tgt := 17) hx hb d_D_go_6 (by decide) (fun hc1 => ?_) (fun hc1 => ?_)
      ·
        have hf := wk_iff hc1 hf
        refine lv_aload_n hx hb d_D_go_17 rfl (lv_at hl 0 rfl) ?_
        refine va_get (D := (dC, dI)) (ci := 0) (v := .int (I1 7)) (C := R_D) (T := F_D) (N := 14) hx hb hts (fun w h => List.mem_cons_of_mem _ (in_D w h)) hown hK hP 0 rfl rfl 7 (by decide) (hts _ (List.mem_cons_of_mem _ lk_439)) (fun _ h9 => h9) rfl d_D_go_18 ?_
        refine lv_iconst (v := (-1)) hx hb d_D_go_21 (by decide) ?_
        refine lv_icmp_ne (tgt := 33) hx hb d_D_go_22 (by decide) (fun hc2 => ?_) (fun hc2 => ?_)
        ·
          have hf := wk_iff hc2 hf
          exact blk33 I1 A1 M1 MB1 L1 (upd (upd (fun _ => 0) 1 k1) 2 k2) (fun _ => 0) _ _ _ hf (lv_sub hl [0, 1, 2] rfl) hP hD hS
        ·
          have hf := wk_ift hc2 hf
          refine lv_aload_n hx hb d_D_go_25 rfl (lv_at hl 0 rfl) ?_
          refine lv_aload_n hx hb d_D_go_26 rfl (lv_at hl 0 rfl) ?_
          refine va_get (D := (dC, dI)) (ci := 0) (v := .int (I1 6)) (C := R_D) (T := F_D) (N := 14) hx hb hts (fun w h => List.mem_cons_of_mem _ (in_D w h)) hown hK hP 0 rfl rfl 6 (by decide) (hts _ (List.mem_cons_of_mem _ lk_438)) (fun _ h9 => h9) rfl d_D_go_27 ?_
          refine va_put (D := (dC, dI)) (ci := 0) (v := .int (I1 6)) (ty := .int) (C := R_D) (T := F_D) (N := 14) hx hb hts (fun w h => List.mem_cons_of_mem _ (in_D w h)) t_D tk_D n_D hown hK hP hD hS 0 rfl rfl 7 (by decide) (hts _ (List.mem_cons_of_mem _ lk_439)) (fun _ h9 => h9) rfl (by decide +kernel) rfl rfl (Nat.le_of_ble_eq_true rfl) d_D_go_30 (fun H locs hP hD hS => ?_)
          obtain ⟨I2, hI2, hf⟩ := wk_letE hf
          have hP : va_P (dC, dI) vwCl (dw_W h q g hp qp gp tq tg tn tx I2 A1 M1 MB1 L1) H := by rw [hI2]; exact hP
          have hD : va_D B9 (dw_W h q g hp qp gp tq tg tn tx I2 A1 M1 MB1 L1) := by rw [hI2]; exact hD
          clear hI2
          exact blk33 I2 A1 M1 MB1 L1 (upd (upd (fun _ => 0) 1 k1) 2 k2) (fun _ => 0) _ _ _ hf (lv_sub hl [0, 1, 2] rfl) hP hD hS
      ·
        have hf := wk_ift hc1 hf
        refine lv_aload_n hx hb d_D_go_9 rfl (lv_at hl 0 rfl) ?_
        refine lv_iconst (v := (-1)) hx hb d_D_go_10 (by decide) ?_
        refine va_put (D := (dC, dI)) (ci := 0) (v := .int (-1)) (ty := .int) (C := R_D) (T := F_D) (N := 14) hx hb hts (fun w h => List.mem_cons_of_mem _ (in_D w h)) t_D tk_D n_D hown hK hP hD hS 0 rfl rfl 7 (by decide) (hts _ (List.mem_cons_of_mem _ lk_439)) (fun _ h9 => h9) rfl (by decide +kernel) rfl rfl (Nat.le_of_ble_eq_true rfl) d_D_go_11 (fun H locs hP hD hS => ?_)
        obtain ⟨I2, hI2, hf⟩ := wk_letE hf
        have hP : va_P (dC, dI) vwCl (dw_W h q g hp qp gp tq tg tn tx I2 A1 M1 MB1 L1) H := by rw [hI2]; exact hP
        have hD : va_D B9 (dw_W h q g hp qp gp tq tg tn tx I2 A1 M1 MB1 L1) := by rw [hI2]; exact hD
        clear hI2
        refine lv_goto (tgt := 33) hx hb d_D_go_14 (by decide) ?_
        exact blk33 I2 A1 M1 MB1 L1 (upd (upd (fun _ => 0) 1 k1) 2 k2) (fun _ => 0) _ _ _ hf (lv_sub hl [0, 1, 2] rfl) hP hD hS
    ·
      have hf := wk_iff ht1 hf
      by_cases hq1_2 : tg1 = 2
      ·
        have hf := wk_ift hq1_2 hf
        exact (wk_tag (by decide) hf).elim
      ·
        have hf := wk_iff hq1_2 hf
        cases hf
set_option maxHeartbeats 8000000 in
set_option maxRecDepth 100000 in
theorem ct_D_go_2 (l : Launch) (hfl : l.flags = flags0) (dC : Nat → ClassId) (dI : Nat → Nat → Nat) (h : Nat) (q : Nat → Nat) (g : Nat → ClassId) (hp : Nat) (qp : Nat → Nat) (gp : Nat → ClassId) (tq : Nat) (tg : ClassId) (tn : Nat) (tx : Nat → Int32) (sz : Nat) (I : MI) (A : MA) (M : MI) (MB : MA) (L : ML) (k1 : Int32) (k2 : Int32) (r : Int32) (I' : MI) (A' : MA) (M' : MI) (MB' : MA) (L' : ML) (hf : f_D_go tn tx I A M MB L  k1 k2 = some (2, r, I', A', M', MB', L')) : th_Met l y_D_go w_D_go ({ frames := 7, cells := 1, slots := 6, locals := 102 }) (va_Pc [.ref h, .int k1, .int k2] (fun U => U.heap.size = sz ∧ va_P (dC, dI) vwCl (dw_W h q g hp qp gp tq tg tn tx I A M MB L) U.heap ∧ va_K (dC, dI) vwCl (dw_T h q g hp qp gp tq tg tn tx) U ∧ va_D (fun _ => True) (dw_W h q g hp qp gp tq tg tn tx I A M MB L) ∧ th_ZA (va_A (dw_W h q g hp qp gp tq tg tn tx I A M MB L) sz) U)) (th_Qw "java/lang/IndexOutOfBoundsException" (fun t => va_P (dC, dI) vwCl (dw_W h q g hp qp gp tq tg tn tx I' A' M' MB' L') t.heap ∧ va_K (dC, dI) vwCl (dw_T h q g hp qp gp tq tg tn tx) t ∧ va_D (va_A (dw_W h q g hp qp gp tq tg tn tx I A M MB L) sz) (dw_W h q g hp qp gp tq tg tn tx I' A' M' MB' L')) (va_A (dw_W h q g hp qp gp tq tg tn tx I A M MB L) sz)) 1 6 (va_A (dw_W h q g hp qp gp tq tg tn tx I A M MB L) sz) := by
  refine th_Met.ofW (cc := prog_1_method_6_code) (maxL := 3) (ret := none) (by decide) rfl ?_
  intro p e s m args below meth c s₁ B hml hnh hv
  obtain ⟨rfl, hsz, hP, hK, hD0, hZ⟩ := hv
  have hx := B.exec
  have hb := B.bytes
  have hr := B.returns
  have hts := atoms_spec (ws := w_D_go) B.pre
  have hown : s.vm.findClass "DraftTree" = some m.cls := findClass_of_methodNamed B.named
  have hlocks := B.notSynchronized
  have htr := Launch.traces_off hfl B.admits
  subst hsz
  have hD := hD0.self (sz := s.heap.size)
  generalize hAe : va_A (dw_W h q g hp qp gp tq tg tn tx I A M MB L) s.heap.size = B9 at hD hZ ⊢
  have hA : ∀ q : Nat, s.heap.size ≤ q → B9 q := fun q h => by rw [← hAe]; exact Or.inr h
  clear hAe
  have hS : va_S B9 s.heap s.heap [] := va_S.rf
  have hl := lv_entry ([.ref h, .int k1, .int k2]) (n := 3) (Nat.le_of_ble_eq_true rfl)
  rw [lg_entry_eq]
  generalize (lg_sl ([.ref h, .int k1, .int k2]) ++ List.replicate (3 - (lg_sl ([.ref h, .int k1, .int k2])).length) Slot.unset).toArray = ls at hl ⊢
  have hl : lv_has ls 3 [(0, .ref h), (1, .int k1), (2, .int k2)] := hl
  have blk54 : ∀ (I : MI) (A : MA) (M : MI) (MB : MA) (L : ML) (X : Nat → Int32) (Y : Nat → Int64) (ls : Array Slot) (H : Heap) (locs : List Loc), f_D_go_54 tn tx I A M MB L X Y = some (2, r, I', A', M', MB', L') → lv_has ls 3 [(0, .ref h), (1, .int (X 1)), (2, .int (X 2))] → va_P (dC, dI) vwCl (dw_W h q g hp qp gp tq tg tn tx I A M MB L) H → va_D B9 (dw_W h q g hp qp gp tq tg tn tx I A M MB L) → va_S B9 s.heap H locs → W p l e (headSpec w_D_go ({ frames := 7, cells := 1, slots := 6, locals := 102 })).room s m ([.ref h, .int k1, .int k2] : List Value).toArray below meth c H locs 0 0 (th_Q below (th_Qw "java/lang/IndexOutOfBoundsException" (fun t => va_P (dC, dI) vwCl (dw_W h q g hp qp gp tq tg tn tx I' A' M' MB' L') t.heap ∧ va_K (dC, dI) vwCl (dw_T h q g hp qp gp tq tg tn tx) t ∧ va_D B9 (dw_W h q g hp qp gp tq tg tn tx I' A' M' MB' L')) B9) ([.ref h, .int k1, .int k2] : List Value).toArray s 1 6 B9) (F0 m 54 ls []) := by
    intro I A M MB L X Y ls H locs hf hl hP hD hS
    unfold f_D_go_54 at hf
    exact (wk_tag (by decide) hf).elim
  have blk33 : ∀ (I : MI) (A : MA) (M : MI) (MB : MA) (L : ML) (X : Nat → Int32) (Y : Nat → Int64) (ls : Array Slot) (H : Heap) (locs : List Loc), f_D_go_33 tn tx I A M MB L X Y = some (2, r, I', A', M', MB', L') → lv_has ls 3 [(0, .ref h), (1, .int (X 1)), (2, .int (X 2))] → va_P (dC, dI) vwCl (dw_W h q g hp qp gp tq tg tn tx I A M MB L) H → va_D B9 (dw_W h q g hp qp gp tq tg tn tx I A M MB L) → va_S B9 s.heap H locs → W p l e (headSpec w_D_go ({ frames := 7, cells := 1, slots := 6, locals := 102 })).room s m ([.ref h, .int k1, .int k2] : List Value).toArray below meth c H locs 0 0 (th_Q below (th_Qw "java/lang/IndexOutOfBoundsException" (fun t => va_P (dC, dI) vwCl (dw_W h q g hp qp gp tq tg tn tx I' A' M' MB' L') t.heap ∧ va_K (dC, dI) vwCl (dw_T h q g hp qp gp tq tg tn tx) t ∧ va_D B9 (dw_W h q g hp qp gp tq tg tn tx I' A' M' MB' L')) B9) ([.ref h, .int k1, .int k2] : List Value).toArray s 1 6 B9) (F0 m 33 ls []) := by
    intro I A M MB L X Y ls H locs hf hl hP hD hS
    unfold f_D_go_33 at hf
    refine lv_aload_n hx hb d_D_go_33 rfl (lv_at hl 0 rfl) ?_
    refine lv_iload_n hx hb d_D_go_34 rfl (lv_at hl 1 rfl) ?_
    refine va_put (D := (dC, dI)) (ci := 0) (v := .int (X 1)) (ty := .int) (C := R_D) (T := F_D) (N := 14) hx hb hts (fun w h => List.mem_cons_of_mem _ (in_D w h)) t_D tk_D n_D hown hK hP hD hS 0 rfl rfl 6 (by decide) (hts _ (List.mem_cons_of_mem _ lk_438)) (fun _ h9 => h9) rfl (by decide +kernel) rfl rfl (Nat.le_of_ble_eq_true rfl) d_D_go_35 (fun H locs hP hD hS => ?_)
    obtain ⟨I1, hI1, hf⟩ := wk_letE hf
    have hP : va_P (dC, dI) vwCl (dw_W h q g hp qp gp tq tg tn tx I1 A M MB L) H := by rw [hI1]; exact hP
    have hD : va_D B9 (dw_W h q g hp qp gp tq tg tn tx I1 A M MB L) := by rw [hI1]; exact hD
    clear hI1
    refine lv_aload_n hx hb d_D_go_38 rfl (lv_at hl 0 rfl) ?_
    refine va_get (D := (dC, dI)) (ci := 0) (v := .int (I1 7)) (C := R_D) (T := F_D) (N := 14) hx hb hts (fun w h => List.mem_cons_of_mem _ (in_D w h)) hown hK hP 0 rfl rfl 7 (by decide) (hts _ (List.mem_cons_of_mem _ lk_439)) (fun _ h9 => h9) rfl d_D_go_39 ?_
    refine lv_aload_n hx hb d_D_go_42 rfl (lv_at hl 0 rfl) ?_
    refine va_get (D := (dC, dI)) (ci := 0) (v := .int (I1 6)) (C := R_D) (T := F_D) (N := 14) hx hb hts (fun w h => List.mem_cons_of_mem _ (in_D w h)) hown hK hP 0 rfl rfl 6 (by decide) (hts _ (List.mem_cons_of_mem _ lk_438)) (fun _ h9 => h9) rfl d_D_go_43 ?_
    refine lv_icmp_ne (tgt := 54) hx hb d_D_go_46 (by decide) (fun hc1 => ?_) (fun hc1 => ?_)
    ·
      have hf := wk_iff hc1 hf
      exact blk54 I1 A M MB L X Y _ _ _ hf (lv_sub hl [0, 1, 2] rfl) hP hD hS
    ·
      have hf := wk_ift hc1 hf
      refine lv_aload_n hx hb d_D_go_49 rfl (lv_at hl 0 rfl) ?_
      refine lv_iconst (v := (-1)) hx hb d_D_go_50 (by decide) ?_
      refine va_put (D := (dC, dI)) (ci := 0) (v := .int (-1)) (ty := .int) (C := R_D) (T := F_D) (N := 14) hx hb hts (fun w h => List.mem_cons_of_mem _ (in_D w h)) t_D tk_D n_D hown hK hP hD hS 0 rfl rfl 7 (by decide) (hts _ (List.mem_cons_of_mem _ lk_439)) (fun _ h9 => h9) rfl (by decide +kernel) rfl rfl (Nat.le_of_ble_eq_true rfl) d_D_go_51 (fun H locs hP hD hS => ?_)
      obtain ⟨I2, hI2, hf⟩ := wk_letE hf
      have hP : va_P (dC, dI) vwCl (dw_W h q g hp qp gp tq tg tn tx I2 A M MB L) H := by rw [hI2]; exact hP
      have hD : va_D B9 (dw_W h q g hp qp gp tq tg tn tx I2 A M MB L) := by rw [hI2]; exact hD
      clear hI2
      exact blk54 I2 A M MB L X Y _ _ _ hf (lv_sub hl [0, 1, 2] rfl) hP hD hS
  unfold f_D_go at hf
  refine lv_aload_n hx hb d_D_go_0 rfl (lv_at hl 0 rfl) ?_
  refine lv_iload_n hx hb d_D_go_1 rfl (lv_at hl 1 rfl) ?_
  have hPc := hP.sub (ws' := (dw_W h q g hp qp gp tq tg tn tx I A M MB L)) [0, 1, 2, 3, 4, 5, 6, 7, 8, 9, 10] rfl
  have hDc := hD.sub (ws' := (dw_W h q g hp qp gp tq tg tn tx I A M MB L)) [0, 1, 2, 3, 4, 5, 6, 7, 8, 9, 10] (by decide) rfl
  have hKc := hK.sub (tys' := (dw_T h q g hp qp gp tq tg tn tx)) [0, 1, 2, 3, 4, 5, 6, 7, 8] rfl
  have hFc := va_free (wc := (dw_W h q g hp qp gp tq tg tn tx I A M MB L)) hD hS hA [0, 1, 2, 3, 4, 5, 6, 7, 8, 9, 10] rfl
  cases hg1 : f_D_requirePlace tn tx I A M MB L k1 with
  | none => rw [hg1] at hf; cases hf
  | some z1 =>
    obtain ⟨tg1, r1, I1, A1, M1, MB1, L1⟩ := z1
    rw [hg1] at hf
    dsimp only [Option.bind_some] at hf
    by_cases ht1 : tg1 = 0
    ·
      have hf := wk_ift ht1 hf
      rw [ht1] at hg1
      refine va_callv (va_runV (As := [.int k1]) (rest := []) ⟨hx, hb, hml, hown, hts⟩ (cm_D_requirePlace l dC dI h q g hp qp gp tq tg tn tx _  I A M MB L k1 r1 I1 A1 M1 MB1 L1 hg1) (cwV 1 hts (gd_v lk_442 lk_443 lk_444 lk_445 lk_441) rfl rfl rfl (by decide +kernel) ⟨Nat.le_of_ble_eq_true rfl, Nat.le_of_ble_eq_true rfl⟩) ⟨fun a U g mk q => by obtain ⟨q0, q1, qP, qK, qD⟩ := q; exact ⟨q0, q1, qP, va_K.moved (u := U) (U := U.calling g mk a) (Vm.Alike.refl U.vm) qK, qD⟩, va_recv (ci := 0) (q0 := 0) hK hP rfl rfl, fun U hU hW => ⟨rfl, by rw [hU], by rw [hU]; exact hPc, va_K.moved hW.alike hKc, hDc.weaken (fun _ _ _ _ => trivial)⟩⟩ rfl rfl hl.1 rfl (lv_room (Nat.le_of_ble_eq_true rfl)) d_D_go_2 ⟨Nat.le_of_ble_eq_true rfl, Nat.le_of_ble_eq_true rfl⟩) hS (fun q _ h => hFc q h) hFc (fun u t H1 locs ht hvm hw hB hz1 hk1 hS => ?_)
      obtain ⟨hP1, hK1, hD1⟩ := hB
      rw [ht] at hP1
      obtain ⟨hP, hD⟩ := va_join (wr := (([] : List Nat).map (fun i => ((dw_W h q g hp qp gp tq tg tn tx I A M MB L)).getD i (0, .inr (0, []))))) (w1 := (dw_W h q g hp qp gp tq tg tn tx I1 A1 M1 MB1 L1)) hP hD [0, 1, 2, 3, 4, 5, 6, 7, 8, 9, 10] [] rfl rfl (by decide) (by decide) hk1 hFc hP1 hD1
      generalize H1 = H at hP hS ⊢
      have hP := hP.sub (ws' := (dw_W h q g hp qp gp tq tg tn tx I1 A1 M1 MB1 L1)) [0, 1, 2, 3, 4, 5, 6, 7, 8, 9, 10] rfl
      have hD := hD.sub (ws' := (dw_W h q g hp qp gp tq tg tn tx I1 A1 M1 MB1 L1)) [0, 1, 2, 3, 4, 5, 6, 7, 8, 9, 10] (by decide) rfl
      refine lv_iload_n hx hb d_D_go_5 rfl (lv_at hl 2 rfl) ?_
      refine lv_if_ne (tgt := 17) hx hb d_D_go_6 (by decide) (fun hc1 => ?_) (fun hc1 => ?_)
      ·
        have hf := wk_iff hc1 hf
        refine lv_aload_n hx hb d_D_go_17 rfl (lv_at hl 0 rfl) ?_
        refine va_get (D := (dC, dI)) (ci := 0) (v := .int (I1 7)) (C := R_D) (T := F_D) (N := 14) hx hb hts (fun w h => List.mem_cons_of_mem _ (in_D w h)) hown hK hP 0 rfl rfl 7 (by decide) (hts _ (List.mem_cons_of_mem _ lk_439)) (fun _ h9 => h9) rfl d_D_go_18 ?_
        refine lv_iconst (v := (-1)) hx hb d_D_go_21 (by decide) ?_
        refine lv_icmp_ne (tgt := 33) hx hb d_D_go_22 (by decide) (fun hc2 => ?_) (fun hc2 => ?_)
        ·
          have hf := wk_iff hc2 hf
          exact blk33 I1 A1 M1 MB1 L1 (upd (upd (fun _ => 0) 1 k1) 2 k2) (fun _ => 0) _ _ _ hf (lv_sub hl [0, 1, 2] rfl) hP hD hS
        ·
          have hf := wk_ift hc2 hf
          refine lv_aload_n hx hb d_D_go_25 rfl (lv_at hl 0 rfl) ?_
          refine lv_aload_n hx hb d_D_go_26 rfl (lv_at hl 0 rfl) ?_
          refine va_get (D := (dC, dI)) (ci := 0) (v := .int (I1 6)) (C := R_D) (T := F_D) (N := 14) hx hb hts (fun w h => List.mem_cons_of_mem _ (in_D w h)) hown hK hP 0 rfl rfl 6 (by decide) (hts _ (List.mem_cons_of_mem _ lk_438)) (fun _ h9 => h9) rfl d_D_go_27 ?_
          refine va_put (D := (dC, dI)) (ci := 0) (v := .int (I1 6)) (ty := .int) (C := R_D) (T := F_D) (N := 14) hx hb hts (fun w h => List.mem_cons_of_mem _ (in_D w h)) t_D tk_D n_D hown hK hP hD hS 0 rfl rfl 7 (by decide) (hts _ (List.mem_cons_of_mem _ lk_439)) (fun _ h9 => h9) rfl (by decide +kernel) rfl rfl (Nat.le_of_ble_eq_true rfl) d_D_go_30 (fun H locs hP hD hS => ?_)
          obtain ⟨I2, hI2, hf⟩ := wk_letE hf
          have hP : va_P (dC, dI) vwCl (dw_W h q g hp qp gp tq tg tn tx I2 A1 M1 MB1 L1) H := by rw [hI2]; exact hP
          have hD : va_D B9 (dw_W h q g hp qp gp tq tg tn tx I2 A1 M1 MB1 L1) := by rw [hI2]; exact hD
          clear hI2
          exact blk33 I2 A1 M1 MB1 L1 (upd (upd (fun _ => 0) 1 k1) 2 k2) (fun _ => 0) _ _ _ hf (lv_sub hl [0, 1, 2] rfl) hP hD hS
      ·
        have hf := wk_ift hc1 hf
        refine lv_aload_n hx hb d_D_go_9 rfl (lv_at hl 0 rfl) ?_
        refine lv_iconst (v := (-1)) hx hb d_D_go_10 (by decide) ?_
        refine va_put (D := (dC, dI)) (ci := 0) (v := .int (-1)) (ty := .int) (C := R_D) (T := F_D) (N := 14) hx hb hts (fun w h => List.mem_cons_of_mem _ (in_D w h)) t_D tk_D n_D hown hK hP hD hS 0 rfl rfl 7 (by decide) (hts _ (List.mem_cons_of_mem _ lk_439)) (fun _ h9 => h9) rfl (by decide +kernel) rfl rfl (Nat.le_of_ble_eq_true rfl) d_D_go_11 (fun H locs hP hD hS => ?_)
        obtain ⟨I2, hI2, hf⟩ := wk_letE hf
        have hP : va_P (dC, dI) vwCl (dw_W h q g hp qp gp tq tg tn tx I2 A1 M1 MB1 L1) H := by rw [hI2]; exact hP
        have hD : va_D B9 (dw_W h q g hp qp gp tq tg tn tx I2 A1 M1 MB1 L1) := by rw [hI2]; exact hD
        clear hI2
        refine lv_goto (tgt := 33) hx hb d_D_go_14 (by decide) ?_
        exact blk33 I2 A1 M1 MB1 L1 (upd (upd (fun _ => 0) 1 k1) 2 k2) (fun _ => 0) _ _ _ hf (lv_sub hl [0, 1, 2] rfl) hP hD hS
    ·
      have hf := wk_iff ht1 hf
      by_cases hq1_2 : tg1 = 2
      ·
        have hf := wk_ift hq1_2 hf
        rw [hq1_2] at hg1
        obtain ⟨e0, e1, e2, e3, e4, e5, e6⟩ := wk_inj6 hf
        subst e1
        subst e2
        subst e3
        subst e4
        subst e5
        subst e6
        refine th_passG (A1 := va_A (dw_W h q g hp qp gp tq tg tn tx I A M MB L) _) (th_runV (As := [.int k1]) (rest := []) ⟨hx, hb, hml, hown, hts⟩ (ct_D_requirePlace_2 l hfl dC dI h q g hp qp gp tq tg tn tx _  I A M MB L k1 r1 I1 A1 M1 MB1 L1 hg1) (cwV 1 hts (gd_v lk_442 lk_443 lk_444 lk_445 lk_441) rfl rfl rfl (by decide +kernel) ⟨Nat.le_of_ble_eq_true rfl, Nat.le_of_ble_eq_true rfl⟩) ⟨fun a U g mk q => by obtain ⟨q0, q1, qP, qK, qD, qZ⟩ := q; exact ⟨q0, q1, qP, va_K.moved (u := U) (U := U.calling g mk a) (Vm.Alike.refl U.vm) qK, qD, th_ZA.calling qZ⟩, va_recv (ci := 0) (q0 := 0) hK hP rfl rfl, fun U hU hW => ⟨rfl, by rw [hU], by rw [hU]; exact hPc, va_K.moved hW.alike hKc, hDc.weaken (fun _ _ _ _ => trivial), th_ZA.to hZ hS hU hW hFc⟩⟩ rfl rfl hl.1 rfl (lv_room (Nat.le_of_ble_eq_true rfl)) d_D_go_2 ⟨Nat.le_of_ble_eq_true rfl, Nat.le_of_ble_eq_true rfl⟩) hnh hlocks hS hFc (Nat.le_of_ble_eq_true rfl) (Nat.le_of_ble_eq_true rfl) (fun t hal hb1 hz1 hk1 u hu hau => ?_)
        obtain ⟨hP1, hK1, hD1⟩ := hb1
        obtain ⟨hP, hD⟩ := va_join (wr := (([] : List Nat).map (fun i => ((dw_W h q g hp qp gp tq tg tn tx I A M MB L)).getD i (0, .inr (0, []))))) (w1 := (dw_W h q g hp qp gp tq tg tn tx I1 A1 M1 MB1 L1)) hP hD [0, 1, 2, 3, 4, 5, 6, 7, 8, 9, 10] [] rfl rfl (by decide) (by decide) hk1 hFc hP1 hD1
        exact ⟨by rw [hu]; exact hP.sub (ws' := (dw_W h q g hp qp gp tq tg tn tx I1 A1 M1 MB1 L1)) [0, 1, 2, 3, 4, 5, 6, 7, 8, 9, 10] rfl, va_K.moved hau hK, hD.sub (ws' := (dw_W h q g hp qp gp tq tg tn tx I1 A1 M1 MB1 L1)) [0, 1, 2, 3, 4, 5, 6, 7, 8, 9, 10] (by decide) rfl⟩
      ·
        have hf := wk_iff hq1_2 hf
        cases hf

set_option maxHeartbeats 8000000 in
set_option maxRecDepth 100000 in
theorem cm_D_requireState (l : Launch) (dC : Nat → ClassId) (dI : Nat → Nat → Nat) (h : Nat) (q : Nat → Nat) (g : Nat → ClassId) (hj : Nat) (pt : Nat) (tg : ClassId) (sa : Nat → Nat) (ta : Nat → Nat) (n : Nat) (SO : Nat → Int32) (tn : Nat → Nat) (tx : Nat → Nat → Int32) (sz : Nat) (I : MI) (cx : Nat) (SP : MI) (SL : MI) (k1 : Int32) (r : Int32) (I' : MI) (cx' : Nat) (SP' : MI) (SL' : MI) (hf : f_D_requireState n SO I cx SP SL  k1 = some (0, r, I', cx', SP', SL')) : Met l y_D_requireState w_D_requireState ({ frames := 0, cells := 0, slots := 0, locals := 0 }) (va_Pc [.ref h, .int k1] (fun U => U.heap.size = sz ∧ va_P (dC, dI) vwCl (tw_W h q g hj pt tg sa ta n SO tn tx I cx SP SL) U.heap ∧ va_K (dC, dI) vwCl (tw_T h q g hj pt tg sa ta n SO tn tx) U ∧ va_D (fun _ => True) (tw_W h q g hj pt tg sa ta n SO tn tx I cx SP SL))) (va_Qv (fun (u : Unit) => u = u) (fun (_ : Unit) t => va_P (dC, dI) vwCl (tw_W h q g hj pt tg sa ta n SO tn tx I' cx' SP' SL') t.heap ∧ va_K (dC, dI) vwCl (tw_T h q g hj pt tg sa ta n SO tn tx) t ∧ va_D (va_A (tw_W h q g hj pt tg sa ta n SO tn tx I cx SP SL) sz) (tw_W h q g hj pt tg sa ta n SO tn tx I' cx' SP' SL')) (va_A (tw_W h q g hj pt tg sa ta n SO tn tx I cx SP SL) sz)) 0 0 (va_A (tw_W h q g hj pt tg sa ta n SO tn tx I cx SP SL) sz) := by
  refine Met.ofW (cc := prog_1_method_20_code) (maxL := 2) (ret := none) (by decide) rfl ?_
  intro p e s m args below meth c s₁ B hml hv
  obtain ⟨rfl, hsz, hP, hK, hD0⟩ := hv
  have hx := B.exec
  have hb := B.bytes
  have hr := B.returns
  have hts := atoms_spec (ws := w_D_requireState) B.pre
  have hown : s.vm.findClass "DraftTree" = some m.cls := findClass_of_methodNamed B.named
  have hlocks := B.notSynchronized
  subst hsz
  have hD := hD0.self (sz := s.heap.size)
  generalize hAe : va_A (tw_W h q g hj pt tg sa ta n SO tn tx I cx SP SL) s.heap.size = B9 at hD ⊢
  have hA : ∀ q : Nat, s.heap.size ≤ q → B9 q := fun q h => by rw [← hAe]; exact Or.inr h
  clear hAe
  have hS : va_S B9 s.heap s.heap [] := va_S.rf
  have hl := lv_entry ([.ref h, .int k1]) (n := 2) (Nat.le_of_ble_eq_true rfl)
  rw [lg_entry_eq]
  generalize (lg_sl ([.ref h, .int k1]) ++ List.replicate (2 - (lg_sl ([.ref h, .int k1])).length) Slot.unset).toArray = ls at hl ⊢
  have hl : lv_has ls 2 [(0, .ref h), (1, .int k1)] := hl
  have blk12 : ∀ (I : MI) (cx : Nat) (SP : MI) (SL : MI) (X : Nat → Int32) (Y : Nat → Int64) (ls : Array Slot) (H : Heap) (locs : List Loc), f_D_requireState_12 n SO I cx SP SL X Y = some (0, r, I', cx', SP', SL') → lv_has ls 2 [(0, .ref h), (1, .int (X 1))] → va_P (dC, dI) vwCl (tw_W h q g hj pt tg sa ta n SO tn tx I cx SP SL) H → va_D B9 (tw_W h q g hj pt tg sa ta n SO tn tx I cx SP SL) → va_S B9 s.heap H locs → W p l e (headSpec w_D_requireState ({ frames := 0, cells := 0, slots := 0, locals := 0 })).room s m ([.ref h, .int k1] : List Value).toArray below meth c H locs 0 0 (MQ below (va_Qv (fun (u : Unit) => u = u) (fun (_ : Unit) t => va_P (dC, dI) vwCl (tw_W h q g hj pt tg sa ta n SO tn tx I' cx' SP' SL') t.heap ∧ va_K (dC, dI) vwCl (tw_T h q g hj pt tg sa ta n SO tn tx) t ∧ va_D B9 (tw_W h q g hj pt tg sa ta n SO tn tx I' cx' SP' SL')) B9) ([.ref h, .int k1] : List Value).toArray s 0 0 B9) (F0 m 12 ls []) := by
    intro I cx SP SL X Y ls H locs hf hl hP hD hS
    unfold f_D_requireState_12 at hf
    exact (wk_tag (by decide) hf).elim
  unfold f_D_requireState at hf
  refine lv_iload_n hx hb d_D_requireState_0 rfl (lv_at hl 1 rfl) ?_
  refine lv_if_lt (tgt := 12) hx hb d_D_requireState_1 (by decide) (fun hc1 => ?_) (fun hc1 => ?_)
  ·
    have hf := wk_ift hc1 hf
    exact blk12 I cx SP SL (upd (fun _ => 0) 1 k1) (fun _ => 0) _ _ _ hf (lv_sub hl [0, 1] rfl) hP hD hS
  ·
    have hf := wk_iff hc1 hf
    refine lv_iload_n hx hb d_D_requireState_4 rfl (lv_at hl 1 rfl) ?_
    refine lv_aload_n hx hb d_D_requireState_5 rfl (lv_at hl 0 rfl) ?_
    refine va_get (D := (dC, dI)) (ci := 0) (v := .int (I 3)) (C := R_D) (T := F_D) (N := 14) hx hb hts (fun w h => List.mem_cons_of_mem _ (in_D w h)) hown hK hP 0 rfl rfl 3 (by decide) (hts _ (List.mem_cons_of_mem _ lk_437)) (fun _ h9 => h9) rfl d_D_requireState_6 ?_
    refine lv_icmp_lt (tgt := 20) hx hb d_D_requireState_9 (by decide) (fun hc2 => ?_) (fun hc2 => ?_)
    ·
      have hf := wk_ift hc2 hf
      obtain ⟨e0, e1, e2, e3, e4, e5⟩ := wk_inj5 hf
      subst e1
      subst e2
      subst e3
      subst e4
      subst e5
      exact W.vret hx hb hr (fun t ht hW => ⟨⟨(), rfl, rfl, by rw [ht]; exact hP, va_K.moved hW.alike hK, hD⟩, hS.F ht⟩) hS.2.2 d_D_requireState_20
    ·
      have hf := wk_iff hc2 hf
      exact blk12 I cx SP SL (upd (fun _ => 0) 1 k1) (fun _ => 0) _ _ _ hf (lv_sub hl [0, 1] rfl) hP hD hS
set_option maxHeartbeats 8000000 in
set_option maxRecDepth 100000 in
theorem ct_D_requireState_3 (l : Launch) (hfl : l.flags = flags0) (dC : Nat → ClassId) (dI : Nat → Nat → Nat) (h : Nat) (q : Nat → Nat) (g : Nat → ClassId) (hj : Nat) (pt : Nat) (tg : ClassId) (sa : Nat → Nat) (ta : Nat → Nat) (n : Nat) (SO : Nat → Int32) (tn : Nat → Nat) (tx : Nat → Nat → Int32) (sz : Nat) (I : MI) (cx : Nat) (SP : MI) (SL : MI) (k1 : Int32) (r : Int32) (I' : MI) (cx' : Nat) (SP' : MI) (SL' : MI) (hf : f_D_requireState n SO I cx SP SL  k1 = some (3, r, I', cx', SP', SL')) : th_Met l y_D_requireState w_D_requireState ({ frames := 6, cells := 1, slots := 6, locals := 81 }) (va_Pc [.ref h, .int k1] (fun U => U.heap.size = sz ∧ va_P (dC, dI) vwCl (tw_W h q g hj pt tg sa ta n SO tn tx I cx SP SL) U.heap ∧ va_K (dC, dI) vwCl (tw_T h q g hj pt tg sa ta n SO tn tx) U ∧ va_D (fun _ => True) (tw_W h q g hj pt tg sa ta n SO tn tx I cx SP SL) ∧ th_ZA (va_A (tw_W h q g hj pt tg sa ta n SO tn tx I cx SP SL) sz) U)) (th_Qw "java/lang/IllegalArgumentException" (fun t => va_P (dC, dI) vwCl (tw_W h q g hj pt tg sa ta n SO tn tx I' cx' SP' SL') t.heap ∧ va_K (dC, dI) vwCl (tw_T h q g hj pt tg sa ta n SO tn tx) t ∧ va_D (va_A (tw_W h q g hj pt tg sa ta n SO tn tx I cx SP SL) sz) (tw_W h q g hj pt tg sa ta n SO tn tx I' cx' SP' SL')) (va_A (tw_W h q g hj pt tg sa ta n SO tn tx I cx SP SL) sz)) 1 6 (va_A (tw_W h q g hj pt tg sa ta n SO tn tx I cx SP SL) sz) := by
  refine th_Met.ofW (cc := prog_1_method_20_code) (maxL := 2) (ret := none) (by decide) rfl ?_
  intro p e s m args below meth c s₁ B hml hnh hv
  obtain ⟨rfl, hsz, hP, hK, hD0, hZ⟩ := hv
  have hx := B.exec
  have hb := B.bytes
  have hr := B.returns
  have hts := atoms_spec (ws := w_D_requireState) B.pre
  have hown : s.vm.findClass "DraftTree" = some m.cls := findClass_of_methodNamed B.named
  have hlocks := B.notSynchronized
  have htr := Launch.traces_off hfl B.admits
  subst hsz
  have hD := hD0.self (sz := s.heap.size)
  generalize hAe : va_A (tw_W h q g hj pt tg sa ta n SO tn tx I cx SP SL) s.heap.size = B9 at hD hZ ⊢
  have hA : ∀ q : Nat, s.heap.size ≤ q → B9 q := fun q h => by rw [← hAe]; exact Or.inr h
  clear hAe
  have hS : va_S B9 s.heap s.heap [] := va_S.rf
  have hl := lv_entry ([.ref h, .int k1]) (n := 2) (Nat.le_of_ble_eq_true rfl)
  rw [lg_entry_eq]
  generalize (lg_sl ([.ref h, .int k1]) ++ List.replicate (2 - (lg_sl ([.ref h, .int k1])).length) Slot.unset).toArray = ls at hl ⊢
  have hl : lv_has ls 2 [(0, .ref h), (1, .int k1)] := hl
  have blk12 : ∀ (I : MI) (cx : Nat) (SP : MI) (SL : MI) (X : Nat → Int32) (Y : Nat → Int64) (ls : Array Slot) (H : Heap) (locs : List Loc), f_D_requireState_12 n SO I cx SP SL X Y = some (3, r, I', cx', SP', SL') → lv_has ls 2 [(0, .ref h), (1, .int (X 1))] → va_P (dC, dI) vwCl (tw_W h q g hj pt tg sa ta n SO tn tx I cx SP SL) H → va_D B9 (tw_W h q g hj pt tg sa ta n SO tn tx I cx SP SL) → va_S B9 s.heap H locs → W p l e (headSpec w_D_requireState ({ frames := 6, cells := 1, slots := 6, locals := 81 })).room s m ([.ref h, .int k1] : List Value).toArray below meth c H locs 0 0 (th_Q below (th_Qw "java/lang/IllegalArgumentException" (fun t => va_P (dC, dI) vwCl (tw_W h q g hj pt tg sa ta n SO tn tx I' cx' SP' SL') t.heap ∧ va_K (dC, dI) vwCl (tw_T h q g hj pt tg sa ta n SO tn tx) t ∧ va_D B9 (tw_W h q g hj pt tg sa ta n SO tn tx I' cx' SP' SL')) B9) ([.ref h, .int k1] : List Value).toArray s 1 6 B9) (F0 m 12 ls []) := by
    intro I cx SP SL X Y ls H locs hf hl hP hD hS
    unfold f_D_requireState_12 at hf
    obtain ⟨e0, e1, e2, e3, e4, e5⟩ := wk_inj5 hf
    subst e1
    subst e2
    subst e3
    subst e4
    subst e5
    exact th_newG hx hb htr hown (by decide) (by decide) (wk_thr hts hZ hS lk_432 lk_433 (fun _ a9 b9 => oa_1 a9 b9)) hnh (by rw [hl.1, hml]) hS (Nat.le_of_ble_eq_true rfl) (Nat.le_of_ble_eq_true rfl) (Nat.le_of_ble_eq_true rfl) (Nat.le_of_ble_eq_true rfl) (Nat.le_of_ble_eq_true rfl) (Nat.le_of_ble_eq_true rfl) hlocks (fun t hal hk => ⟨hP.kept (fun k q hq => hk _ (hP k q hq).lt), va_K.moved hal hK, hD⟩) d_D_requireState_12 d_D_requireState_15 d_D_requireState_16 d_D_requireState_19
  unfold f_D_requireState at hf
  refine lv_iload_n hx hb d_D_requireState_0 rfl (lv_at hl 1 rfl) ?_
  refine lv_if_lt (tgt := 12) hx hb d_D_requireState_1 (by decide) (fun hc1 => ?_) (fun hc1 => ?_)
  ·
    have hf := wk_ift hc1 hf
    exact blk12 I cx SP SL (upd (fun _ => 0) 1 k1) (fun _ => 0) _ _ _ hf (lv_sub hl [0, 1] rfl) hP hD hS
  ·
    have hf := wk_iff hc1 hf
    refine lv_iload_n hx hb d_D_requireState_4 rfl (lv_at hl 1 rfl) ?_
    refine lv_aload_n hx hb d_D_requireState_5 rfl (lv_at hl 0 rfl) ?_
    refine va_get (D := (dC, dI)) (ci := 0) (v := .int (I 3)) (C := R_D) (T := F_D) (N := 14) hx hb hts (fun w h => List.mem_cons_of_mem _ (in_D w h)) hown hK hP 0 rfl rfl 3 (by decide) (hts _ (List.mem_cons_of_mem _ lk_437)) (fun _ h9 => h9) rfl d_D_requireState_6 ?_
    refine lv_icmp_lt (tgt := 20) hx hb d_D_requireState_9 (by decide) (fun hc2 => ?_) (fun hc2 => ?_)
    ·
      have hf := wk_ift hc2 hf
      exact (wk_tag (by decide) hf).elim
    ·
      have hf := wk_iff hc2 hf
      exact blk12 I cx SP SL (upd (fun _ => 0) 1 k1) (fun _ => 0) _ _ _ hf (lv_sub hl [0, 1] rfl) hP hD hS

set_option maxHeartbeats 8000000 in
set_option maxRecDepth 100000 in
theorem cm_D_moveTo (l : Launch) (dC : Nat → ClassId) (dI : Nat → Nat → Nat) (h : Nat) (q : Nat → Nat) (g : Nat → ClassId) (hj : Nat) (pt : Nat) (tg : ClassId) (sa : Nat → Nat) (ta : Nat → Nat) (n : Nat) (SO : Nat → Int32) (tn : Nat → Nat) (tx : Nat → Nat → Int32) (sz : Nat) (I : MI) (cx : Nat) (SP : MI) (SL : MI) (k1 : Int32) (r : Int32) (I' : MI) (cx' : Nat) (SP' : MI) (SL' : MI) (hf : f_D_moveTo n SO I cx SP SL  k1 = some (r, I', cx', SP', SL')) : Met l y_D_moveTo w_D_moveTo ({ frames := 0, cells := 0, slots := 0, locals := 0 }) (va_Pc [.ref h, .int k1] (fun U => U.heap.size = sz ∧ va_P (dC, dI) vwCl (tw_W h q g hj pt tg sa ta n SO tn tx I cx SP SL) U.heap ∧ va_K (dC, dI) vwCl (tw_T h q g hj pt tg sa ta n SO tn tx) U ∧ va_D (fun _ => True) (tw_W h q g hj pt tg sa ta n SO tn tx I cx SP SL))) (va_Qv (fun (u : Unit) => u = u) (fun (_ : Unit) t => va_P (dC, dI) vwCl (tw_W h q g hj pt tg sa ta n SO tn tx I' cx' SP' SL') t.heap ∧ va_K (dC, dI) vwCl (tw_T h q g hj pt tg sa ta n SO tn tx) t ∧ va_D (va_A (tw_W h q g hj pt tg sa ta n SO tn tx I cx SP SL) sz) (tw_W h q g hj pt tg sa ta n SO tn tx I' cx' SP' SL')) (va_A (tw_W h q g hj pt tg sa ta n SO tn tx I cx SP SL) sz)) 0 0 (va_A (tw_W h q g hj pt tg sa ta n SO tn tx I cx SP SL) sz) := by
  refine Met.ofW (cc := prog_1_method_23_code) (maxL := 3) (ret := none) (by decide) rfl ?_
  intro p e s m args below meth c s₁ B hml hv
  obtain ⟨rfl, hsz, hP, hK, hD0⟩ := hv
  have hx := B.exec
  have hb := B.bytes
  have hr := B.returns
  have hts := atoms_spec (ws := w_D_moveTo) B.pre
  have hown : s.vm.findClass "DraftTree" = some m.cls := findClass_of_methodNamed B.named
  have hlocks := B.notSynchronized
  subst hsz
  have hD := hD0.self (sz := s.heap.size)
  generalize hAe : va_A (tw_W h q g hj pt tg sa ta n SO tn tx I cx SP SL) s.heap.size = B9 at hD ⊢
  have hA : ∀ q : Nat, s.heap.size ≤ q → B9 q := fun q h => by rw [← hAe]; exact Or.inr h
  clear hAe
  have hS : va_S B9 s.heap s.heap [] := va_S.rf
  have hl := lv_entry ([.ref h, .int k1]) (n := 3) (Nat.le_of_ble_eq_true rfl)
  rw [lg_entry_eq]
  generalize (lg_sl ([.ref h, .int k1]) ++ List.replicate (3 - (lg_sl ([.ref h, .int k1])).length) Slot.unset).toArray = ls at hl ⊢
  have hl : lv_has ls 3 [(0, .ref h), (1, .int k1)] := hl
  have blk70 : ∀ (I : MI) (cx : Nat) (SP : MI) (SL : MI) (X : Nat → Int32) (Y : Nat → Int64) (ls : Array Slot) (H : Heap) (locs : List Loc), f_D_moveTo_70 n SO I cx SP SL X Y = some (r, I', cx', SP', SL') → lv_has ls 3 [(0, .ref h), (1, .int (X 1)), (2, .ref (sa (k1).toNatClampNeg))] → va_P (dC, dI) vwCl (tw_W h q g hj pt tg sa ta n SO tn tx I cx SP SL) H → va_D B9 (tw_W h q g hj pt tg sa ta n SO tn tx I cx SP SL) → va_S B9 s.heap H locs → W p l e (headSpec w_D_moveTo ({ frames := 0, cells := 0, slots := 0, locals := 0 })).room s m ([.ref h, .int k1] : List Value).toArray below meth c H locs 0 0 (MQ below (va_Qv (fun (u : Unit) => u = u) (fun (_ : Unit) t => va_P (dC, dI) vwCl (tw_W h q g hj pt tg sa ta n SO tn tx I' cx' SP' SL') t.heap ∧ va_K (dC, dI) vwCl (tw_T h q g hj pt tg sa ta n SO tn tx) t ∧ va_D B9 (tw_W h q g hj pt tg sa ta n SO tn tx I' cx' SP' SL')) B9) ([.ref h, .int k1] : List Value).toArray s 0 0 B9) (F0 m 70 ls []) := by
    intro I cx SP SL X Y ls H locs hf hl hP hD hS
    unfold f_D_moveTo_70 at hf
    obtain ⟨e0, e1, e2, e3, e4⟩ := wk_inj4 hf
    subst e0
    subst e1
    subst e2
    subst e3
    subst e4
    exact W.vret hx hb hr (fun t ht hW => ⟨⟨(), rfl, rfl, by rw [ht]; exact hP, va_K.moved hW.alike hK, hD⟩, hS.F ht⟩) hS.2.2 d_D_moveTo_70
  unfold f_D_moveTo at hf
  refine lv_aload_n hx hb d_D_moveTo_0 rfl (lv_at hl 0 rfl) ?_
  refine va_get (D := (dC, dI)) (ci := 0) (v := .ref (q 2)) (C := R_D) (T := F_D) (N := 14) hx hb hts (fun w h => List.mem_cons_of_mem _ (in_D w h)) hown hK hP 0 rfl rfl 2 (by decide) (hts _ (List.mem_cons_of_mem _ lk_456)) (fun _ h9 => h9) rfl d_D_moveTo_1 ?_
  refine lv_aload_n hx hb d_D_moveTo_4 rfl (lv_at hl 0 rfl) ?_
  refine va_get (D := (dC, dI)) (ci := 0) (v := .int (I 4)) (C := R_D) (T := F_D) (N := 14) hx hb hts (fun w h => List.mem_cons_of_mem _ (in_D w h)) hown hK hP 0 rfl rfl 4 (by decide) (hts _ (List.mem_cons_of_mem _ lk_436)) (fun _ h9 => h9) rfl d_D_moveTo_5 ?_
  obtain ⟨hc1, hf⟩ := wk_if hf
  obtain ⟨hc1n, hf⟩ := wk_if hf
  have hc1i := wk_inb_lt hc1n
  refine va_aldq hx hb hK hP 1 0 rfl rfl (wk_inb_ok hc1) d_D_moveTo_8 ?_
  refine wk_top (w := .ref (sa ((I 4)).toNatClampNeg)) (tw_rf hc1i) ?_
  refine lv_aload_n hx hb d_D_moveTo_9 rfl (lv_at hl 0 rfl) ?_
  refine va_get (D := (dC, dI)) (ci := 0) (v := .int (I 6)) (C := R_D) (T := F_D) (N := 14) hx hb hts (fun w h => List.mem_cons_of_mem _ (in_D w h)) hown hK hP 0 rfl rfl 6 (by decide) (hts _ (List.mem_cons_of_mem _ lk_438)) (fun _ h9 => h9) rfl d_D_moveTo_10 ?_
  refine va_put (D := (dC, dI)) (ci := 1) (v := .int (I 6)) (ty := .int) (C := R_S) (T := F_S) (N := 4) hx hb hts (fun w h => List.mem_cons_of_mem _ (in_S w h)) t_S tk_S n_S hown hK hP hD hS (2 + ((I 4)).toNatClampNeg) (va_poolAt rfl hc1i) rfl 2 (by decide) (hts _ (List.mem_cons_of_mem _ lk_461)) (fun _ h9 => h9) rfl (by decide +kernel) rfl rfl (Nat.le_of_ble_eq_true rfl) d_D_moveTo_13 (fun H locs hP hD hS => ?_)
  have hP : va_P (dC, dI) vwCl (tw_W h q g hj pt tg sa ta n SO tn tx I cx (upd SP ((I 4)).toNatClampNeg (I 6)) SL) H := by rw [← tw_setSP (v := (I 6)) hc1i]; exact hP
  have hD : va_D B9 (tw_W h q g hj pt tg sa ta n SO tn tx I cx (upd SP ((I 4)).toNatClampNeg (I 6)) SL) := by rw [← tw_setSP (v := (I 6)) hc1i]; exact hD
  obtain ⟨SP1, hSP1, hf⟩ := wk_letE hf
  have hP : va_P (dC, dI) vwCl (tw_W h q g hj pt tg sa ta n SO tn tx I cx SP1 SL) H := by rw [hSP1]; exact hP
  have hD : va_D B9 (tw_W h q g hj pt tg sa ta n SO tn tx I cx SP1 SL) := by rw [hSP1]; exact hD
  clear hSP1
  refine lv_aload_n hx hb d_D_moveTo_16 rfl (lv_at hl 0 rfl) ?_
  refine va_get (D := (dC, dI)) (ci := 0) (v := .ref (q 2)) (C := R_D) (T := F_D) (N := 14) hx hb hts (fun w h => List.mem_cons_of_mem _ (in_D w h)) hown hK hP 0 rfl rfl 2 (by decide) (hts _ (List.mem_cons_of_mem _ lk_456)) (fun _ h9 => h9) rfl d_D_moveTo_17 ?_
  refine lv_iload_n hx hb d_D_moveTo_20 rfl (lv_at hl 1 rfl) ?_
  obtain ⟨hc2, hf⟩ := wk_if hf
  obtain ⟨hc2n, hf⟩ := wk_if hf
  have hc2i := wk_inb_lt hc2n
  refine va_aldq hx hb hK hP 1 0 rfl rfl (wk_inb_ok hc2) d_D_moveTo_21 ?_
  refine wk_top (w := .ref (sa (k1).toNatClampNeg)) (tw_rf hc2i) ?_
  refine lv_astore_n (lv' := [(2, .ref (sa (k1).toNatClampNeg)), (0, .ref h), (1, .int k1)]) hx hb d_D_moveTo_22 rfl hl (by decide) rfl (fun ls hl => ?_)
  have hl : lv_has ls 3 [(2, .ref (sa (k1).toNatClampNeg)), (0, .ref h), (1, .int k1)] := hl
  refine lv_aload_n hx hb d_D_moveTo_23 rfl (lv_at hl 1 rfl) ?_
  refine lv_iload_n hx hb d_D_moveTo_24 rfl (lv_at hl 2 rfl) ?_
  refine va_put (D := (dC, dI)) (ci := 0) (v := .int k1) (ty := .int) (C := R_D) (T := F_D) (N := 14) hx hb hts (fun w h => List.mem_cons_of_mem _ (in_D w h)) t_D tk_D n_D hown hK hP hD hS 0 rfl rfl 4 (by decide) (hts _ (List.mem_cons_of_mem _ lk_436)) (fun _ h9 => h9) rfl (by decide +kernel) rfl rfl (Nat.le_of_ble_eq_true rfl) d_D_moveTo_25 (fun H locs hP hD hS => ?_)
  obtain ⟨I2, hI2, hf⟩ := wk_letE hf
  have hP : va_P (dC, dI) vwCl (tw_W h q g hj pt tg sa ta n SO tn tx I2 cx SP1 SL) H := by rw [hI2]; exact hP
  have hD : va_D B9 (tw_W h q g hj pt tg sa ta n SO tn tx I2 cx SP1 SL) := by rw [hI2]; exact hD
  clear hI2
  refine lv_aload_n hx hb d_D_moveTo_28 rfl (lv_at hl 1 rfl) ?_
  refine lv_aload_n hx hb d_D_moveTo_29 rfl (lv_at hl 0 rfl) ?_
  refine va_get (D := (dC, dI)) (ci := 1) (v := .ref (ta (k1).toNatClampNeg)) (C := R_S) (T := F_S) (N := 4) hx hb hts (fun w h => List.mem_cons_of_mem _ (in_S w h)) hown hK hP (2 + (k1).toNatClampNeg) (va_poolAt rfl hc2i) rfl 0 (by decide) (hts _ (List.mem_cons_of_mem _ lk_462)) (fun _ h9 => h9) rfl d_D_moveTo_30 ?_
  refine va_put (D := (dC, dI)) (ci := 0) (v := .ref (ta (k1).toNatClampNeg)) (ty := .array .char) (C := R_D) (T := F_D) (N := 14) hx hb hts (fun w h => List.mem_cons_of_mem _ (in_D w h)) t_D tk_D n_D hown hK hP hD hS 0 rfl rfl 5 (by decide) (hts _ (List.mem_cons_of_mem _ lk_242)) (fun _ h9 => h9) rfl (by decide +kernel) rfl rfl (Nat.le_of_ble_eq_true rfl) d_D_moveTo_33 (fun H locs hP hD hS => ?_)
  have hP : va_P (dC, dI) vwCl (tw_W h q g hj pt tg sa ta n SO tn tx I2 (k1).toNatClampNeg SP1 SL) H := hP
  have hD : va_D B9 (tw_W h q g hj pt tg sa ta n SO tn tx I2 (k1).toNatClampNeg SP1 SL) := hD
  refine lv_aload_n hx hb d_D_moveTo_36 rfl (lv_at hl 1 rfl) ?_
  refine lv_aload_n hx hb d_D_moveTo_37 rfl (lv_at hl 0 rfl) ?_
  refine va_get (D := (dC, dI)) (ci := 1) (v := .int (SP1 (k1).toNatClampNeg)) (C := R_S) (T := F_S) (N := 4) hx hb hts (fun w h => List.mem_cons_of_mem _ (in_S w h)) hown hK hP (2 + (k1).toNatClampNeg) (va_poolAt rfl hc2i) rfl 2 (by decide) (hts _ (List.mem_cons_of_mem _ lk_461)) (fun _ h9 => h9) rfl d_D_moveTo_38 ?_
  refine va_put (D := (dC, dI)) (ci := 0) (v := .int (SP1 (k1).toNatClampNeg)) (ty := .int) (C := R_D) (T := F_D) (N := 14) hx hb hts (fun w h => List.mem_cons_of_mem _ (in_D w h)) t_D tk_D n_D hown hK hP hD hS 0 rfl rfl 6 (by decide) (hts _ (List.mem_cons_of_mem _ lk_438)) (fun _ h9 => h9) rfl (by decide +kernel) rfl rfl (Nat.le_of_ble_eq_true rfl) d_D_moveTo_41 (fun H locs hP hD hS => ?_)
  obtain ⟨I3, hI3, hf⟩ := wk_letE hf
  have hP : va_P (dC, dI) vwCl (tw_W h q g hj pt tg sa ta n SO tn tx I3 (k1).toNatClampNeg SP1 SL) H := by rw [hI3]; exact hP
  have hD : va_D B9 (tw_W h q g hj pt tg sa ta n SO tn tx I3 (k1).toNatClampNeg SP1 SL) := by rw [hI3]; exact hD
  clear hI3
  refine lv_aload_n hx hb d_D_moveTo_44 rfl (lv_at hl 1 rfl) ?_
  refine lv_iconst (v := (-1)) hx hb d_D_moveTo_45 (by decide) ?_
  refine va_put (D := (dC, dI)) (ci := 0) (v := .int (-1)) (ty := .int) (C := R_D) (T := F_D) (N := 14) hx hb hts (fun w h => List.mem_cons_of_mem _ (in_D w h)) t_D tk_D n_D hown hK hP hD hS 0 rfl rfl 7 (by decide) (hts _ (List.mem_cons_of_mem _ lk_439)) (fun _ h9 => h9) rfl (by decide +kernel) rfl rfl (Nat.le_of_ble_eq_true rfl) d_D_moveTo_46 (fun H locs hP hD hS => ?_)
  obtain ⟨I4, hI4, hf⟩ := wk_letE hf
  have hP : va_P (dC, dI) vwCl (tw_W h q g hj pt tg sa ta n SO tn tx I4 (k1).toNatClampNeg SP1 SL) H := by rw [hI4]; exact hP
  have hD : va_D B9 (tw_W h q g hj pt tg sa ta n SO tn tx I4 (k1).toNatClampNeg SP1 SL) := by rw [hI4]; exact hD
  clear hI4
  refine lv_aload_n hx hb d_D_moveTo_49 rfl (lv_at hl 0 rfl) ?_
  refine va_get (D := (dC, dI)) (ci := 1) (v := .int (SO (k1).toNatClampNeg)) (C := R_S) (T := F_S) (N := 4) hx hb hts (fun w h => List.mem_cons_of_mem _ (in_S w h)) hown hK hP (2 + (k1).toNatClampNeg) (va_poolAt rfl hc2i) rfl 1 (by decide) (hts _ (List.mem_cons_of_mem _ lk_463)) (fun _ h9 => h9) rfl d_D_moveTo_50 ?_
  refine lv_iconst (v := (-1)) hx hb d_D_moveTo_53 (by decide) ?_
  refine lv_icmp_eq (tgt := 70) hx hb d_D_moveTo_54 (by decide) (fun hc3 => ?_) (fun hc3 => ?_)
  ·
    have hf := wk_ift hc3 hf
    exact blk70 I4 (k1).toNatClampNeg SP1 SL (upd (fun _ => 0) 1 k1) (fun _ => 0) _ _ _ hf (lv_sub hl [1, 2, 0] rfl) hP hD hS
  ·
    have hf := wk_iff hc3 hf
    refine lv_aload_n hx hb d_D_moveTo_57 rfl (lv_at hl 1 rfl) ?_
    refine va_get (D := (dC, dI)) (ci := 0) (v := .ref (q 2)) (C := R_D) (T := F_D) (N := 14) hx hb hts (fun w h => List.mem_cons_of_mem _ (in_D w h)) hown hK hP 0 rfl rfl 2 (by decide) (hts _ (List.mem_cons_of_mem _ lk_456)) (fun _ h9 => h9) rfl d_D_moveTo_58 ?_
    refine lv_aload_n hx hb d_D_moveTo_61 rfl (lv_at hl 0 rfl) ?_
    refine va_get (D := (dC, dI)) (ci := 1) (v := .int (SO (k1).toNatClampNeg)) (C := R_S) (T := F_S) (N := 4) hx hb hts (fun w h => List.mem_cons_of_mem _ (in_S w h)) hown hK hP (2 + (k1).toNatClampNeg) (va_poolAt rfl hc2i) rfl 1 (by decide) (hts _ (List.mem_cons_of_mem _ lk_463)) (fun _ h9 => h9) rfl d_D_moveTo_62 ?_
    obtain ⟨hc4, hf⟩ := wk_if hf
    obtain ⟨hc4n, hf⟩ := wk_if hf
    have hc4i := wk_inb_lt hc4n
    refine va_aldq hx hb hK hP 1 0 rfl rfl (wk_inb_ok hc4) d_D_moveTo_65 ?_
    refine wk_top (w := .ref (sa ((SO (k1).toNatClampNeg)).toNatClampNeg)) (tw_rf hc4i) ?_
    refine lv_iload_n hx hb d_D_moveTo_66 rfl (lv_at hl 2 rfl) ?_
    refine va_put (D := (dC, dI)) (ci := 1) (v := .int k1) (ty := .int) (C := R_S) (T := F_S) (N := 4) hx hb hts (fun w h => List.mem_cons_of_mem _ (in_S w h)) t_S tk_S n_S hown hK hP hD hS (2 + ((SO (k1).toNatClampNeg)).toNatClampNeg) (va_poolAt rfl hc4i) rfl 3 (by decide) (hts _ (List.mem_cons_of_mem _ lk_464)) (fun _ h9 => h9) rfl (by decide +kernel) rfl rfl (Nat.le_of_ble_eq_true rfl) d_D_moveTo_67 (fun H locs hP hD hS => ?_)
    have hP : va_P (dC, dI) vwCl (tw_W h q g hj pt tg sa ta n SO tn tx I4 (k1).toNatClampNeg SP1 (upd SL ((SO (k1).toNatClampNeg)).toNatClampNeg k1)) H := by rw [← tw_setSL (v := k1) hc4i]; exact hP
    have hD : va_D B9 (tw_W h q g hj pt tg sa ta n SO tn tx I4 (k1).toNatClampNeg SP1 (upd SL ((SO (k1).toNatClampNeg)).toNatClampNeg k1)) := by rw [← tw_setSL (v := k1) hc4i]; exact hD
    obtain ⟨SL5, hSL5, hf⟩ := wk_letE hf
    have hP : va_P (dC, dI) vwCl (tw_W h q g hj pt tg sa ta n SO tn tx I4 (k1).toNatClampNeg SP1 SL5) H := by rw [hSL5]; exact hP
    have hD : va_D B9 (tw_W h q g hj pt tg sa ta n SO tn tx I4 (k1).toNatClampNeg SP1 SL5) := by rw [hSL5]; exact hD
    clear hSL5
    exact blk70 I4 (k1).toNatClampNeg SP1 SL5 (upd (fun _ => 0) 1 k1) (fun _ => 0) _ _ _ hf (lv_sub hl [1, 2, 0] rfl) hP hD hS

set_option maxHeartbeats 8000000 in
set_option maxRecDepth 100000 in
theorem cm_D_jump (l : Launch) (dC : Nat → ClassId) (dI : Nat → Nat → Nat) (h : Nat) (q : Nat → Nat) (g : Nat → ClassId) (hj : Nat) (pt : Nat) (tg : ClassId) (sa : Nat → Nat) (ta : Nat → Nat) (n : Nat) (SO : Nat → Int32) (tn : Nat → Nat) (tx : Nat → Nat → Int32) (sz : Nat) (I : MI) (cx : Nat) (SP : MI) (SL : MI) (k1 : Int32) (r : Int32) (I' : MI) (cx' : Nat) (SP' : MI) (SL' : MI) (hf : f_D_jump n SO I cx SP SL  k1 = some (0, r, I', cx', SP', SL')) : Met l y_D_jump w_D_jump ({ frames := 1, cells := 0, slots := 0, locals := 22 }) (va_Pc [.ref h, .int k1] (fun U => U.heap.size = sz ∧ va_P (dC, dI) vwCl (tw_W h q g hj pt tg sa ta n SO tn tx I cx SP SL) U.heap ∧ va_K (dC, dI) vwCl (tw_T h q g hj pt tg sa ta n SO tn tx) U ∧ va_D (fun _ => True) (tw_W h q g hj pt tg sa ta n SO tn tx I cx SP SL))) (va_Qv (fun (u : Unit) => u = u) (fun (_ : Unit) t => va_P (dC, dI) vwCl (tw_W h q g hj pt tg sa ta n SO tn tx I' cx' SP' SL') t.heap ∧ va_K (dC, dI) vwCl (tw_T h q g hj pt tg sa ta n SO tn tx) t ∧ va_D (va_A (tw_W h q g hj pt tg sa ta n SO tn tx I cx SP SL) sz) (tw_W h q g hj pt tg sa ta n SO tn tx I' cx' SP' SL')) (va_A (tw_W h q g hj pt tg sa ta n SO tn tx I cx SP SL) sz)) 0 0 (va_A (tw_W h q g hj pt tg sa ta n SO tn tx I cx SP SL) sz) := by
  refine Met.ofW (cc := prog_1_method_13_code) (maxL := 2) (ret := none) (by decide) rfl ?_
  intro p e s m args below meth c s₁ B hml hv
  obtain ⟨rfl, hsz, hP, hK, hD0⟩ := hv
  have hx := B.exec
  have hb := B.bytes
  have hr := B.returns
  have hts := atoms_spec (ws := w_D_jump) B.pre
  have hown : s.vm.findClass "DraftTree" = some m.cls := findClass_of_methodNamed B.named
  have hlocks := B.notSynchronized
  subst hsz
  have hD := hD0.self (sz := s.heap.size)
  generalize hAe : va_A (tw_W h q g hj pt tg sa ta n SO tn tx I cx SP SL) s.heap.size = B9 at hD ⊢
  have hA : ∀ q : Nat, s.heap.size ≤ q → B9 q := fun q h => by rw [← hAe]; exact Or.inr h
  clear hAe
  have hS : va_S B9 s.heap s.heap [] := va_S.rf
  have hl := lv_entry ([.ref h, .int k1]) (n := 2) (Nat.le_of_ble_eq_true rfl)
  rw [lg_entry_eq]
  generalize (lg_sl ([.ref h, .int k1]) ++ List.replicate (2 - (lg_sl ([.ref h, .int k1])).length) Slot.unset).toArray = ls at hl ⊢
  have hl : lv_has ls 2 [(0, .ref h), (1, .int k1)] := hl
  unfold f_D_jump at hf
  refine lv_aload_n hx hb d_D_jump_0 rfl (lv_at hl 0 rfl) ?_
  refine lv_iload_n hx hb d_D_jump_1 rfl (lv_at hl 1 rfl) ?_
  have hFc := va_freeM (wc := (tw_W h q g hj pt tg sa ta n SO tn tx I cx SP SL)) hD hS hA (fun _ h9 => h9)
  cases hg1 : f_D_requireState n SO I cx SP SL k1 with
  | none => rw [hg1] at hf; cases hf
  | some z1 =>
    obtain ⟨tg1, r1, I1, cx1, SP1, SL1⟩ := z1
    rw [hg1] at hf
    dsimp only [Option.bind_some] at hf
    by_cases ht1 : tg1 = 0
    ·
      have hf := wk_ift ht1 hf
      rw [ht1] at hg1
      refine va_callv (va_runV (As := [.int k1]) (rest := []) ⟨hx, hb, hml, hown, hts⟩ (cm_D_requireState l dC dI h q g hj pt tg sa ta n SO tn tx _  I cx SP SL k1 r1 I1 cx1 SP1 SL1 hg1) (cwV 1 hts (gd_v lk_453 lk_454 lk_455 lk_445 lk_452) rfl rfl rfl (by decide +kernel) ⟨Nat.le_of_ble_eq_true rfl, Nat.le_of_ble_eq_true rfl⟩) ⟨fun a U g mk q => by obtain ⟨q0, q1, qP, qK, qD⟩ := q; exact ⟨q0, q1, qP, va_K.moved (u := U) (U := U.calling g mk a) (Vm.Alike.refl U.vm) qK, qD⟩, va_recv (ci := 0) (q0 := 0) hK hP rfl rfl, fun U hU hW => ⟨rfl, by rw [hU], by rw [hU]; exact hP, va_K.moved hW.alike hK, hD.weaken (fun _ _ _ _ => trivial)⟩⟩ rfl rfl hl.1 rfl (lv_room (Nat.le_of_ble_eq_true rfl)) d_D_jump_2 ⟨Nat.le_of_ble_eq_true rfl, Nat.le_of_ble_eq_true rfl⟩) hS (fun q _ h => hFc q h) hFc (fun u t H1 locs ht hvm hw hB hz1 hk1 hS => ?_)
      obtain ⟨hP1, hK1, hD1⟩ := hB
      rw [ht] at hP1
      have hP := hP1
      have hD := hD1.weaken (fun _ q _ h => hFc q.1 h)
      generalize H1 = H at hP hS ⊢
      refine lv_aload_n hx hb d_D_jump_5 rfl (lv_at hl 0 rfl) ?_
      refine lv_iload_n hx hb d_D_jump_6 rfl (lv_at hl 1 rfl) ?_
      have hFc := va_freeM (wc := (tw_W h q g hj pt tg sa ta n SO tn tx I1 cx1 SP1 SL1)) hD hS hA (fun _ h9 => h9)
      cases hg2 : f_D_moveTo n SO I1 cx1 SP1 SL1 k1 with
      | none => rw [hg2] at hf; cases hf
      | some z2 =>
        obtain ⟨r2, I2, cx2, SP2, SL2⟩ := z2
        rw [hg2] at hf
        dsimp only [Option.bind_some] at hf
        refine va_callv (va_runV (As := [.int k1]) (rest := []) ⟨hx, hb, hml, hown, hts⟩ (cm_D_moveTo l dC dI h q g hj pt tg sa ta n SO tn tx _  I1 cx1 SP1 SL1 k1 r2 I2 cx2 SP2 SL2 hg2) (cwV 1 hts (gd_v lk_466 lk_467 lk_468 lk_445 lk_465) rfl rfl rfl (by decide +kernel) ⟨Nat.le_of_ble_eq_true rfl, Nat.le_of_ble_eq_true rfl⟩) ⟨fun a U g mk q => by obtain ⟨q0, q1, qP, qK, qD⟩ := q; exact ⟨q0, q1, qP, va_K.moved (u := U) (U := U.calling g mk a) (Vm.Alike.refl U.vm) qK, qD⟩, va_recv (ci := 0) (q0 := 0) hK hP rfl rfl, fun U hU hW => ⟨rfl, by rw [hU], by rw [hU]; exact hP, va_K.moved hW.alike hK, hD.weaken (fun _ _ _ _ => trivial)⟩⟩ rfl rfl hl.1 rfl (lv_room (Nat.le_of_ble_eq_true rfl)) d_D_jump_7 ⟨Nat.le_of_ble_eq_true rfl, Nat.le_of_ble_eq_true rfl⟩) hS (fun q _ h => hFc q h) hFc (fun u t H1 locs ht hvm hw hB hz1 hk1 hS => ?_)
        obtain ⟨hP1, hK1, hD1⟩ := hB
        rw [ht] at hP1
        have hP := hP1
        have hD := hD1.weaken (fun _ q _ h => hFc q.1 h)
        generalize H1 = H at hP hS ⊢
        obtain ⟨e0, e1, e2, e3, e4, e5⟩ := wk_inj5 hf
        subst e1
        subst e2
        subst e3
        subst e4
        subst e5
        exact W.vret hx hb hr (fun t ht hW => ⟨⟨(), rfl, rfl, by rw [ht]; exact hP, va_K.moved hW.alike hK, hD⟩, hS.F ht⟩) hS.2.2 d_D_jump_10
    ·
      have hf := wk_iff ht1 hf
      by_cases hq1_3 : tg1 = 3
      ·
        have hf := wk_ift hq1_3 hf
        exact (wk_tag (by decide) hf).elim
      ·
        have hf := wk_iff hq1_3 hf
        cases hf
set_option maxHeartbeats 8000000 in
set_option maxRecDepth 100000 in
theorem ct_D_jump_3 (l : Launch) (hfl : l.flags = flags0) (dC : Nat → ClassId) (dI : Nat → Nat → Nat) (h : Nat) (q : Nat → Nat) (g : Nat → ClassId) (hj : Nat) (pt : Nat) (tg : ClassId) (sa : Nat → Nat) (ta : Nat → Nat) (n : Nat) (SO : Nat → Int32) (tn : Nat → Nat) (tx : Nat → Nat → Int32) (sz : Nat) (I : MI) (cx : Nat) (SP : MI) (SL : MI) (k1 : Int32) (r : Int32) (I' : MI) (cx' : Nat) (SP' : MI) (SL' : MI) (hf : f_D_jump n SO I cx SP SL  k1 = some (3, r, I', cx', SP', SL')) : th_Met l y_D_jump w_D_jump ({ frames := 7, cells := 1, slots := 6, locals := 102 }) (va_Pc [.ref h, .int k1] (fun U => U.heap.size = sz ∧ va_P (dC, dI) vwCl (tw_W h q g hj pt tg sa ta n SO tn tx I cx SP SL) U.heap ∧ va_K (dC, dI) vwCl (tw_T h q g hj pt tg sa ta n SO tn tx) U ∧ va_D (fun _ => True) (tw_W h q g hj pt tg sa ta n SO tn tx I cx SP SL) ∧ th_ZA (va_A (tw_W h q g hj pt tg sa ta n SO tn tx I cx SP SL) sz) U)) (th_Qw "java/lang/IllegalArgumentException" (fun t => va_P (dC, dI) vwCl (tw_W h q g hj pt tg sa ta n SO tn tx I' cx' SP' SL') t.heap ∧ va_K (dC, dI) vwCl (tw_T h q g hj pt tg sa ta n SO tn tx) t ∧ va_D (va_A (tw_W h q g hj pt tg sa ta n SO tn tx I cx SP SL) sz) (tw_W h q g hj pt tg sa ta n SO tn tx I' cx' SP' SL')) (va_A (tw_W h q g hj pt tg sa ta n SO tn tx I cx SP SL) sz)) 1 6 (va_A (tw_W h q g hj pt tg sa ta n SO tn tx I cx SP SL) sz) := by
  refine th_Met.ofW (cc := prog_1_method_13_code) (maxL := 2) (ret := none) (by decide) rfl ?_
  intro p e s m args below meth c s₁ B hml hnh hv
  obtain ⟨rfl, hsz, hP, hK, hD0, hZ⟩ := hv
  have hx := B.exec
  have hb := B.bytes
  have hr := B.returns
  have hts := atoms_spec (ws := w_D_jump) B.pre
  have hown : s.vm.findClass "DraftTree" = some m.cls := findClass_of_methodNamed B.named
  have hlocks := B.notSynchronized
  have htr := Launch.traces_off hfl B.admits
  subst hsz
  have hD := hD0.self (sz := s.heap.size)
  generalize hAe : va_A (tw_W h q g hj pt tg sa ta n SO tn tx I cx SP SL) s.heap.size = B9 at hD hZ ⊢
  have hA : ∀ q : Nat, s.heap.size ≤ q → B9 q := fun q h => by rw [← hAe]; exact Or.inr h
  clear hAe
  have hS : va_S B9 s.heap s.heap [] := va_S.rf
  have hl := lv_entry ([.ref h, .int k1]) (n := 2) (Nat.le_of_ble_eq_true rfl)
  rw [lg_entry_eq]
  generalize (lg_sl ([.ref h, .int k1]) ++ List.replicate (2 - (lg_sl ([.ref h, .int k1])).length) Slot.unset).toArray = ls at hl ⊢
  have hl : lv_has ls 2 [(0, .ref h), (1, .int k1)] := hl
  unfold f_D_jump at hf
  refine lv_aload_n hx hb d_D_jump_0 rfl (lv_at hl 0 rfl) ?_
  refine lv_iload_n hx hb d_D_jump_1 rfl (lv_at hl 1 rfl) ?_
  have hFc := va_freeM (wc := (tw_W h q g hj pt tg sa ta n SO tn tx I cx SP SL)) hD hS hA (fun _ h9 => h9)
  cases hg1 : f_D_requireState n SO I cx SP SL k1 with
  | none => rw [hg1] at hf; cases hf
  | some z1 =>
    obtain ⟨tg1, r1, I1, cx1, SP1, SL1⟩ := z1
    rw [hg1] at hf
    dsimp only [Option.bind_some] at hf
    by_cases ht1 : tg1 = 0
    ·
      have hf := wk_ift ht1 hf
      rw [ht1] at hg1
      refine va_callv (va_runV (As := [.int k1]) (rest := []) ⟨hx, hb, hml, hown, hts⟩ (cm_D_requireState l dC dI h q g hj pt tg sa ta n SO tn tx _  I cx SP SL k1 r1 I1 cx1 SP1 SL1 hg1) (cwV 1 hts (gd_v lk_453 lk_454 lk_455 lk_445 lk_452) rfl rfl rfl (by decide +kernel) ⟨Nat.le_of_ble_eq_true rfl, Nat.le_of_ble_eq_true rfl⟩) ⟨fun a U g mk q => by obtain ⟨q0, q1, qP, qK, qD⟩ := q; exact ⟨q0, q1, qP, va_K.moved (u := U) (U := U.calling g mk a) (Vm.Alike.refl U.vm) qK, qD⟩, va_recv (ci := 0) (q0 := 0) hK hP rfl rfl, fun U hU hW => ⟨rfl, by rw [hU], by rw [hU]; exact hP, va_K.moved hW.alike hK, hD.weaken (fun _ _ _ _ => trivial)⟩⟩ rfl rfl hl.1 rfl (lv_room (Nat.le_of_ble_eq_true rfl)) d_D_jump_2 ⟨Nat.le_of_ble_eq_true rfl, Nat.le_of_ble_eq_true rfl⟩) hS (fun q _ h => hFc q h) hFc (fun u t H1 locs ht hvm hw hB hz1 hk1 hS => ?_)
      obtain ⟨hP1, hK1, hD1⟩ := hB
      rw [ht] at hP1
      have hP := hP1
      have hD := hD1.weaken (fun _ q _ h => hFc q.1 h)
      generalize H1 = H at hP hS ⊢
      refine lv_aload_n hx hb d_D_jump_5 rfl (lv_at hl 0 rfl) ?_
      refine lv_iload_n hx hb d_D_jump_6 rfl (lv_at hl 1 rfl) ?_
      have hFc := va_freeM (wc := (tw_W h q g hj pt tg sa ta n SO tn tx I1 cx1 SP1 SL1)) hD hS hA (fun _ h9 => h9)
      cases hg2 : f_D_moveTo n SO I1 cx1 SP1 SL1 k1 with
      | none => rw [hg2] at hf; cases hf
      | some z2 =>
        obtain ⟨r2, I2, cx2, SP2, SL2⟩ := z2
        rw [hg2] at hf
        dsimp only [Option.bind_some] at hf
        refine va_callv (va_runV (As := [.int k1]) (rest := []) ⟨hx, hb, hml, hown, hts⟩ (cm_D_moveTo l dC dI h q g hj pt tg sa ta n SO tn tx _  I1 cx1 SP1 SL1 k1 r2 I2 cx2 SP2 SL2 hg2) (cwV 1 hts (gd_v lk_466 lk_467 lk_468 lk_445 lk_465) rfl rfl rfl (by decide +kernel) ⟨Nat.le_of_ble_eq_true rfl, Nat.le_of_ble_eq_true rfl⟩) ⟨fun a U g mk q => by obtain ⟨q0, q1, qP, qK, qD⟩ := q; exact ⟨q0, q1, qP, va_K.moved (u := U) (U := U.calling g mk a) (Vm.Alike.refl U.vm) qK, qD⟩, va_recv (ci := 0) (q0 := 0) hK hP rfl rfl, fun U hU hW => ⟨rfl, by rw [hU], by rw [hU]; exact hP, va_K.moved hW.alike hK, hD.weaken (fun _ _ _ _ => trivial)⟩⟩ rfl rfl hl.1 rfl (lv_room (Nat.le_of_ble_eq_true rfl)) d_D_jump_7 ⟨Nat.le_of_ble_eq_true rfl, Nat.le_of_ble_eq_true rfl⟩) hS (fun q _ h => hFc q h) hFc (fun u t H1 locs ht hvm hw hB hz1 hk1 hS => ?_)
        obtain ⟨hP1, hK1, hD1⟩ := hB
        rw [ht] at hP1
        have hP := hP1
        have hD := hD1.weaken (fun _ q _ h => hFc q.1 h)
        generalize H1 = H at hP hS ⊢
        exact (wk_tag (by decide) hf).elim
    ·
      have hf := wk_iff ht1 hf
      by_cases hq1_3 : tg1 = 3
      ·
        have hf := wk_ift hq1_3 hf
        rw [hq1_3] at hg1
        obtain ⟨e0, e1, e2, e3, e4, e5⟩ := wk_inj5 hf
        subst e1
        subst e2
        subst e3
        subst e4
        subst e5
        refine th_passG (A1 := va_A (tw_W h q g hj pt tg sa ta n SO tn tx I cx SP SL) _) (th_runV (As := [.int k1]) (rest := []) ⟨hx, hb, hml, hown, hts⟩ (ct_D_requireState_3 l hfl dC dI h q g hj pt tg sa ta n SO tn tx _  I cx SP SL k1 r1 I1 cx1 SP1 SL1 hg1) (cwV 1 hts (gd_v lk_453 lk_454 lk_455 lk_445 lk_452) rfl rfl rfl (by decide +kernel) ⟨Nat.le_of_ble_eq_true rfl, Nat.le_of_ble_eq_true rfl⟩) ⟨fun a U g mk q => by obtain ⟨q0, q1, qP, qK, qD, qZ⟩ := q; exact ⟨q0, q1, qP, va_K.moved (u := U) (U := U.calling g mk a) (Vm.Alike.refl U.vm) qK, qD, th_ZA.calling qZ⟩, va_recv (ci := 0) (q0 := 0) hK hP rfl rfl, fun U hU hW => ⟨rfl, by rw [hU], by rw [hU]; exact hP, va_K.moved hW.alike hK, hD.weaken (fun _ _ _ _ => trivial), th_ZA.to hZ hS hU hW hFc⟩⟩ rfl rfl hl.1 rfl (lv_room (Nat.le_of_ble_eq_true rfl)) d_D_jump_2 ⟨Nat.le_of_ble_eq_true rfl, Nat.le_of_ble_eq_true rfl⟩) hnh hlocks hS hFc (Nat.le_of_ble_eq_true rfl) (Nat.le_of_ble_eq_true rfl) (fun t hal hb1 hz1 hk1 u hu hau => ?_)
        obtain ⟨hP1, hK1, hD1⟩ := hb1
        exact ⟨by rw [hu]; exact hP1, va_K.moved hau hK, hD1.weaken (fun _ q _ h => hFc q.1 h)⟩
      ·
        have hf := wk_iff hq1_3 hf
        cases hf

-- 18.ccon10
set_option maxHeartbeats 8000000 in
set_option maxRecDepth 100000 in
theorem cm_D_length (l : Launch) (dC : Nat → ClassId) (dI : Nat → Nat → Nat) (h : Nat) (q : Nat → Nat) (g : Nat → ClassId) (hp : Nat) (qp : Nat → Nat) (gp : Nat → ClassId) (tq : Nat) (tg : ClassId) (tn : Nat) (tx : Nat → Int32) (sz : Nat) (I : MI) (A : MA) (M : MI) (MB : MA) (L : ML) (r : Int32) (I' : MI) (A' : MA) (M' : MI) (MB' : MA) (L' : ML) (hf : f_D_length tn tx I A M MB L  = some (r, I', A', M', MB', L')) : Met l y_D_length w_D_length ({ frames := 0, cells := 0, slots := 0, locals := 0 }) (va_Pc [.ref h] (fun U => U.heap.size = sz ∧ va_P (dC, dI) vwCl (dw_W h q g hp qp gp tq tg tn tx I A M MB L) U.heap ∧ va_K (dC, dI) vwCl (dw_T h q g hp qp gp tq tg tn tx) U ∧ va_D (fun _ => True) (dw_W h q g hp qp gp tq tg tn tx I A M MB L))) (va_Qi (fun (r9 : Int32) (_ : Unit) => r9 = r) (fun (_ : Unit) t => va_P (dC, dI) vwCl (dw_W h q g hp qp gp tq tg tn tx I' A' M' MB' L') t.heap ∧ va_K (dC, dI) vwCl (dw_T h q g hp qp gp tq tg tn tx) t ∧ va_D (va_A (dw_W h q g hp qp gp tq tg tn tx I A M MB L) sz) (dw_W h q g hp qp gp tq tg tn tx I' A' M' MB' L')) (va_A (dw_W h q g hp qp gp tq tg tn tx I A M MB L) sz)) 0 0 (va_A (dw_W h q g hp qp gp tq tg tn tx I A M MB L) sz) := by
  refine Met.ofW (cc := prog_1_method_14_code) (maxL := 1) (ret := (some .int)) (by decide) rfl ?_
  intro p e s m args below meth c s₁ B hml hv
  obtain ⟨rfl, hsz, hP, hK, hD0⟩ := hv
  have hx := B.exec
  have hb := B.bytes
  have hr := B.returns
  have hts := atoms_spec (ws := w_D_length) B.pre
  have hown : s.vm.findClass "DraftTree" = some m.cls := findClass_of_methodNamed B.named
  have hlocks := B.notSynchronized
  subst hsz
  have hD := hD0.self (sz := s.heap.size)
  generalize hAe : va_A (dw_W h q g hp qp gp tq tg tn tx I A M MB L) s.heap.size = B9 at hD ⊢
  have hA : ∀ q : Nat, s.heap.size ≤ q → B9 q := fun q h => by rw [← hAe]; exact Or.inr h
  clear hAe
  have hS : va_S B9 s.heap s.heap [] := va_S.rf
  have hl := lv_entry ([.ref h]) (n := 1) (Nat.le_of_ble_eq_true rfl)
  rw [lg_entry_eq]
  generalize (lg_sl ([.ref h]) ++ List.replicate (1 - (lg_sl ([.ref h])).length) Slot.unset).toArray = ls at hl ⊢
  have hl : lv_has ls 1 [(0, .ref h)] := hl
  unfold f_D_length at hf
  refine lv_aload_n hx hb d_D_length_0 rfl (lv_at hl 0 rfl) ?_
  refine va_get (D := (dC, dI)) (ci := 0) (v := .ref tq) (C := R_D) (T := F_D) (N := 14) hx hb hts (fun w h => List.mem_cons_of_mem _ (in_D w h)) hown hK hP 0 rfl rfl 5 (by decide) (hts _ (List.mem_cons_of_mem _ lk_242)) (fun _ h9 => h9) rfl d_D_length_1 ?_
  refine va_alen (v := (Int32.ofNat tn)) hx hb hK hP 10 8 rfl rfl rfl d_D_length_4 ?_
  obtain ⟨e0, e1, e2, e3, e4, e5⟩ := wk_inj5 hf
  subst e0
  subst e1
  subst e2
  subst e3
  subst e4
  subst e5
  exact W.iret (v := (Int32.ofNat tn)) hx hb hr (fun t ht hW => ⟨⟨(Int32.ofNat tn), (), rfl, rfl, by rw [ht]; exact hP, va_K.moved hW.alike hK, hD⟩, hS.F ht⟩) hS.2.2 d_D_length_5

set_option maxHeartbeats 8000000 in
set_option maxRecDepth 100000 in
theorem cm_D_lineBegin (l : Launch) (dC : Nat → ClassId) (dI : Nat → Nat → Nat) (h : Nat) (q : Nat → Nat) (g : Nat → ClassId) (hp : Nat) (qp : Nat → Nat) (gp : Nat → ClassId) (tq : Nat) (tg : ClassId) (tn : Nat) (tx : Nat → Int32) (sz : Nat) (I : MI) (A : MA) (M : MI) (MB : MA) (L : ML) (k1 : Int32) (r : Int32) (I' : MI) (A' : MA) (M' : MI) (MB' : MA) (L' : ML) (hf : f_D_lineBegin tn tx I A M MB L  k1 = some (0, r, I', A', M', MB', L')) : Met l y_D_lineBegin w_D_lineBegin ({ frames := 0, cells := 0, slots := 0, locals := 0 }) (va_Pc [.ref h, .int k1] (fun U => U.heap.size = sz ∧ va_P (dC, dI) vwCl (dw_W h q g hp qp gp tq tg tn tx I A M MB L) U.heap ∧ va_K (dC, dI) vwCl (dw_T h q g hp qp gp tq tg tn tx) U ∧ va_D (fun _ => True) (dw_W h q g hp qp gp tq tg tn tx I A M MB L))) (va_Qi (fun (r9 : Int32) (_ : Unit) => r9 = r) (fun (_ : Unit) t => va_P (dC, dI) vwCl (dw_W h q g hp qp gp tq tg tn tx I' A' M' MB' L') t.heap ∧ va_K (dC, dI) vwCl (dw_T h q g hp qp gp tq tg tn tx) t ∧ va_D (va_A (dw_W h q g hp qp gp tq tg tn tx I A M MB L) sz) (dw_W h q g hp qp gp tq tg tn tx I' A' M' MB' L')) (va_A (dw_W h q g hp qp gp tq tg tn tx I A M MB L) sz)) 0 0 (va_A (dw_W h q g hp qp gp tq tg tn tx I A M MB L) sz) := by
  refine Met.ofW (cc := prog_1_method_30_code) (maxL := 4) (ret := (some .int)) (by decide) rfl ?_
  intro p e s m args below meth c s₁ B hml hv
  obtain ⟨rfl, hsz, hP, hK, hD0⟩ := hv
  have hx := B.exec
  have hb := B.bytes
  have hr := B.returns
  have hts := atoms_spec (ws := w_D_lineBegin) B.pre
  have hown : s.vm.findClass "DraftTree" = some m.cls := findClass_of_methodNamed B.named
  have hlocks := B.notSynchronized
  subst hsz
  have hD := hD0.self (sz := s.heap.size)
  generalize hAe : va_A (dw_W h q g hp qp gp tq tg tn tx I A M MB L) s.heap.size = B9 at hD ⊢
  have hA : ∀ q : Nat, s.heap.size ≤ q → B9 q := fun q h => by rw [← hAe]; exact Or.inr h
  clear hAe
  have hS : va_S B9 s.heap s.heap [] := va_S.rf
  have hl := lv_entry ([.ref h, .int k1]) (n := 4) (Nat.le_of_ble_eq_true rfl)
  rw [lg_entry_eq]
  generalize (lg_sl ([.ref h, .int k1]) ++ List.replicate (4 - (lg_sl ([.ref h, .int k1])).length) Slot.unset).toArray = ls at hl ⊢
  have hl : lv_has ls 4 [(0, .ref h), (1, .int k1)] := hl
  have blk42 : ∀ (rc : Nat → MI → MA → MI → MA → ML → (Nat → Int32) → (Nat → Int64) → Option (Nat × Int32 × MI × MA × MI × MA × ML)) (hrc10 : ∀ (I : MI) (A : MA) (M : MI) (MB : MA) (L : ML) (X : Nat → Int32) (Y : Nat → Int64) (ls : Array Slot) (H : Heap) (locs : List Loc), rc 10 I A M MB L X Y = some (0, r, I', A', M', MB', L') → lv_has ls 4 [(0, .ref h), (1, .int (X 1)), (2, .int (X 2)), (3, .int (X 3))] → va_P (dC, dI) vwCl (dw_W h q g hp qp gp tq tg tn tx I A M MB L) H → va_D B9 (dw_W h q g hp qp gp tq tg tn tx I A M MB L) → va_S B9 s.heap H locs → W p l e (headSpec w_D_lineBegin ({ frames := 0, cells := 0, slots := 0, locals := 0 })).room s m ([.ref h, .int k1] : List Value).toArray below meth c H locs 0 0 (MQ below (va_Qi (fun (r9 : Int32) (_ : Unit) => r9 = r) (fun (_ : Unit) t => va_P (dC, dI) vwCl (dw_W h q g hp qp gp tq tg tn tx I' A' M' MB' L') t.heap ∧ va_K (dC, dI) vwCl (dw_T h q g hp qp gp tq tg tn tx) t ∧ va_D B9 (dw_W h q g hp qp gp tq tg tn tx I' A' M' MB' L')) B9) ([.ref h, .int k1] : List Value).toArray s 0 0 B9) (F0 m 10 ls [])), ∀ (I : MI) (A : MA) (M : MI) (MB : MA) (L : ML) (X : Nat → Int32) (Y : Nat → Int64) (ls : Array Slot) (H : Heap) (locs : List Loc), f_D_lineBegin_42 tn tx rc I A M MB L X Y = some (0, r, I', A', M', MB', L') → lv_has ls 4 [(0, .ref h), (1, .int (X 1)), (2, .int (X 2)), (3, .int (X 3))] → va_P (dC, dI) vwCl (dw_W h q g hp qp gp tq tg tn tx I A M MB L) H → va_D B9 (dw_W h q g hp qp gp tq tg tn tx I A M MB L) → va_S B9 s.heap H locs → W p l e (headSpec w_D_lineBegin ({ frames := 0, cells := 0, slots := 0, locals := 0 })).room s m ([.ref h, .int k1] : List Value).toArray below meth c H locs 0 0 (MQ below (va_Qi (fun (r9 : Int32) (_ : Unit) => r9 = r) (fun (_ : Unit) t => va_P (dC, dI) vwCl (dw_W h q g hp qp gp tq tg tn tx I' A' M' MB' L') t.heap ∧ va_K (dC, dI) vwCl (dw_T h q g hp qp gp tq tg tn tx) t ∧ va_D B9 (dw_W h q g hp qp gp tq tg tn tx I' A' M' MB' L')) B9) ([.ref h, .int k1] : List Value).toArray s 0 0 B9) (F0 m 42 ls []) := by
    intro rc hrc10 I A M MB L X Y ls H locs hf hl hP hD hS
    unfold f_D_lineBegin_42 at hf
    refine lv_iinc (k := 3) (v := ((X 3) + 1)) (lv' := [(3, .int ((X 3) + 1)), (0, .ref h), (1, .int (X 1)), (2, .int (X 2))]) hx hb d_D_lineBegin_42 hl rfl (wk_inc (by decide)) (by decide) rfl (fun ls hl => ?_)
    have hl : lv_has ls 4 [(3, .int ((X 3) + 1)), (0, .ref h), (1, .int (X 1)), (2, .int (X 2))] := hl
    refine lv_goto (tgt := 10) hx hb d_D_lineBegin_45 (by decide) ?_
    exact hrc10 I A M MB L (upd X 3 ((X 3) + 1)) Y _ _ _ hf (lv_sub hl [1, 2, 3, 0] rfl) hP hD hS
  have stp10 : ∀ (rc : Nat → MI → MA → MI → MA → ML → (Nat → Int32) → (Nat → Int64) → Option (Nat × Int32 × MI × MA × MI × MA × ML)) (hrc10 : ∀ (I : MI) (A : MA) (M : MI) (MB : MA) (L : ML) (X : Nat → Int32) (Y : Nat → Int64) (ls : Array Slot) (H : Heap) (locs : List Loc), rc 10 I A M MB L X Y = some (0, r, I', A', M', MB', L') → lv_has ls 4 [(0, .ref h), (1, .int (X 1)), (2, .int (X 2)), (3, .int (X 3))] → va_P (dC, dI) vwCl (dw_W h q g hp qp gp tq tg tn tx I A M MB L) H → va_D B9 (dw_W h q g hp qp gp tq tg tn tx I A M MB L) → va_S B9 s.heap H locs → W p l e (headSpec w_D_lineBegin ({ frames := 0, cells := 0, slots := 0, locals := 0 })).room s m ([.ref h, .int k1] : List Value).toArray below meth c H locs 0 0 (MQ below (va_Qi (fun (r9 : Int32) (_ : Unit) => r9 = r) (fun (_ : Unit) t => va_P (dC, dI) vwCl (dw_W h q g hp qp gp tq tg tn tx I' A' M' MB' L') t.heap ∧ va_K (dC, dI) vwCl (dw_T h q g hp qp gp tq tg tn tx) t ∧ va_D B9 (dw_W h q g hp qp gp tq tg tn tx I' A' M' MB' L')) B9) ([.ref h, .int k1] : List Value).toArray s 0 0 B9) (F0 m 10 ls [])), ∀ (I : MI) (A : MA) (M : MI) (MB : MA) (L : ML) (X : Nat → Int32) (Y : Nat → Int64) (ls : Array Slot) (H : Heap) (locs : List Loc), f_D_lineBegin_10 tn tx rc I A M MB L X Y = some (0, r, I', A', M', MB', L') → lv_has ls 4 [(0, .ref h), (1, .int (X 1)), (2, .int (X 2)), (3, .int (X 3))] → va_P (dC, dI) vwCl (dw_W h q g hp qp gp tq tg tn tx I A M MB L) H → va_D B9 (dw_W h q g hp qp gp tq tg tn tx I A M MB L) → va_S B9 s.heap H locs → W p l e (headSpec w_D_lineBegin ({ frames := 0, cells := 0, slots := 0, locals := 0 })).room s m ([.ref h, .int k1] : List Value).toArray below meth c H locs 0 0 (MQ below (va_Qi (fun (r9 : Int32) (_ : Unit) => r9 = r) (fun (_ : Unit) t => va_P (dC, dI) vwCl (dw_W h q g hp qp gp tq tg tn tx I' A' M' MB' L') t.heap ∧ va_K (dC, dI) vwCl (dw_T h q g hp qp gp tq tg tn tx) t ∧ va_D B9 (dw_W h q g hp qp gp tq tg tn tx I' A' M' MB' L')) B9) ([.ref h, .int k1] : List Value).toArray s 0 0 B9) (F0 m 10 ls []) := by
    intro rc hrc10 I A M MB L X Y ls H locs hf hl hP hD hS
    unfold f_D_lineBegin_10 at hf
    refine lv_iload_n hx hb d_D_lineBegin_10 rfl (lv_at hl 3 rfl) ?_
    refine lv_aload_n hx hb d_D_lineBegin_11 rfl (lv_at hl 0 rfl) ?_
    refine va_get (D := (dC, dI)) (ci := 0) (v := .ref tq) (C := R_D) (T := F_D) (N := 14) hx hb hts (fun w h => List.mem_cons_of_mem _ (in_D w h)) hown hK hP 0 rfl rfl 5 (by decide) (hts _ (List.mem_cons_of_mem _ lk_242)) (fun _ h9 => h9) rfl d_D_lineBegin_12 ?_
    refine va_alen (v := (Int32.ofNat tn)) hx hb hK hP 10 8 rfl rfl rfl d_D_lineBegin_15 ?_
    refine lv_icmp_ge (tgt := 48) hx hb d_D_lineBegin_16 (by decide) (fun hc1 => ?_) (fun hc1 => ?_)
    ·
      have hf := wk_ift hc1 hf
      exact (wk_tag (by decide) hf).elim
    ·
      have hf := wk_iff hc1 hf
      refine lv_aload_n hx hb d_D_lineBegin_19 rfl (lv_at hl 0 rfl) ?_
      refine va_get (D := (dC, dI)) (ci := 0) (v := .ref tq) (C := R_D) (T := F_D) (N := 14) hx hb hts (fun w h => List.mem_cons_of_mem _ (in_D w h)) hown hK hP 0 rfl rfl 5 (by decide) (hts _ (List.mem_cons_of_mem _ lk_242)) (fun _ h9 => h9) rfl d_D_lineBegin_20 ?_
      refine lv_iload_n hx hb d_D_lineBegin_23 rfl (lv_at hl 3 rfl) ?_
      obtain ⟨hc2, hf⟩ := wk_if hf
      refine va_cald hx hb hK hP 10 8 rfl rfl (wk_inb_ok hc2) d_D_lineBegin_24 ?_
      refine lv_bipush (v := 10) hx hb d_D_lineBegin_25 (by decide) ?_
      refine lv_icmp_ne (tgt := 42) hx hb d_D_lineBegin_27 (by decide) (fun hc3 => ?_) (fun hc3 => ?_)
      ·
        have hf := wk_iff hc3 hf
        exact blk42 rc hrc10 I A M MB L X Y _ _ _ hf (lv_sub hl [0, 1, 2, 3] rfl) hP hD hS
      ·
        have hf := wk_ift hc3 hf
        refine lv_iinc (k := 2) (v := ((X 2) + 1)) (lv' := [(2, .int ((X 2) + 1)), (0, .ref h), (1, .int (X 1)), (3, .int (X 3))]) hx hb d_D_lineBegin_30 hl rfl (wk_inc (by decide)) (by decide) rfl (fun ls hl => ?_)
        have hl : lv_has ls 4 [(2, .int ((X 2) + 1)), (0, .ref h), (1, .int (X 1)), (3, .int (X 3))] := hl
        refine lv_iload_n hx hb d_D_lineBegin_33 rfl (lv_at hl 0 rfl) ?_
        refine lv_iload_n hx hb d_D_lineBegin_34 rfl (lv_at hl 2 rfl) ?_
        refine lv_icmp_ne (tgt := 42) hx hb d_D_lineBegin_35 (by decide) (fun hc4 => ?_) (fun hc4 => ?_)
        ·
          have hf := wk_iff hc4 hf
          exact blk42 rc hrc10 I A M MB L (upd X 2 ((X 2) + 1)) Y _ _ _ hf (lv_sub hl [1, 2, 0, 3] rfl) hP hD hS
        ·
          have hf := wk_ift hc4 hf
          refine lv_iload_n hx hb d_D_lineBegin_38 rfl (lv_at hl 3 rfl) ?_
          refine lv_iconst (v := 1) hx hb d_D_lineBegin_39 (by decide) ?_
          refine lv_iadd hx hb d_D_lineBegin_40 ?_
          obtain ⟨e0, e1, e2, e3, e4, e5, e6⟩ := wk_inj6 hf
          subst e1
          subst e2
          subst e3
          subst e4
          subst e5
          subst e6
          exact W.iret (v := ((X 3) + 1)) hx hb hr (fun t ht hW => ⟨⟨((X 3) + 1), (), rfl, rfl, by rw [ht]; exact hP, va_K.moved hW.alike hK, hD⟩, hS.F ht⟩) hS.2.2 d_D_lineBegin_41
  have key : ∀ n : Nat, (∀ (I : MI) (A : MA) (M : MI) (MB : MA) (L : ML) (X : Nat → Int32) (Y : Nat → Int64) (ls : Array Slot) (H : Heap) (locs : List Loc), f_D_lineBegin_go tn tx n 10 I A M MB L X Y = some (0, r, I', A', M', MB', L') → lv_has ls 4 [(0, .ref h), (1, .int (X 1)), (2, .int (X 2)), (3, .int (X 3))] → va_P (dC, dI) vwCl (dw_W h q g hp qp gp tq tg tn tx I A M MB L) H → va_D B9 (dw_W h q g hp qp gp tq tg tn tx I A M MB L) → va_S B9 s.heap H locs → W p l e (headSpec w_D_lineBegin ({ frames := 0, cells := 0, slots := 0, locals := 0 })).room s m ([.ref h, .int k1] : List Value).toArray below meth c H locs 0 0 (MQ below (va_Qi (fun (r9 : Int32) (_ : Unit) => r9 = r) (fun (_ : Unit) t => va_P (dC, dI) vwCl (dw_W h q g hp qp gp tq tg tn tx I' A' M' MB' L') t.heap ∧ va_K (dC, dI) vwCl (dw_T h q g hp qp gp tq tg tn tx) t ∧ va_D B9 (dw_W h q g hp qp gp tq tg tn tx I' A' M' MB' L')) B9) ([.ref h, .int k1] : List Value).toArray s 0 0 B9) (F0 m 10 ls [])) := by
    intro n
    induction n with
    | zero => exact fun I A M MB L X Y ls H locs hf => (by cases hf)
    | succ n ih =>
      have ih10 := ih
      exact stp10 (f_D_lineBegin_go tn tx n) ih10
  unfold f_D_lineBegin f_D_lineBegin_e at hf
  have hrc10 := key wk_FUEL
  refine lv_iload_n hx hb d_D_lineBegin_0 rfl (lv_at hl 1 rfl) ?_
  refine lv_if_ne (tgt := 6) hx hb d_D_lineBegin_1 (by decide) (fun hc1 => ?_) (fun hc1 => ?_)
  ·
    have hf := wk_iff hc1 hf
    refine lv_iconst (v := 0) hx hb d_D_lineBegin_6 (by decide) ?_
    refine lv_istore_n (lv' := [(2, .int 0), (0, .ref h), (1, .int k1)]) hx hb d_D_lineBegin_7 rfl hl (by decide) rfl (fun ls hl => ?_)
    have hl : lv_has ls 4 [(2, .int 0), (0, .ref h), (1, .int k1)] := hl
    refine lv_iconst (v := 0) hx hb d_D_lineBegin_8 (by decide) ?_
    refine lv_istore_n (lv' := [(3, .int 0), (2, .int 0), (0, .ref h), (1, .int k1)]) hx hb d_D_lineBegin_9 rfl hl (by decide) rfl (fun ls hl => ?_)
    have hl : lv_has ls 4 [(3, .int 0), (2, .int 0), (0, .ref h), (1, .int k1)] := hl
    exact hrc10 I A M MB L (upd (upd (upd (fun _ => 0) 1 k1) 2 0) 3 0) (fun _ => 0) _ _ _ hf (lv_sub hl [2, 3, 1, 0] rfl) hP hD hS
  ·
    have hf := wk_ift hc1 hf
    refine lv_iconst (v := 0) hx hb d_D_lineBegin_4 (by decide) ?_
    obtain ⟨e0, e1, e2, e3, e4, e5, e6⟩ := wk_inj6 hf
    subst e1
    subst e2
    subst e3
    subst e4
    subst e5
    subst e6
    exact W.iret (v := 0) hx hb hr (fun t ht hW => ⟨⟨0, (), rfl, rfl, by rw [ht]; exact hP, va_K.moved hW.alike hK, hD⟩, hS.F ht⟩) hS.2.2 d_D_lineBegin_5
set_option maxHeartbeats 8000000 in
set_option maxRecDepth 100000 in
theorem ct_D_lineBegin_2 (l : Launch) (hfl : l.flags = flags0) (dC : Nat → ClassId) (dI : Nat → Nat → Nat) (h : Nat) (q : Nat → Nat) (g : Nat → ClassId) (hp : Nat) (qp : Nat → Nat) (gp : Nat → ClassId) (tq : Nat) (tg : ClassId) (tn : Nat) (tx : Nat → Int32) (sz : Nat) (I : MI) (A : MA) (M : MI) (MB : MA) (L : ML) (k1 : Int32) (r : Int32) (I' : MI) (A' : MA) (M' : MI) (MB' : MA) (L' : ML) (hf : f_D_lineBegin tn tx I A M MB L  k1 = some (2, r, I', A', M', MB', L')) : th_Met l y_D_lineBegin w_D_lineBegin ({ frames := 6, cells := 1, slots := 6, locals := 81 }) (va_Pc [.ref h, .int k1] (fun U => U.heap.size = sz ∧ va_P (dC, dI) vwCl (dw_W h q g hp qp gp tq tg tn tx I A M MB L) U.heap ∧ va_K (dC, dI) vwCl (dw_T h q g hp qp gp tq tg tn tx) U ∧ va_D (fun _ => True) (dw_W h q g hp qp gp tq tg tn tx I A M MB L) ∧ th_ZA (va_A (dw_W h q g hp qp gp tq tg tn tx I A M MB L) sz) U)) (th_Qw "java/lang/IndexOutOfBoundsException" (fun t => va_P (dC, dI) vwCl (dw_W h q g hp qp gp tq tg tn tx I' A' M' MB' L') t.heap ∧ va_K (dC, dI) vwCl (dw_T h q g hp qp gp tq tg tn tx) t ∧ va_D (va_A (dw_W h q g hp qp gp tq tg tn tx I A M MB L) sz) (dw_W h q g hp qp gp tq tg tn tx I' A' M' MB' L')) (va_A (dw_W h q g hp qp gp tq tg tn tx I A M MB L) sz)) 1 6 (va_A (dw_W h q g hp qp gp tq tg tn tx I A M MB L) sz) := by
  refine th_Met.ofW (cc := prog_1_method_30_code) (maxL := 4) (ret := (some .int)) (by decide) rfl ?_
  intro p e s m args below meth c s₁ B hml hnh hv
  obtain ⟨rfl, hsz, hP, hK, hD0, hZ⟩ := hv
  have hx := B.exec
  have hb := B.bytes
  have hr := B.returns
  have hts := atoms_spec (ws := w_D_lineBegin) B.pre
  have hown : s.vm.findClass "DraftTree" = some m.cls := findClass_of_methodNamed B.named
  have hlocks := B.notSynchronized
  have htr := Launch.traces_off hfl B.admits
  subst hsz
  have hD := hD0.self (sz := s.heap.size)
  generalize hAe : va_A (dw_W h q g hp qp gp tq tg tn tx I A M MB L) s.heap.size = B9 at hD hZ ⊢
  have hA : ∀ q : Nat, s.heap.size ≤ q → B9 q := fun q h => by rw [← hAe]; exact Or.inr h
  clear hAe
  have hS : va_S B9 s.heap s.heap [] := va_S.rf
  have hl := lv_entry ([.ref h, .int k1]) (n := 4) (Nat.le_of_ble_eq_true rfl)
  rw [lg_entry_eq]
  generalize (lg_sl ([.ref h, .int k1]) ++ List.replicate (4 - (lg_sl ([.ref h, .int k1])).length) Slot.unset).toArray = ls at hl ⊢
  have hl : lv_has ls 4 [(0, .ref h), (1, .int k1)] := hl
  have blk42 : ∀ (rc : Nat → MI → MA → MI → MA → ML → (Nat → Int32) → (Nat → Int64) → Option (Nat × Int32 × MI × MA × MI × MA × ML)) (hrc10 : ∀ (I : MI) (A : MA) (M : MI) (MB : MA) (L : ML) (X : Nat → Int32) (Y : Nat → Int64) (ls : Array Slot) (H : Heap) (locs : List Loc), rc 10 I A M MB L X Y = some (2, r, I', A', M', MB', L') → lv_has ls 4 [(0, .ref h), (1, .int (X 1)), (2, .int (X 2)), (3, .int (X 3))] → va_P (dC, dI) vwCl (dw_W h q g hp qp gp tq tg tn tx I A M MB L) H → va_D B9 (dw_W h q g hp qp gp tq tg tn tx I A M MB L) → va_S B9 s.heap H locs → W p l e (headSpec w_D_lineBegin ({ frames := 6, cells := 1, slots := 6, locals := 81 })).room s m ([.ref h, .int k1] : List Value).toArray below meth c H locs 0 0 (th_Q below (th_Qw "java/lang/IndexOutOfBoundsException" (fun t => va_P (dC, dI) vwCl (dw_W h q g hp qp gp tq tg tn tx I' A' M' MB' L') t.heap ∧ va_K (dC, dI) vwCl (dw_T h q g hp qp gp tq tg tn tx) t ∧ va_D B9 (dw_W h q g hp qp gp tq tg tn tx I' A' M' MB' L')) B9) ([.ref h, .int k1] : List Value).toArray s 1 6 B9) (F0 m 10 ls [])), ∀ (I : MI) (A : MA) (M : MI) (MB : MA) (L : ML) (X : Nat → Int32) (Y : Nat → Int64) (ls : Array Slot) (H : Heap) (locs : List Loc), f_D_lineBegin_42 tn tx rc I A M MB L X Y = some (2, r, I', A', M', MB', L') → lv_has ls 4 [(0, .ref h), (1, .int (X 1)), (2, .int (X 2)), (3, .int (X 3))] → va_P (dC, dI) vwCl (dw_W h q g hp qp gp tq tg tn tx I A M MB L) H → va_D B9 (dw_W h q g hp qp gp tq tg tn tx I A M MB L) → va_S B9 s.heap H locs → W p l e (headSpec w_D_lineBegin ({ frames := 6, cells := 1, slots := 6, locals := 81 })).room s m ([.ref h, .int k1] : List Value).toArray below meth c H locs 0 0 (th_Q below (th_Qw "java/lang/IndexOutOfBoundsException" (fun t => va_P (dC, dI) vwCl (dw_W h q g hp qp gp tq tg tn tx I' A' M' MB' L') t.heap ∧ va_K (dC, dI) vwCl (dw_T h q g hp qp gp tq tg tn tx) t ∧ va_D B9 (dw_W h q g hp qp gp tq tg tn tx I' A' M' MB' L')) B9) ([.ref h, .int k1] : List Value).toArray s 1 6 B9) (F0 m 42 ls []) := by
    intro rc hrc10 I A M MB L X Y ls H locs hf hl hP hD hS
    unfold f_D_lineBegin_42 at hf
    refine lv_iinc (k := 3) (v := ((X 3) + 1)) (lv' := [(3, .int ((X 3) + 1)), (0, .ref h), (1, .int (X 1)), (2, .int (X 2))]) hx hb d_D_lineBegin_42 hl rfl (wk_inc (by decide)) (by decide) rfl (fun ls hl => ?_)
    have hl : lv_has ls 4 [(3, .int ((X 3) + 1)), (0, .ref h), (1, .int (X 1)), (2, .int (X 2))] := hl
    refine lv_goto (tgt := 10) hx hb d_D_lineBegin_45 (by decide) ?_
    exact hrc10 I A M MB L (upd X 3 ((X 3) + 1)) Y _ _ _ hf (lv_sub hl [1, 2, 3, 0] rfl) hP hD hS
  have stp10 : ∀ (rc : Nat → MI → MA → MI → MA → ML → (Nat → Int32) → (Nat → Int64) → Option (Nat × Int32 × MI × MA × MI × MA × ML)) (hrc10 : ∀ (I : MI) (A : MA) (M : MI) (MB : MA) (L : ML) (X : Nat → Int32) (Y : Nat → Int64) (ls : Array Slot) (H : Heap) (locs : List Loc), rc 10 I A M MB L X Y = some (2, r, I', A', M', MB', L') → lv_has ls 4 [(0, .ref h), (1, .int (X 1)), (2, .int (X 2)), (3, .int (X 3))] → va_P (dC, dI) vwCl (dw_W h q g hp qp gp tq tg tn tx I A M MB L) H → va_D B9 (dw_W h q g hp qp gp tq tg tn tx I A M MB L) → va_S B9 s.heap H locs → W p l e (headSpec w_D_lineBegin ({ frames := 6, cells := 1, slots := 6, locals := 81 })).room s m ([.ref h, .int k1] : List Value).toArray below meth c H locs 0 0 (th_Q below (th_Qw "java/lang/IndexOutOfBoundsException" (fun t => va_P (dC, dI) vwCl (dw_W h q g hp qp gp tq tg tn tx I' A' M' MB' L') t.heap ∧ va_K (dC, dI) vwCl (dw_T h q g hp qp gp tq tg tn tx) t ∧ va_D B9 (dw_W h q g hp qp gp tq tg tn tx I' A' M' MB' L')) B9) ([.ref h, .int k1] : List Value).toArray s 1 6 B9) (F0 m 10 ls [])), ∀ (I : MI) (A : MA) (M : MI) (MB : MA) (L : ML) (X : Nat → Int32) (Y : Nat → Int64) (ls : Array Slot) (H : Heap) (locs : List Loc), f_D_lineBegin_10 tn tx rc I A M MB L X Y = some (2, r, I', A', M', MB', L') → lv_has ls 4 [(0, .ref h), (1, .int (X 1)), (2, .int (X 2)), (3, .int (X 3))] → va_P (dC, dI) vwCl (dw_W h q g hp qp gp tq tg tn tx I A M MB L) H → va_D B9 (dw_W h q g hp qp gp tq tg tn tx I A M MB L) → va_S B9 s.heap H locs → W p l e (headSpec w_D_lineBegin ({ frames := 6, cells := 1, slots := 6, locals := 81 })).room s m ([.ref h, .int k1] : List Value).toArray below meth c H locs 0 0 (th_Q below (th_Qw "java/lang/IndexOutOfBoundsException" (fun t => va_P (dC, dI) vwCl (dw_W h q g hp qp gp tq tg tn tx I' A' M' MB' L') t.heap ∧ va_K (dC, dI) vwCl (dw_T h q g hp qp gp tq tg tn tx) t ∧ va_D B9 (dw_W h q g hp qp gp tq tg tn tx I' A' M' MB' L')) B9) ([.ref h, .int k1] : List Value).toArray s 1 6 B9) (F0 m 10 ls []) := by
    intro rc hrc10 I A M MB L X Y ls H locs hf hl hP hD hS
    unfold f_D_lineBegin_10 at hf
    refine lv_iload_n hx hb d_D_lineBegin_10 rfl (lv_at hl 3 rfl) ?_
    refine lv_aload_n hx hb d_D_lineBegin_11 rfl (lv_at hl 0 rfl) ?_
    refine va_get (D := (dC, dI)) (ci := 0) (v := .ref tq) (C := R_D) (T := F_D) (N := 14) hx hb hts (fun w h => List.mem_cons_of_mem _ (in_D w h)) hown hK hP 0 rfl rfl 5 (by decide) (hts _ (List.mem_cons_of_mem _ lk_242)) (fun _ h9 => h9) rfl d_D_lineBegin_12 ?_
    refine va_alen (v := (Int32.ofNat tn)) hx hb hK hP 10 8 rfl rfl rfl d_D_lineBegin_15 ?_
    refine lv_icmp_ge (tgt := 48) hx hb d_D_lineBegin_16 (by decide) (fun hc1 => ?_) (fun hc1 => ?_)
    ·
      have hf := wk_ift hc1 hf
      obtain ⟨e0, e1, e2, e3, e4, e5, e6⟩ := wk_inj6 hf
      subst e1
      subst e2
      subst e3
      subst e4
      subst e5
      subst e6
      exact th_newG hx hb htr hown (by decide) (by decide) (wk_thr hts hZ hS lk_243 lk_244 (fun _ a9 b9 => oa_0 a9 b9)) hnh (by rw [hl.1, hml]) hS (Nat.le_of_ble_eq_true rfl) (Nat.le_of_ble_eq_true rfl) (Nat.le_of_ble_eq_true rfl) (Nat.le_of_ble_eq_true rfl) (Nat.le_of_ble_eq_true rfl) (Nat.le_of_ble_eq_true rfl) hlocks (fun t hal hk => ⟨hP.kept (fun k q hq => hk _ (hP k q hq).lt), va_K.moved hal hK, hD⟩) d_D_lineBegin_48 d_D_lineBegin_51 d_D_lineBegin_52 d_D_lineBegin_55
    ·
      have hf := wk_iff hc1 hf
      refine lv_aload_n hx hb d_D_lineBegin_19 rfl (lv_at hl 0 rfl) ?_
      refine va_get (D := (dC, dI)) (ci := 0) (v := .ref tq) (C := R_D) (T := F_D) (N := 14) hx hb hts (fun w h => List.mem_cons_of_mem _ (in_D w h)) hown hK hP 0 rfl rfl 5 (by decide) (hts _ (List.mem_cons_of_mem _ lk_242)) (fun _ h9 => h9) rfl d_D_lineBegin_20 ?_
      refine lv_iload_n hx hb d_D_lineBegin_23 rfl (lv_at hl 3 rfl) ?_
      obtain ⟨hc2, hf⟩ := wk_if hf
      refine va_cald hx hb hK hP 10 8 rfl rfl (wk_inb_ok hc2) d_D_lineBegin_24 ?_
      refine lv_bipush (v := 10) hx hb d_D_lineBegin_25 (by decide) ?_
      refine lv_icmp_ne (tgt := 42) hx hb d_D_lineBegin_27 (by decide) (fun hc3 => ?_) (fun hc3 => ?_)
      ·
        have hf := wk_iff hc3 hf
        exact blk42 rc hrc10 I A M MB L X Y _ _ _ hf (lv_sub hl [0, 1, 2, 3] rfl) hP hD hS
      ·
        have hf := wk_ift hc3 hf
        refine lv_iinc (k := 2) (v := ((X 2) + 1)) (lv' := [(2, .int ((X 2) + 1)), (0, .ref h), (1, .int (X 1)), (3, .int (X 3))]) hx hb d_D_lineBegin_30 hl rfl (wk_inc (by decide)) (by decide) rfl (fun ls hl => ?_)
        have hl : lv_has ls 4 [(2, .int ((X 2) + 1)), (0, .ref h), (1, .int (X 1)), (3, .int (X 3))] := hl
        refine lv_iload_n hx hb d_D_lineBegin_33 rfl (lv_at hl 0 rfl) ?_
        refine lv_iload_n hx hb d_D_lineBegin_34 rfl (lv_at hl 2 rfl) ?_
        refine lv_icmp_ne (tgt := 42) hx hb d_D_lineBegin_35 (by decide) (fun hc4 => ?_) (fun hc4 => ?_)
        ·
          have hf := wk_iff hc4 hf
          exact blk42 rc hrc10 I A M MB L (upd X 2 ((X 2) + 1)) Y _ _ _ hf (lv_sub hl [1, 2, 0, 3] rfl) hP hD hS
        ·
          have hf := wk_ift hc4 hf
          refine lv_iload_n hx hb d_D_lineBegin_38 rfl (lv_at hl 3 rfl) ?_
          refine lv_iconst (v := 1) hx hb d_D_lineBegin_39 (by decide) ?_
          refine lv_iadd hx hb d_D_lineBegin_40 ?_
          exact (wk_tag (by decide) hf).elim
  have key : ∀ n : Nat, (∀ (I : MI) (A : MA) (M : MI) (MB : MA) (L : ML) (X : Nat → Int32) (Y : Nat → Int64) (ls : Array Slot) (H : Heap) (locs : List Loc), f_D_lineBegin_go tn tx n 10 I A M MB L X Y = some (2, r, I', A', M', MB', L') → lv_has ls 4 [(0, .ref h), (1, .int (X 1)), (2, .int (X 2)), (3, .int (X 3))] → va_P (dC, dI) vwCl (dw_W h q g hp qp gp tq tg tn tx I A M MB L) H → va_D B9 (dw_W h q g hp qp gp tq tg tn tx I A M MB L) → va_S B9 s.heap H locs → W p l e (headSpec w_D_lineBegin ({ frames := 6, cells := 1, slots := 6, locals := 81 })).room s m ([.ref h, .int k1] : List Value).toArray below meth c H locs 0 0 (th_Q below (th_Qw "java/lang/IndexOutOfBoundsException" (fun t => va_P (dC, dI) vwCl (dw_W h q g hp qp gp tq tg tn tx I' A' M' MB' L') t.heap ∧ va_K (dC, dI) vwCl (dw_T h q g hp qp gp tq tg tn tx) t ∧ va_D B9 (dw_W h q g hp qp gp tq tg tn tx I' A' M' MB' L')) B9) ([.ref h, .int k1] : List Value).toArray s 1 6 B9) (F0 m 10 ls [])) := by
    intro n
    induction n with
    | zero => exact fun I A M MB L X Y ls H locs hf => (by cases hf)
    | succ n ih =>
      have ih10 := ih
      exact stp10 (f_D_lineBegin_go tn tx n) ih10
  unfold f_D_lineBegin f_D_lineBegin_e at hf
  have hrc10 := key wk_FUEL
  refine lv_iload_n hx hb d_D_lineBegin_0 rfl (lv_at hl 1 rfl) ?_
  refine lv_if_ne (tgt := 6) hx hb d_D_lineBegin_1 (by decide) (fun hc1 => ?_) (fun hc1 => ?_)
  ·
    have hf := wk_iff hc1 hf
    refine lv_iconst (v := 0) hx hb d_D_lineBegin_6 (by decide) ?_
    refine lv_istore_n (lv' := [(2, .int 0), (0, .ref h), (1, .int k1)]) hx hb d_D_lineBegin_7 rfl hl (by decide) rfl (fun ls hl => ?_)
    have hl : lv_has ls 4 [(2, .int 0), (0, .ref h), (1, .int k1)] := hl
    refine lv_iconst (v := 0) hx hb d_D_lineBegin_8 (by decide) ?_
    refine lv_istore_n (lv' := [(3, .int 0), (2, .int 0), (0, .ref h), (1, .int k1)]) hx hb d_D_lineBegin_9 rfl hl (by decide) rfl (fun ls hl => ?_)
    have hl : lv_has ls 4 [(3, .int 0), (2, .int 0), (0, .ref h), (1, .int k1)] := hl
    exact hrc10 I A M MB L (upd (upd (upd (fun _ => 0) 1 k1) 2 0) 3 0) (fun _ => 0) _ _ _ hf (lv_sub hl [2, 3, 1, 0] rfl) hP hD hS
  ·
    have hf := wk_ift hc1 hf
    refine lv_iconst (v := 0) hx hb d_D_lineBegin_4 (by decide) ?_
    exact (wk_tag (by decide) hf).elim

set_option maxHeartbeats 8000000 in
set_option maxRecDepth 100000 in
theorem cm_D_lineSize (l : Launch) (dC : Nat → ClassId) (dI : Nat → Nat → Nat) (h : Nat) (q : Nat → Nat) (g : Nat → ClassId) (hp : Nat) (qp : Nat → Nat) (gp : Nat → ClassId) (tq : Nat) (tg : ClassId) (tn : Nat) (tx : Nat → Int32) (sz : Nat) (I : MI) (A : MA) (M : MI) (MB : MA) (L : ML) (k1 : Int32) (r : Int32) (I' : MI) (A' : MA) (M' : MI) (MB' : MA) (L' : ML) (hf : f_D_lineSize tn tx I A M MB L  k1 = some (r, I', A', M', MB', L')) : Met l y_D_lineSize w_D_lineSize ({ frames := 0, cells := 0, slots := 0, locals := 0 }) (va_Pc [.ref h, .int k1] (fun U => U.heap.size = sz ∧ va_P (dC, dI) vwCl (dw_W h q g hp qp gp tq tg tn tx I A M MB L) U.heap ∧ va_K (dC, dI) vwCl (dw_T h q g hp qp gp tq tg tn tx) U ∧ va_D (fun _ => True) (dw_W h q g hp qp gp tq tg tn tx I A M MB L))) (va_Qi (fun (r9 : Int32) (_ : Unit) => r9 = r) (fun (_ : Unit) t => va_P (dC, dI) vwCl (dw_W h q g hp qp gp tq tg tn tx I' A' M' MB' L') t.heap ∧ va_K (dC, dI) vwCl (dw_T h q g hp qp gp tq tg tn tx) t ∧ va_D (va_A (dw_W h q g hp qp gp tq tg tn tx I A M MB L) sz) (dw_W h q g hp qp gp tq tg tn tx I' A' M' MB' L')) (va_A (dw_W h q g hp qp gp tq tg tn tx I A M MB L) sz)) 0 0 (va_A (dw_W h q g hp qp gp tq tg tn tx I A M MB L) sz) := by
  refine Met.ofW (cc := prog_1_method_31_code) (maxL := 4) (ret := (some .int)) (by decide) rfl ?_
  intro p e s m args below meth c s₁ B hml hv
  obtain ⟨rfl, hsz, hP, hK, hD0⟩ := hv
  have hx := B.exec
  have hb := B.bytes
  have hr := B.returns
  have hts := atoms_spec (ws := w_D_lineSize) B.pre
  have hown : s.vm.findClass "DraftTree" = some m.cls := findClass_of_methodNamed B.named
  have hlocks := B.notSynchronized
  subst hsz
  have hD := hD0.self (sz := s.heap.size)
  generalize hAe : va_A (dw_W h q g hp qp gp tq tg tn tx I A M MB L) s.heap.size = B9 at hD ⊢
  have hA : ∀ q : Nat, s.heap.size ≤ q → B9 q := fun q h => by rw [← hAe]; exact Or.inr h
  clear hAe
  have hS : va_S B9 s.heap s.heap [] := va_S.rf
  have hl := lv_entry ([.ref h, .int k1]) (n := 4) (Nat.le_of_ble_eq_true rfl)
  rw [lg_entry_eq]
  generalize (lg_sl ([.ref h, .int k1]) ++ List.replicate (4 - (lg_sl ([.ref h, .int k1])).length) Slot.unset).toArray = ls at hl ⊢
  have hl : lv_has ls 4 [(0, .ref h), (1, .int k1)] := hl
  have blk33 : ∀ (rc : Nat → MI → MA → MI → MA → ML → (Nat → Int32) → (Nat → Int64) → Option (Int32 × MI × MA × MI × MA × ML)) (hrc4 : ∀ (I : MI) (A : MA) (M : MI) (MB : MA) (L : ML) (X : Nat → Int32) (Y : Nat → Int64) (ls : Array Slot) (H : Heap) (locs : List Loc), rc 4 I A M MB L X Y = some (r, I', A', M', MB', L') → lv_has ls 4 [(0, .ref h), (1, .int (X 1)), (2, .int (X 2)), (3, .int (X 3))] → va_P (dC, dI) vwCl (dw_W h q g hp qp gp tq tg tn tx I A M MB L) H → va_D B9 (dw_W h q g hp qp gp tq tg tn tx I A M MB L) → va_S B9 s.heap H locs → W p l e (headSpec w_D_lineSize ({ frames := 0, cells := 0, slots := 0, locals := 0 })).room s m ([.ref h, .int k1] : List Value).toArray below meth c H locs 0 0 (MQ below (va_Qi (fun (r9 : Int32) (_ : Unit) => r9 = r) (fun (_ : Unit) t => va_P (dC, dI) vwCl (dw_W h q g hp qp gp tq tg tn tx I' A' M' MB' L') t.heap ∧ va_K (dC, dI) vwCl (dw_T h q g hp qp gp tq tg tn tx) t ∧ va_D B9 (dw_W h q g hp qp gp tq tg tn tx I' A' M' MB' L')) B9) ([.ref h, .int k1] : List Value).toArray s 0 0 B9) (F0 m 4 ls [])), ∀ (I : MI) (A : MA) (M : MI) (MB : MA) (L : ML) (X : Nat → Int32) (Y : Nat → Int64) (ls : Array Slot) (H : Heap) (locs : List Loc), f_D_lineSize_33 tn tx rc I A M MB L X Y = some (r, I', A', M', MB', L') → lv_has ls 4 [(0, .ref h), (1, .int (X 1)), (2, .int (X 2)), (3, .int (X 3))] → va_P (dC, dI) vwCl (dw_W h q g hp qp gp tq tg tn tx I A M MB L) H → va_D B9 (dw_W h q g hp qp gp tq tg tn tx I A M MB L) → va_S B9 s.heap H locs → W p l e (headSpec w_D_lineSize ({ frames := 0, cells := 0, slots := 0, locals := 0 })).room s m ([.ref h, .int k1] : List Value).toArray below meth c H locs 0 0 (MQ below (va_Qi (fun (r9 : Int32) (_ : Unit) => r9 = r) (fun (_ : Unit) t => va_P (dC, dI) vwCl (dw_W h q g hp qp gp tq tg tn tx I' A' M' MB' L') t.heap ∧ va_K (dC, dI) vwCl (dw_T h q g hp qp gp tq tg tn tx) t ∧ va_D B9 (dw_W h q g hp qp gp tq tg tn tx I' A' M' MB' L')) B9) ([.ref h, .int k1] : List Value).toArray s 0 0 B9) (F0 m 33 ls []) := by
    intro rc hrc4 I A M MB L X Y ls H locs hf hl hP hD hS
    unfold f_D_lineSize_33 at hf
    refine lv_iload_n hx hb d_D_lineSize_33 rfl (lv_at hl 2 rfl) ?_
    obtain ⟨e0, e1, e2, e3, e4, e5⟩ := wk_inj5 hf
    subst e0
    subst e1
    subst e2
    subst e3
    subst e4
    subst e5
    exact W.iret (v := (X 2)) hx hb hr (fun t ht hW => ⟨⟨(X 2), (), rfl, rfl, by rw [ht]; exact hP, va_K.moved hW.alike hK, hD⟩, hS.F ht⟩) hS.2.2 d_D_lineSize_34
  have stp4 : ∀ (rc : Nat → MI → MA → MI → MA → ML → (Nat → Int32) → (Nat → Int64) → Option (Int32 × MI × MA × MI × MA × ML)) (hrc4 : ∀ (I : MI) (A : MA) (M : MI) (MB : MA) (L : ML) (X : Nat → Int32) (Y : Nat → Int64) (ls : Array Slot) (H : Heap) (locs : List Loc), rc 4 I A M MB L X Y = some (r, I', A', M', MB', L') → lv_has ls 4 [(0, .ref h), (1, .int (X 1)), (2, .int (X 2)), (3, .int (X 3))] → va_P (dC, dI) vwCl (dw_W h q g hp qp gp tq tg tn tx I A M MB L) H → va_D B9 (dw_W h q g hp qp gp tq tg tn tx I A M MB L) → va_S B9 s.heap H locs → W p l e (headSpec w_D_lineSize ({ frames := 0, cells := 0, slots := 0, locals := 0 })).room s m ([.ref h, .int k1] : List Value).toArray below meth c H locs 0 0 (MQ below (va_Qi (fun (r9 : Int32) (_ : Unit) => r9 = r) (fun (_ : Unit) t => va_P (dC, dI) vwCl (dw_W h q g hp qp gp tq tg tn tx I' A' M' MB' L') t.heap ∧ va_K (dC, dI) vwCl (dw_T h q g hp qp gp tq tg tn tx) t ∧ va_D B9 (dw_W h q g hp qp gp tq tg tn tx I' A' M' MB' L')) B9) ([.ref h, .int k1] : List Value).toArray s 0 0 B9) (F0 m 4 ls [])), ∀ (I : MI) (A : MA) (M : MI) (MB : MA) (L : ML) (X : Nat → Int32) (Y : Nat → Int64) (ls : Array Slot) (H : Heap) (locs : List Loc), f_D_lineSize_4 tn tx rc I A M MB L X Y = some (r, I', A', M', MB', L') → lv_has ls 4 [(0, .ref h), (1, .int (X 1)), (2, .int (X 2)), (3, .int (X 3))] → va_P (dC, dI) vwCl (dw_W h q g hp qp gp tq tg tn tx I A M MB L) H → va_D B9 (dw_W h q g hp qp gp tq tg tn tx I A M MB L) → va_S B9 s.heap H locs → W p l e (headSpec w_D_lineSize ({ frames := 0, cells := 0, slots := 0, locals := 0 })).room s m ([.ref h, .int k1] : List Value).toArray below meth c H locs 0 0 (MQ below (va_Qi (fun (r9 : Int32) (_ : Unit) => r9 = r) (fun (_ : Unit) t => va_P (dC, dI) vwCl (dw_W h q g hp qp gp tq tg tn tx I' A' M' MB' L') t.heap ∧ va_K (dC, dI) vwCl (dw_T h q g hp qp gp tq tg tn tx) t ∧ va_D B9 (dw_W h q g hp qp gp tq tg tn tx I' A' M' MB' L')) B9) ([.ref h, .int k1] : List Value).toArray s 0 0 B9) (F0 m 4 ls []) := by
    intro rc hrc4 I A M MB L X Y ls H locs hf hl hP hD hS
    unfold f_D_lineSize_4 at hf
    refine lv_iload_n hx hb d_D_lineSize_4 rfl (lv_at hl 3 rfl) ?_
    refine lv_aload_n hx hb d_D_lineSize_5 rfl (lv_at hl 0 rfl) ?_
    refine va_get (D := (dC, dI)) (ci := 0) (v := .ref tq) (C := R_D) (T := F_D) (N := 14) hx hb hts (fun w h => List.mem_cons_of_mem _ (in_D w h)) hown hK hP 0 rfl rfl 5 (by decide) (hts _ (List.mem_cons_of_mem _ lk_242)) (fun _ h9 => h9) rfl d_D_lineSize_6 ?_
    refine va_alen (v := (Int32.ofNat tn)) hx hb hK hP 10 8 rfl rfl rfl d_D_lineSize_9 ?_
    refine lv_icmp_ge (tgt := 33) hx hb d_D_lineSize_10 (by decide) (fun hc1 => ?_) (fun hc1 => ?_)
    ·
      have hf := wk_ift hc1 hf
      exact blk33 rc hrc4 I A M MB L X Y _ _ _ hf (lv_sub hl [0, 1, 2, 3] rfl) hP hD hS
    ·
      have hf := wk_iff hc1 hf
      refine lv_aload_n hx hb d_D_lineSize_13 rfl (lv_at hl 0 rfl) ?_
      refine va_get (D := (dC, dI)) (ci := 0) (v := .ref tq) (C := R_D) (T := F_D) (N := 14) hx hb hts (fun w h => List.mem_cons_of_mem _ (in_D w h)) hown hK hP 0 rfl rfl 5 (by decide) (hts _ (List.mem_cons_of_mem _ lk_242)) (fun _ h9 => h9) rfl d_D_lineSize_14 ?_
      refine lv_iload_n hx hb d_D_lineSize_17 rfl (lv_at hl 3 rfl) ?_
      obtain ⟨hc2, hf⟩ := wk_if hf
      refine va_cald hx hb hK hP 10 8 rfl rfl (wk_inb_ok hc2) d_D_lineSize_18 ?_
      refine lv_bipush (v := 10) hx hb d_D_lineSize_19 (by decide) ?_
      refine lv_icmp_eq (tgt := 33) hx hb d_D_lineSize_21 (by decide) (fun hc3 => ?_) (fun hc3 => ?_)
      ·
        have hf := wk_ift hc3 hf
        exact blk33 rc hrc4 I A M MB L X Y _ _ _ hf (lv_sub hl [0, 1, 2, 3] rfl) hP hD hS
      ·
        have hf := wk_iff hc3 hf
        refine lv_iinc (k := 2) (v := ((X 2) + 1)) (lv' := [(2, .int ((X 2) + 1)), (0, .ref h), (1, .int (X 1)), (3, .int (X 3))]) hx hb d_D_lineSize_24 hl rfl (wk_inc (by decide)) (by decide) rfl (fun ls hl => ?_)
        have hl : lv_has ls 4 [(2, .int ((X 2) + 1)), (0, .ref h), (1, .int (X 1)), (3, .int (X 3))] := hl
        refine lv_iinc (k := 3) (v := ((X 3) + 1)) (lv' := [(3, .int ((X 3) + 1)), (2, .int ((X 2) + 1)), (0, .ref h), (1, .int (X 1))]) hx hb d_D_lineSize_27 hl rfl (wk_inc (by decide)) (by decide) rfl (fun ls hl => ?_)
        have hl : lv_has ls 4 [(3, .int ((X 3) + 1)), (2, .int ((X 2) + 1)), (0, .ref h), (1, .int (X 1))] := hl
        refine lv_goto (tgt := 4) hx hb d_D_lineSize_30 (by decide) ?_
        exact hrc4 I A M MB L (upd (upd X 2 ((X 2) + 1)) 3 ((X 3) + 1)) Y _ _ _ hf (lv_sub hl [2, 3, 1, 0] rfl) hP hD hS
  have key : ∀ n : Nat, (∀ (I : MI) (A : MA) (M : MI) (MB : MA) (L : ML) (X : Nat → Int32) (Y : Nat → Int64) (ls : Array Slot) (H : Heap) (locs : List Loc), f_D_lineSize_go tn tx n 4 I A M MB L X Y = some (r, I', A', M', MB', L') → lv_has ls 4 [(0, .ref h), (1, .int (X 1)), (2, .int (X 2)), (3, .int (X 3))] → va_P (dC, dI) vwCl (dw_W h q g hp qp gp tq tg tn tx I A M MB L) H → va_D B9 (dw_W h q g hp qp gp tq tg tn tx I A M MB L) → va_S B9 s.heap H locs → W p l e (headSpec w_D_lineSize ({ frames := 0, cells := 0, slots := 0, locals := 0 })).room s m ([.ref h, .int k1] : List Value).toArray below meth c H locs 0 0 (MQ below (va_Qi (fun (r9 : Int32) (_ : Unit) => r9 = r) (fun (_ : Unit) t => va_P (dC, dI) vwCl (dw_W h q g hp qp gp tq tg tn tx I' A' M' MB' L') t.heap ∧ va_K (dC, dI) vwCl (dw_T h q g hp qp gp tq tg tn tx) t ∧ va_D B9 (dw_W h q g hp qp gp tq tg tn tx I' A' M' MB' L')) B9) ([.ref h, .int k1] : List Value).toArray s 0 0 B9) (F0 m 4 ls [])) := by
    intro n
    induction n with
    | zero => exact fun I A M MB L X Y ls H locs hf => (by cases hf)
    | succ n ih =>
      have ih4 := ih
      exact stp4 (f_D_lineSize_go tn tx n) ih4
  unfold f_D_lineSize f_D_lineSize_e at hf
  have hrc4 := key wk_FUEL
  refine lv_iconst (v := 0) hx hb d_D_lineSize_0 (by decide) ?_
  refine lv_istore_n (lv' := [(2, .int 0), (0, .ref h), (1, .int k1)]) hx hb d_D_lineSize_1 rfl hl (by decide) rfl (fun ls hl => ?_)
  have hl : lv_has ls 4 [(2, .int 0), (0, .ref h), (1, .int k1)] := hl
  refine lv_iload_n hx hb d_D_lineSize_2 rfl (lv_at hl 2 rfl) ?_
  refine lv_istore_n (lv' := [(3, .int k1), (2, .int 0), (0, .ref h), (1, .int k1)]) hx hb d_D_lineSize_3 rfl hl (by decide) rfl (fun ls hl => ?_)
  have hl : lv_has ls 4 [(3, .int k1), (2, .int 0), (0, .ref h), (1, .int k1)] := hl
  exact hrc4 I A M MB L (upd (upd (upd (fun _ => 0) 1 k1) 2 0) 3 k1) (fun _ => 0) _ _ _ hf (lv_sub hl [2, 3, 1, 0] rfl) hP hD hS

set_option maxHeartbeats 8000000 in
set_option maxRecDepth 100000 in
theorem cm_D_line (l : Launch) (dC : Nat → ClassId) (dI : Nat → Nat → Nat) (h : Nat) (q : Nat → Nat) (g : Nat → ClassId) (hp : Nat) (qp : Nat → Nat) (gp : Nat → ClassId) (tq : Nat) (tg : ClassId) (tn : Nat) (tx : Nat → Int32) (sz : Nat) (I : MI) (A : MA) (M : MI) (MB : MA) (L : ML) (k1 : Int32) (k2 : Int32) (r : Int32) (I' : MI) (A' : MA) (M' : MI) (MB' : MA) (L' : ML) (hf : f_D_line tn tx I A M MB L  k1 k2 = some (0, r, I', A', M', MB', L')) : Met l y_D_line w_D_line ({ frames := 1, cells := 0, slots := 0, locals := 23 }) (va_Pc [.ref h, .int k1, .int k2] (fun U => U.heap.size = sz ∧ va_P (dC, dI) vwCl (dw_W h q g hp qp gp tq tg tn tx I A M MB L) U.heap ∧ va_K (dC, dI) vwCl (dw_T h q g hp qp gp tq tg tn tx) U ∧ va_D (fun _ => True) (dw_W h q g hp qp gp tq tg tn tx I A M MB L))) (va_Qi (fun (r9 : Int32) (_ : Unit) => r9 = r) (fun (_ : Unit) t => va_P (dC, dI) vwCl (dw_W h q g hp qp gp tq tg tn tx I' A' M' MB' L') t.heap ∧ va_K (dC, dI) vwCl (dw_T h q g hp qp gp tq tg tn tx) t ∧ va_D (va_A (dw_W h q g hp qp gp tq tg tn tx I A M MB L) sz) (dw_W h q g hp qp gp tq tg tn tx I' A' M' MB' L')) (va_A (dw_W h q g hp qp gp tq tg tn tx I A M MB L) sz)) 0 0 (va_A (dw_W h q g hp qp gp tq tg tn tx I A M MB L) sz) := by
  refine Met.ofW (cc := prog_1_method_16_code) (maxL := 3) (ret := (some .int)) (by decide) rfl ?_
  intro p e s m args below meth c s₁ B hml hv
  obtain ⟨rfl, hsz, hP, hK, hD0⟩ := hv
  have hx := B.exec
  have hb := B.bytes
  have hr := B.returns
  have hts := atoms_spec (ws := w_D_line) B.pre
  have hown : s.vm.findClass "DraftTree" = some m.cls := findClass_of_methodNamed B.named
  have hlocks := B.notSynchronized
  subst hsz
  have hD := hD0.self (sz := s.heap.size)
  generalize hAe : va_A (dw_W h q g hp qp gp tq tg tn tx I A M MB L) s.heap.size = B9 at hD ⊢
  have hA : ∀ q : Nat, s.heap.size ≤ q → B9 q := fun q h => by rw [← hAe]; exact Or.inr h
  clear hAe
  have hS : va_S B9 s.heap s.heap [] := va_S.rf
  have hl := lv_entry ([.ref h, .int k1, .int k2]) (n := 3) (Nat.le_of_ble_eq_true rfl)
  rw [lg_entry_eq]
  generalize (lg_sl ([.ref h, .int k1, .int k2]) ++ List.replicate (3 - (lg_sl ([.ref h, .int k1, .int k2])).length) Slot.unset).toArray = ls at hl ⊢
  have hl : lv_has ls 3 [(0, .ref h), (1, .int k1), (2, .int k2)] := hl
  unfold f_D_line at hf
  refine lv_iload_n hx hb d_D_line_0 rfl (lv_at hl 1 rfl) ?_
  by_cases hc1 : k1 = 0
  ·
    have hf := wk_ift hc1 hf
    refine wk_top (w := .int 0) (congrArg _ hc1) ?_
    refine lv_tableIn (off := 31) (tgt := 32) hx hb d_D_line_1 (by decide) (by decide) (by decide) (by decide) ?_
    refine lv_aload_n hx hb d_D_line_32 rfl (lv_at hl 0 rfl) ?_
    refine lv_aload_n hx hb d_D_line_33 rfl (lv_at hl 0 rfl) ?_
    refine va_get (D := (dC, dI)) (ci := 0) (v := .ref tq) (C := R_D) (T := F_D) (N := 14) hx hb hts (fun w h => List.mem_cons_of_mem _ (in_D w h)) hown hK hP 0 rfl rfl 5 (by decide) (hts _ (List.mem_cons_of_mem _ lk_242)) (fun _ h9 => h9) rfl d_D_line_34 ?_
    refine va_alen (v := (Int32.ofNat tn)) hx hb hK hP 10 8 rfl rfl rfl d_D_line_37 ?_
    have hPc := hP.sub (ws' := (dw_W h q g hp qp gp tq tg tn tx I A M MB L)) [0, 1, 2, 3, 4, 5, 6, 7, 8, 9, 10] rfl
    have hDc := hD.sub (ws' := (dw_W h q g hp qp gp tq tg tn tx I A M MB L)) [0, 1, 2, 3, 4, 5, 6, 7, 8, 9, 10] (by decide) rfl
    have hKc := hK.sub (tys' := (dw_T h q g hp qp gp tq tg tn tx)) [0, 1, 2, 3, 4, 5, 6, 7, 8] rfl
    have hFc := va_free (wc := (dw_W h q g hp qp gp tq tg tn tx I A M MB L)) hD hS hA [0, 1, 2, 3, 4, 5, 6, 7, 8, 9, 10] rfl
    cases hg1 : f_D_breaksBefore tn tx I A M MB L (Int32.ofNat tn) with
    | none => rw [hg1] at hf; cases hf
    | some z1 =>
      obtain ⟨r1, I1, A1, M1, MB1, L1⟩ := z1
      rw [hg1] at hf
      dsimp only [Option.bind_some] at hf
      refine va_calli (va_runV (As := [.int (Int32.ofNat tn)]) (rest := []) ⟨hx, hb, hml, hown, hts⟩ (cm_D_breaksBefore l dC dI h q g hp qp gp tq tg tn tx _  I A M MB L (Int32.ofNat tn) r1 I1 A1 M1 MB1 L1 hg1) (cwV 1 hts (gd_v lk_471 lk_472 lk_473 lk_445 lk_246) rfl rfl rfl (by decide +kernel) ⟨Nat.le_of_ble_eq_true rfl, Nat.le_of_ble_eq_true rfl⟩) ⟨fun a U g mk q => by obtain ⟨q0, q1, qP, qK, qD⟩ := q; exact ⟨q0, q1, qP, va_K.moved (u := U) (U := U.calling g mk a) (Vm.Alike.refl U.vm) qK, qD⟩, va_recv (ci := 0) (q0 := 0) hK hP rfl rfl, fun U hU hW => ⟨rfl, by rw [hU], by rw [hU]; exact hPc, va_K.moved hW.alike hKc, hDc.weaken (fun _ _ _ _ => trivial)⟩⟩ rfl rfl hl.1 rfl (lv_room (Nat.le_of_ble_eq_true rfl)) d_D_line_38 ⟨Nat.le_of_ble_eq_true rfl, Nat.le_of_ble_eq_true rfl⟩) hS (fun q _ h => hFc q h) hFc (fun r9 u t H1 locs ht hvm hw hB hz1 hk1 hS => ?_)
      obtain ⟨hP1, hK1, hD1⟩ := hB
      rw [ht] at hP1
      rw [hw]
      obtain ⟨hP, hD⟩ := va_join (wr := (([] : List Nat).map (fun i => ((dw_W h q g hp qp gp tq tg tn tx I A M MB L)).getD i (0, .inr (0, []))))) (w1 := (dw_W h q g hp qp gp tq tg tn tx I1 A1 M1 MB1 L1)) hP hD [0, 1, 2, 3, 4, 5, 6, 7, 8, 9, 10] [] rfl rfl (by decide) (by decide) hk1 hFc hP1 hD1
      generalize H1 = H at hP hS ⊢
      have hP := hP.sub (ws' := (dw_W h q g hp qp gp tq tg tn tx I1 A1 M1 MB1 L1)) [0, 1, 2, 3, 4, 5, 6, 7, 8, 9, 10] rfl
      have hD := hD.sub (ws' := (dw_W h q g hp qp gp tq tg tn tx I1 A1 M1 MB1 L1)) [0, 1, 2, 3, 4, 5, 6, 7, 8, 9, 10] (by decide) rfl
      refine lv_iconst (v := 1) hx hb d_D_line_41 (by decide) ?_
      refine lv_iadd hx hb d_D_line_42 ?_
      obtain ⟨e0, e1, e2, e3, e4, e5, e6⟩ := wk_inj6 hf
      subst e1
      subst e2
      subst e3
      subst e4
      subst e5
      subst e6
      exact W.iret (v := (r1 + 1)) hx hb hr (fun t ht hW => ⟨⟨(r1 + 1), (), rfl, rfl, by rw [ht]; exact hP, va_K.moved hW.alike hK, hD⟩, hS.F ht⟩) hS.2.2 d_D_line_43
  ·
    have hf := wk_iff hc1 hf
    by_cases hc2 : k1 = 1
    ·
      have hf := wk_ift hc2 hf
      refine wk_top (w := .int 1) (congrArg _ hc2) ?_
      refine lv_tableIn (off := 43) (tgt := 44) hx hb d_D_line_1 (by decide) (by decide) (by decide) (by decide) ?_
      refine lv_aload_n hx hb d_D_line_44 rfl (lv_at hl 0 rfl) ?_
      refine lv_iload_n hx hb d_D_line_45 rfl (lv_at hl 2 rfl) ?_
      have hPc := hP.sub (ws' := (dw_W h q g hp qp gp tq tg tn tx I A M MB L)) [0, 1, 2, 3, 4, 5, 6, 7, 8, 9, 10] rfl
      have hDc := hD.sub (ws' := (dw_W h q g hp qp gp tq tg tn tx I A M MB L)) [0, 1, 2, 3, 4, 5, 6, 7, 8, 9, 10] (by decide) rfl
      have hKc := hK.sub (tys' := (dw_T h q g hp qp gp tq tg tn tx)) [0, 1, 2, 3, 4, 5, 6, 7, 8] rfl
      have hFc := va_free (wc := (dw_W h q g hp qp gp tq tg tn tx I A M MB L)) hD hS hA [0, 1, 2, 3, 4, 5, 6, 7, 8, 9, 10] rfl
      cases hg1 : f_D_requirePlace tn tx I A M MB L k2 with
      | none => rw [hg1] at hf; cases hf
      | some z1 =>
        obtain ⟨tg1, r1, I1, A1, M1, MB1, L1⟩ := z1
        rw [hg1] at hf
        dsimp only [Option.bind_some] at hf
        by_cases ht1 : tg1 = 0
        ·
          have hf := wk_ift ht1 hf
          rw [ht1] at hg1
          refine va_callv (va_runV (As := [.int k2]) (rest := []) ⟨hx, hb, hml, hown, hts⟩ (cm_D_requirePlace l dC dI h q g hp qp gp tq tg tn tx _  I A M MB L k2 r1 I1 A1 M1 MB1 L1 hg1) (cwV 1 hts (gd_v lk_442 lk_443 lk_444 lk_445 lk_441) rfl rfl rfl (by decide +kernel) ⟨Nat.le_of_ble_eq_true rfl, Nat.le_of_ble_eq_true rfl⟩) ⟨fun a U g mk q => by obtain ⟨q0, q1, qP, qK, qD⟩ := q; exact ⟨q0, q1, qP, va_K.moved (u := U) (U := U.calling g mk a) (Vm.Alike.refl U.vm) qK, qD⟩, va_recv (ci := 0) (q0 := 0) hK hP rfl rfl, fun U hU hW => ⟨rfl, by rw [hU], by rw [hU]; exact hPc, va_K.moved hW.alike hKc, hDc.weaken (fun _ _ _ _ => trivial)⟩⟩ rfl rfl hl.1 rfl (lv_room (Nat.le_of_ble_eq_true rfl)) d_D_line_46 ⟨Nat.le_of_ble_eq_true rfl, Nat.le_of_ble_eq_true rfl⟩) hS (fun q _ h => hFc q h) hFc (fun u t H1 locs ht hvm hw hB hz1 hk1 hS => ?_)
          obtain ⟨hP1, hK1, hD1⟩ := hB
          rw [ht] at hP1
          obtain ⟨hP, hD⟩ := va_join (wr := (([] : List Nat).map (fun i => ((dw_W h q g hp qp gp tq tg tn tx I A M MB L)).getD i (0, .inr (0, []))))) (w1 := (dw_W h q g hp qp gp tq tg tn tx I1 A1 M1 MB1 L1)) hP hD [0, 1, 2, 3, 4, 5, 6, 7, 8, 9, 10] [] rfl rfl (by decide) (by decide) hk1 hFc hP1 hD1
          generalize H1 = H at hP hS ⊢
          have hP := hP.sub (ws' := (dw_W h q g hp qp gp tq tg tn tx I1 A1 M1 MB1 L1)) [0, 1, 2, 3, 4, 5, 6, 7, 8, 9, 10] rfl
          have hD := hD.sub (ws' := (dw_W h q g hp qp gp tq tg tn tx I1 A1 M1 MB1 L1)) [0, 1, 2, 3, 4, 5, 6, 7, 8, 9, 10] (by decide) rfl
          refine lv_aload_n hx hb d_D_line_49 rfl (lv_at hl 0 rfl) ?_
          refine lv_iload_n hx hb d_D_line_50 rfl (lv_at hl 2 rfl) ?_
          have hPc := hP.sub (ws' := (dw_W h q g hp qp gp tq tg tn tx I1 A1 M1 MB1 L1)) [0, 1, 2, 3, 4, 5, 6, 7, 8, 9, 10] rfl
          have hDc := hD.sub (ws' := (dw_W h q g hp qp gp tq tg tn tx I1 A1 M1 MB1 L1)) [0, 1, 2, 3, 4, 5, 6, 7, 8, 9, 10] (by decide) rfl
          have hKc := hK.sub (tys' := (dw_T h q g hp qp gp tq tg tn tx)) [0, 1, 2, 3, 4, 5, 6, 7, 8] rfl
          have hFc := va_free (wc := (dw_W h q g hp qp gp tq tg tn tx I1 A1 M1 MB1 L1)) hD hS hA [0, 1, 2, 3, 4, 5, 6, 7, 8, 9, 10] rfl
          cases hg2 : f_D_breaksBefore tn tx I1 A1 M1 MB1 L1 k2 with
          | none => rw [hg2] at hf; cases hf
          | some z2 =>
            obtain ⟨r2, I2, A2, M2, MB2, L2⟩ := z2
            rw [hg2] at hf
            dsimp only [Option.bind_some] at hf
            refine va_calli (va_runV (As := [.int k2]) (rest := []) ⟨hx, hb, hml, hown, hts⟩ (cm_D_breaksBefore l dC dI h q g hp qp gp tq tg tn tx _  I1 A1 M1 MB1 L1 k2 r2 I2 A2 M2 MB2 L2 hg2) (cwV 1 hts (gd_v lk_471 lk_472 lk_473 lk_445 lk_246) rfl rfl rfl (by decide +kernel) ⟨Nat.le_of_ble_eq_true rfl, Nat.le_of_ble_eq_true rfl⟩) ⟨fun a U g mk q => by obtain ⟨q0, q1, qP, qK, qD⟩ := q; exact ⟨q0, q1, qP, va_K.moved (u := U) (U := U.calling g mk a) (Vm.Alike.refl U.vm) qK, qD⟩, va_recv (ci := 0) (q0 := 0) hK hP rfl rfl, fun U hU hW => ⟨rfl, by rw [hU], by rw [hU]; exact hPc, va_K.moved hW.alike hKc, hDc.weaken (fun _ _ _ _ => trivial)⟩⟩ rfl rfl hl.1 rfl (lv_room (Nat.le_of_ble_eq_true rfl)) d_D_line_51 ⟨Nat.le_of_ble_eq_true rfl, Nat.le_of_ble_eq_true rfl⟩) hS (fun q _ h => hFc q h) hFc (fun r9 u t H1 locs ht hvm hw hB hz1 hk1 hS => ?_)
            obtain ⟨hP1, hK1, hD1⟩ := hB
            rw [ht] at hP1
            rw [hw]
            obtain ⟨hP, hD⟩ := va_join (wr := (([] : List Nat).map (fun i => ((dw_W h q g hp qp gp tq tg tn tx I1 A1 M1 MB1 L1)).getD i (0, .inr (0, []))))) (w1 := (dw_W h q g hp qp gp tq tg tn tx I2 A2 M2 MB2 L2)) hP hD [0, 1, 2, 3, 4, 5, 6, 7, 8, 9, 10] [] rfl rfl (by decide) (by decide) hk1 hFc hP1 hD1
            generalize H1 = H at hP hS ⊢
            have hP := hP.sub (ws' := (dw_W h q g hp qp gp tq tg tn tx I2 A2 M2 MB2 L2)) [0, 1, 2, 3, 4, 5, 6, 7, 8, 9, 10] rfl
            have hD := hD.sub (ws' := (dw_W h q g hp qp gp tq tg tn tx I2 A2 M2 MB2 L2)) [0, 1, 2, 3, 4, 5, 6, 7, 8, 9, 10] (by decide) rfl
            obtain ⟨e0, e1, e2, e3, e4, e5, e6⟩ := wk_inj6 hf
            subst e1
            subst e2
            subst e3
            subst e4
            subst e5
            subst e6
            exact W.iret (v := r2) hx hb hr (fun t ht hW => ⟨⟨r2, (), rfl, rfl, by rw [ht]; exact hP, va_K.moved hW.alike hK, hD⟩, hS.F ht⟩) hS.2.2 d_D_line_54
        ·
          have hf := wk_iff ht1 hf
          by_cases hq1_2 : tg1 = 2
          ·
            have hf := wk_ift hq1_2 hf
            exact (wk_tag (by decide) hf).elim
          ·
            have hf := wk_iff hq1_2 hf
            cases hf
    ·
      have hf := wk_iff hc2 hf
      by_cases hc3 : k1 = 2
      ·
        have hf := wk_ift hc3 hf
        refine wk_top (w := .int 2) (congrArg _ hc3) ?_
        refine lv_tableIn (off := 54) (tgt := 55) hx hb d_D_line_1 (by decide) (by decide) (by decide) (by decide) ?_
        refine lv_aload_n hx hb d_D_line_55 rfl (lv_at hl 0 rfl) ?_
        refine lv_iload_n hx hb d_D_line_56 rfl (lv_at hl 2 rfl) ?_
        have hPc := hP.sub (ws' := (dw_W h q g hp qp gp tq tg tn tx I A M MB L)) [0, 1, 2, 3, 4, 5, 6, 7, 8, 9, 10] rfl
        have hDc := hD.sub (ws' := (dw_W h q g hp qp gp tq tg tn tx I A M MB L)) [0, 1, 2, 3, 4, 5, 6, 7, 8, 9, 10] (by decide) rfl
        have hKc := hK.sub (tys' := (dw_T h q g hp qp gp tq tg tn tx)) [0, 1, 2, 3, 4, 5, 6, 7, 8] rfl
        have hFc := va_free (wc := (dw_W h q g hp qp gp tq tg tn tx I A M MB L)) hD hS hA [0, 1, 2, 3, 4, 5, 6, 7, 8, 9, 10] rfl
        cases hg1 : f_D_lineBegin tn tx I A M MB L k2 with
        | none => rw [hg1] at hf; cases hf
        | some z1 =>
          obtain ⟨tg1, r1, I1, A1, M1, MB1, L1⟩ := z1
          rw [hg1] at hf
          dsimp only [Option.bind_some] at hf
          by_cases ht1 : tg1 = 0
          ·
            have hf := wk_ift ht1 hf
            rw [ht1] at hg1
            refine va_calli (va_runV (As := [.int k2]) (rest := []) ⟨hx, hb, hml, hown, hts⟩ (cm_D_lineBegin l dC dI h q g hp qp gp tq tg tn tx _  I A M MB L k2 r1 I1 A1 M1 MB1 L1 hg1) (cwV 1 hts (gd_v lk_475 lk_476 lk_477 lk_445 lk_474) rfl rfl rfl (by decide +kernel) ⟨Nat.le_of_ble_eq_true rfl, Nat.le_of_ble_eq_true rfl⟩) ⟨fun a U g mk q => by obtain ⟨q0, q1, qP, qK, qD⟩ := q; exact ⟨q0, q1, qP, va_K.moved (u := U) (U := U.calling g mk a) (Vm.Alike.refl U.vm) qK, qD⟩, va_recv (ci := 0) (q0 := 0) hK hP rfl rfl, fun U hU hW => ⟨rfl, by rw [hU], by rw [hU]; exact hPc, va_K.moved hW.alike hKc, hDc.weaken (fun _ _ _ _ => trivial)⟩⟩ rfl rfl hl.1 rfl (lv_room (Nat.le_of_ble_eq_true rfl)) d_D_line_57 ⟨Nat.le_of_ble_eq_true rfl, Nat.le_of_ble_eq_true rfl⟩) hS (fun q _ h => hFc q h) hFc (fun r9 u t H1 locs ht hvm hw hB hz1 hk1 hS => ?_)
            obtain ⟨hP1, hK1, hD1⟩ := hB
            rw [ht] at hP1
            rw [hw]
            obtain ⟨hP, hD⟩ := va_join (wr := (([] : List Nat).map (fun i => ((dw_W h q g hp qp gp tq tg tn tx I A M MB L)).getD i (0, .inr (0, []))))) (w1 := (dw_W h q g hp qp gp tq tg tn tx I1 A1 M1 MB1 L1)) hP hD [0, 1, 2, 3, 4, 5, 6, 7, 8, 9, 10] [] rfl rfl (by decide) (by decide) hk1 hFc hP1 hD1
            generalize H1 = H at hP hS ⊢
            have hP := hP.sub (ws' := (dw_W h q g hp qp gp tq tg tn tx I1 A1 M1 MB1 L1)) [0, 1, 2, 3, 4, 5, 6, 7, 8, 9, 10] rfl
            have hD := hD.sub (ws' := (dw_W h q g hp qp gp tq tg tn tx I1 A1 M1 MB1 L1)) [0, 1, 2, 3, 4, 5, 6, 7, 8, 9, 10] (by decide) rfl
            obtain ⟨e0, e1, e2, e3, e4, e5, e6⟩ := wk_inj6 hf
            subst e1
            subst e2
            subst e3
            subst e4
            subst e5
            subst e6
            exact W.iret (v := r1) hx hb hr (fun t ht hW => ⟨⟨r1, (), rfl, rfl, by rw [ht]; exact hP, va_K.moved hW.alike hK, hD⟩, hS.F ht⟩) hS.2.2 d_D_line_60
          ·
            have hf := wk_iff ht1 hf
            by_cases hq1_2 : tg1 = 2
            ·
              have hf := wk_ift hq1_2 hf
              exact (wk_tag (by decide) hf).elim
            ·
              have hf := wk_iff hq1_2 hf
              cases hf
      ·
        have hf := wk_iff hc3 hf
        by_cases hc4 : k1 = 3
        ·
          have hf := wk_ift hc4 hf
          refine wk_top (w := .int 3) (congrArg _ hc4) ?_
          refine lv_tableIn (off := 60) (tgt := 61) hx hb d_D_line_1 (by decide) (by decide) (by decide) (by decide) ?_
          refine lv_aload_n hx hb d_D_line_61 rfl (lv_at hl 0 rfl) ?_
          refine lv_aload_n hx hb d_D_line_62 rfl (lv_at hl 0 rfl) ?_
          refine lv_iload_n hx hb d_D_line_63 rfl (lv_at hl 2 rfl) ?_
          have hPc := hP.sub (ws' := (dw_W h q g hp qp gp tq tg tn tx I A M MB L)) [0, 1, 2, 3, 4, 5, 6, 7, 8, 9, 10] rfl
          have hDc := hD.sub (ws' := (dw_W h q g hp qp gp tq tg tn tx I A M MB L)) [0, 1, 2, 3, 4, 5, 6, 7, 8, 9, 10] (by decide) rfl
          have hKc := hK.sub (tys' := (dw_T h q g hp qp gp tq tg tn tx)) [0, 1, 2, 3, 4, 5, 6, 7, 8] rfl
          have hFc := va_free (wc := (dw_W h q g hp qp gp tq tg tn tx I A M MB L)) hD hS hA [0, 1, 2, 3, 4, 5, 6, 7, 8, 9, 10] rfl
          cases hg1 : f_D_lineBegin tn tx I A M MB L k2 with
          | none => rw [hg1] at hf; cases hf
          | some z1 =>
            obtain ⟨tg1, r1, I1, A1, M1, MB1, L1⟩ := z1
            rw [hg1] at hf
            dsimp only [Option.bind_some] at hf
            by_cases ht1 : tg1 = 0
            ·
              have hf := wk_ift ht1 hf
              rw [ht1] at hg1
              refine va_calli (va_runV (As := [.int k2]) (rest := [.ref h]) ⟨hx, hb, hml, hown, hts⟩ (cm_D_lineBegin l dC dI h q g hp qp gp tq tg tn tx _  I A M MB L k2 r1 I1 A1 M1 MB1 L1 hg1) (cwV 1 hts (gd_v lk_475 lk_476 lk_477 lk_445 lk_474) rfl rfl rfl (by decide +kernel) ⟨Nat.le_of_ble_eq_true rfl, Nat.le_of_ble_eq_true rfl⟩) ⟨fun a U g mk q => by obtain ⟨q0, q1, qP, qK, qD⟩ := q; exact ⟨q0, q1, qP, va_K.moved (u := U) (U := U.calling g mk a) (Vm.Alike.refl U.vm) qK, qD⟩, va_recv (ci := 0) (q0 := 0) hK hP rfl rfl, fun U hU hW => ⟨rfl, by rw [hU], by rw [hU]; exact hPc, va_K.moved hW.alike hKc, hDc.weaken (fun _ _ _ _ => trivial)⟩⟩ rfl rfl hl.1 rfl (lv_room (Nat.le_of_ble_eq_true rfl)) d_D_line_64 ⟨Nat.le_of_ble_eq_true rfl, Nat.le_of_ble_eq_true rfl⟩) hS (fun q _ h => hFc q h) hFc (fun r9 u t H1 locs ht hvm hw hB hz1 hk1 hS => ?_)
              obtain ⟨hP1, hK1, hD1⟩ := hB
              rw [ht] at hP1
              rw [hw]
              obtain ⟨hP, hD⟩ := va_join (wr := (([] : List Nat).map (fun i => ((dw_W h q g hp qp gp tq tg tn tx I A M MB L)).getD i (0, .inr (0, []))))) (w1 := (dw_W h q g hp qp gp tq tg tn tx I1 A1 M1 MB1 L1)) hP hD [0, 1, 2, 3, 4, 5, 6, 7, 8, 9, 10] [] rfl rfl (by decide) (by decide) hk1 hFc hP1 hD1
              generalize H1 = H at hP hS ⊢
              have hP := hP.sub (ws' := (dw_W h q g hp qp gp tq tg tn tx I1 A1 M1 MB1 L1)) [0, 1, 2, 3, 4, 5, 6, 7, 8, 9, 10] rfl
              have hD := hD.sub (ws' := (dw_W h q g hp qp gp tq tg tn tx I1 A1 M1 MB1 L1)) [0, 1, 2, 3, 4, 5, 6, 7, 8, 9, 10] (by decide) rfl
              have hPc := hP.sub (ws' := (dw_W h q g hp qp gp tq tg tn tx I1 A1 M1 MB1 L1)) [0, 1, 2, 3, 4, 5, 6, 7, 8, 9, 10] rfl
              have hDc := hD.sub (ws' := (dw_W h q g hp qp gp tq tg tn tx I1 A1 M1 MB1 L1)) [0, 1, 2, 3, 4, 5, 6, 7, 8, 9, 10] (by decide) rfl
              have hKc := hK.sub (tys' := (dw_T h q g hp qp gp tq tg tn tx)) [0, 1, 2, 3, 4, 5, 6, 7, 8] rfl
              have hFc := va_free (wc := (dw_W h q g hp qp gp tq tg tn tx I1 A1 M1 MB1 L1)) hD hS hA [0, 1, 2, 3, 4, 5, 6, 7, 8, 9, 10] rfl
              cases hg2 : f_D_lineSize tn tx I1 A1 M1 MB1 L1 r1 with
              | none => rw [hg2] at hf; cases hf
              | some z2 =>
                obtain ⟨r2, I2, A2, M2, MB2, L2⟩ := z2
                rw [hg2] at hf
                dsimp only [Option.bind_some] at hf
                refine va_calli (va_runV (As := [.int r1]) (rest := []) ⟨hx, hb, hml, hown, hts⟩ (cm_D_lineSize l dC dI h q g hp qp gp tq tg tn tx _  I1 A1 M1 MB1 L1 r1 r2 I2 A2 M2 MB2 L2 hg2) (cwV 1 hts (gd_v lk_479 lk_480 lk_481 lk_445 lk_478) rfl rfl rfl (by decide +kernel) ⟨Nat.le_of_ble_eq_true rfl, Nat.le_of_ble_eq_true rfl⟩) ⟨fun a U g mk q => by obtain ⟨q0, q1, qP, qK, qD⟩ := q; exact ⟨q0, q1, qP, va_K.moved (u := U) (U := U.calling g mk a) (Vm.Alike.refl U.vm) qK, qD⟩, va_recv (ci := 0) (q0 := 0) hK hP rfl rfl, fun U hU hW => ⟨rfl, by rw [hU], by rw [hU]; exact hPc, va_K.moved hW.alike hKc, hDc.weaken (fun _ _ _ _ => trivial)⟩⟩ rfl rfl hl.1 rfl (lv_room (Nat.le_of_ble_eq_true rfl)) d_D_line_67 ⟨Nat.le_of_ble_eq_true rfl, Nat.le_of_ble_eq_true rfl⟩) hS (fun q _ h => hFc q h) hFc (fun r9 u t H1 locs ht hvm hw hB hz1 hk1 hS => ?_)
                obtain ⟨hP1, hK1, hD1⟩ := hB
                rw [ht] at hP1
                rw [hw]
                obtain ⟨hP, hD⟩ := va_join (wr := (([] : List Nat).map (fun i => ((dw_W h q g hp qp gp tq tg tn tx I1 A1 M1 MB1 L1)).getD i (0, .inr (0, []))))) (w1 := (dw_W h q g hp qp gp tq tg tn tx I2 A2 M2 MB2 L2)) hP hD [0, 1, 2, 3, 4, 5, 6, 7, 8, 9, 10] [] rfl rfl (by decide) (by decide) hk1 hFc hP1 hD1
                generalize H1 = H at hP hS ⊢
                have hP := hP.sub (ws' := (dw_W h q g hp qp gp tq tg tn tx I2 A2 M2 MB2 L2)) [0, 1, 2, 3, 4, 5, 6, 7, 8, 9, 10] rfl
                have hD := hD.sub (ws' := (dw_W h q g hp qp gp tq tg tn tx I2 A2 M2 MB2 L2)) [0, 1, 2, 3, 4, 5, 6, 7, 8, 9, 10] (by decide) rfl
                obtain ⟨e0, e1, e2, e3, e4, e5, e6⟩ := wk_inj6 hf
                subst e1
                subst e2
                subst e3
                subst e4
                subst e5
                subst e6
                exact W.iret (v := r2) hx hb hr (fun t ht hW => ⟨⟨r2, (), rfl, rfl, by rw [ht]; exact hP, va_K.moved hW.alike hK, hD⟩, hS.F ht⟩) hS.2.2 d_D_line_70
            ·
              have hf := wk_iff ht1 hf
              by_cases hq1_2 : tg1 = 2
              ·
                have hf := wk_ift hq1_2 hf
                exact (wk_tag (by decide) hf).elim
              ·
                have hf := wk_iff hq1_2 hf
                cases hf
        ·
          have hf := wk_iff hc4 hf
          have nhc1 : ¬ (k1).toInt = 0 := fun z => hc1 ((wk_eq 0 (by decide)).mpr z)
          have nhc2 : ¬ (k1).toInt = 1 := fun z => hc2 ((wk_eq 1 (by decide)).mpr z)
          have nhc3 : ¬ (k1).toInt = 2 := fun z => hc3 ((wk_eq 2 (by decide)).mpr z)
          have nhc4 : ¬ (k1).toInt = 3 := fun z => hc4 ((wk_eq 3 (by decide)).mpr z)
          refine lv_tableOut (tgt := 71) hx hb d_D_line_1 (by omega) (by decide) ?_
          exact (wk_tag (by decide) hf).elim
set_option maxHeartbeats 8000000 in
set_option maxRecDepth 100000 in
theorem ct_D_line_2 (l : Launch) (hfl : l.flags = flags0) (dC : Nat → ClassId) (dI : Nat → Nat → Nat) (h : Nat) (q : Nat → Nat) (g : Nat → ClassId) (hp : Nat) (qp : Nat → Nat) (gp : Nat → ClassId) (tq : Nat) (tg : ClassId) (tn : Nat) (tx : Nat → Int32) (sz : Nat) (I : MI) (A : MA) (M : MI) (MB : MA) (L : ML) (k1 : Int32) (k2 : Int32) (r : Int32) (I' : MI) (A' : MA) (M' : MI) (MB' : MA) (L' : ML) (hf : f_D_line tn tx I A M MB L  k1 k2 = some (2, r, I', A', M', MB', L')) : th_Met l y_D_line w_D_line ({ frames := 7, cells := 1, slots := 6, locals := 104 }) (va_Pc [.ref h, .int k1, .int k2] (fun U => U.heap.size = sz ∧ va_P (dC, dI) vwCl (dw_W h q g hp qp gp tq tg tn tx I A M MB L) U.heap ∧ va_K (dC, dI) vwCl (dw_T h q g hp qp gp tq tg tn tx) U ∧ va_D (fun _ => True) (dw_W h q g hp qp gp tq tg tn tx I A M MB L) ∧ th_ZA (va_A (dw_W h q g hp qp gp tq tg tn tx I A M MB L) sz) U)) (th_Qw "java/lang/IndexOutOfBoundsException" (fun t => va_P (dC, dI) vwCl (dw_W h q g hp qp gp tq tg tn tx I' A' M' MB' L') t.heap ∧ va_K (dC, dI) vwCl (dw_T h q g hp qp gp tq tg tn tx) t ∧ va_D (va_A (dw_W h q g hp qp gp tq tg tn tx I A M MB L) sz) (dw_W h q g hp qp gp tq tg tn tx I' A' M' MB' L')) (va_A (dw_W h q g hp qp gp tq tg tn tx I A M MB L) sz)) 1 6 (va_A (dw_W h q g hp qp gp tq tg tn tx I A M MB L) sz) := by
  refine th_Met.ofW (cc := prog_1_method_16_code) (maxL := 3) (ret := (some .int)) (by decide) rfl ?_
  intro p e s m args below meth c s₁ B hml hnh hv
  obtain ⟨rfl, hsz, hP, hK, hD0, hZ⟩ := hv
  have hx := B.exec
  have hb := B.bytes
  have hr := B.returns
  have hts := atoms_spec (ws := w_D_line) B.pre
  have hown : s.vm.findClass "DraftTree" = some m.cls := findClass_of_methodNamed B.named
  have hlocks := B.notSynchronized
  have htr := Launch.traces_off hfl B.admits
  subst hsz
  have hD := hD0.self (sz := s.heap.size)
  generalize hAe : va_A (dw_W h q g hp qp gp tq tg tn tx I A M MB L) s.heap.size = B9 at hD hZ ⊢
  have hA : ∀ q : Nat, s.heap.size ≤ q → B9 q := fun q h => by rw [← hAe]; exact Or.inr h
  clear hAe
  have hS : va_S B9 s.heap s.heap [] := va_S.rf
  have hl := lv_entry ([.ref h, .int k1, .int k2]) (n := 3) (Nat.le_of_ble_eq_true rfl)
  rw [lg_entry_eq]
  generalize (lg_sl ([.ref h, .int k1, .int k2]) ++ List.replicate (3 - (lg_sl ([.ref h, .int k1, .int k2])).length) Slot.unset).toArray = ls at hl ⊢
  have hl : lv_has ls 3 [(0, .ref h), (1, .int k1), (2, .int k2)] := hl
  unfold f_D_line at hf
  refine lv_iload_n hx hb d_D_line_0 rfl (lv_at hl 1 rfl) ?_
  by_cases hc1 : k1 = 0
  ·
    have hf := wk_ift hc1 hf
    refine wk_top (w := .int 0) (congrArg _ hc1) ?_
    refine lv_tableIn (off := 31) (tgt := 32) hx hb d_D_line_1 (by decide) (by decide) (by decide) (by decide) ?_
    refine lv_aload_n hx hb d_D_line_32 rfl (lv_at hl 0 rfl) ?_
    refine lv_aload_n hx hb d_D_line_33 rfl (lv_at hl 0 rfl) ?_
    refine va_get (D := (dC, dI)) (ci := 0) (v := .ref tq) (C := R_D) (T := F_D) (N := 14) hx hb hts (fun w h => List.mem_cons_of_mem _ (in_D w h)) hown hK hP 0 rfl rfl 5 (by decide) (hts _ (List.mem_cons_of_mem _ lk_242)) (fun _ h9 => h9) rfl d_D_line_34 ?_
    refine va_alen (v := (Int32.ofNat tn)) hx hb hK hP 10 8 rfl rfl rfl d_D_line_37 ?_
    have hPc := hP.sub (ws' := (dw_W h q g hp qp gp tq tg tn tx I A M MB L)) [0, 1, 2, 3, 4, 5, 6, 7, 8, 9, 10] rfl
    have hDc := hD.sub (ws' := (dw_W h q g hp qp gp tq tg tn tx I A M MB L)) [0, 1, 2, 3, 4, 5, 6, 7, 8, 9, 10] (by decide) rfl
    have hKc := hK.sub (tys' := (dw_T h q g hp qp gp tq tg tn tx)) [0, 1, 2, 3, 4, 5, 6, 7, 8] rfl
    have hFc := va_free (wc := (dw_W h q g hp qp gp tq tg tn tx I A M MB L)) hD hS hA [0, 1, 2, 3, 4, 5, 6, 7, 8, 9, 10] rfl
    cases hg1 : f_D_breaksBefore tn tx I A M MB L (Int32.ofNat tn) with
    | none => rw [hg1] at hf; cases hf
    | some z1 =>
      obtain ⟨r1, I1, A1, M1, MB1, L1⟩ := z1
      rw [hg1] at hf
      dsimp only [Option.bind_some] at hf
      refine va_calli (va_runV (As := [.int (Int32.ofNat tn)]) (rest := []) ⟨hx, hb, hml, hown, hts⟩ (cm_D_breaksBefore l dC dI h q g hp qp gp tq tg tn tx _  I A M MB L (Int32.ofNat tn) r1 I1 A1 M1 MB1 L1 hg1) (cwV 1 hts (gd_v lk_471 lk_472 lk_473 lk_445 lk_246) rfl rfl rfl (by decide +kernel) ⟨Nat.le_of_ble_eq_true rfl, Nat.le_of_ble_eq_true rfl⟩) ⟨fun a U g mk q => by obtain ⟨q0, q1, qP, qK, qD⟩ := q; exact ⟨q0, q1, qP, va_K.moved (u := U) (U := U.calling g mk a) (Vm.Alike.refl U.vm) qK, qD⟩, va_recv (ci := 0) (q0 := 0) hK hP rfl rfl, fun U hU hW => ⟨rfl, by rw [hU], by rw [hU]; exact hPc, va_K.moved hW.alike hKc, hDc.weaken (fun _ _ _ _ => trivial)⟩⟩ rfl rfl hl.1 rfl (lv_room (Nat.le_of_ble_eq_true rfl)) d_D_line_38 ⟨Nat.le_of_ble_eq_true rfl, Nat.le_of_ble_eq_true rfl⟩) hS (fun q _ h => hFc q h) hFc (fun r9 u t H1 locs ht hvm hw hB hz1 hk1 hS => ?_)
      obtain ⟨hP1, hK1, hD1⟩ := hB
      rw [ht] at hP1
      rw [hw]
      obtain ⟨hP, hD⟩ := va_join (wr := (([] : List Nat).map (fun i => ((dw_W h q g hp qp gp tq tg tn tx I A M MB L)).getD i (0, .inr (0, []))))) (w1 := (dw_W h q g hp qp gp tq tg tn tx I1 A1 M1 MB1 L1)) hP hD [0, 1, 2, 3, 4, 5, 6, 7, 8, 9, 10] [] rfl rfl (by decide) (by decide) hk1 hFc hP1 hD1
      generalize H1 = H at hP hS ⊢
      have hP := hP.sub (ws' := (dw_W h q g hp qp gp tq tg tn tx I1 A1 M1 MB1 L1)) [0, 1, 2, 3, 4, 5, 6, 7, 8, 9, 10] rfl
      have hD := hD.sub (ws' := (dw_W h q g hp qp gp tq tg tn tx I1 A1 M1 MB1 L1)) [0, 1, 2, 3, 4, 5, 6, 7, 8, 9, 10] (by decide) rfl
      refine lv_iconst (v := 1) hx hb d_D_line_41 (by decide) ?_
      refine lv_iadd hx hb d_D_line_42 ?_
      exact (wk_tag (by decide) hf).elim
  ·
    have hf := wk_iff hc1 hf
    by_cases hc2 : k1 = 1
    ·
      have hf := wk_ift hc2 hf
      refine wk_top (w := .int 1) (congrArg _ hc2) ?_
      refine lv_tableIn (off := 43) (tgt := 44) hx hb d_D_line_1 (by decide) (by decide) (by decide) (by decide) ?_
      refine lv_aload_n hx hb d_D_line_44 rfl (lv_at hl 0 rfl) ?_
      refine lv_iload_n hx hb d_D_line_45 rfl (lv_at hl 2 rfl) ?_
      have hPc := hP.sub (ws' := (dw_W h q g hp qp gp tq tg tn tx I A M MB L)) [0, 1, 2, 3, 4, 5, 6, 7, 8, 9, 10] rfl
      have hDc := hD.sub (ws' := (dw_W h q g hp qp gp tq tg tn tx I A M MB L)) [0, 1, 2, 3, 4, 5, 6, 7, 8, 9, 10] (by decide) rfl
      have hKc := hK.sub (tys' := (dw_T h q g hp qp gp tq tg tn tx)) [0, 1, 2, 3, 4, 5, 6, 7, 8] rfl
      have hFc := va_free (wc := (dw_W h q g hp qp gp tq tg tn tx I A M MB L)) hD hS hA [0, 1, 2, 3, 4, 5, 6, 7, 8, 9, 10] rfl
      cases hg1 : f_D_requirePlace tn tx I A M MB L k2 with
      | none => rw [hg1] at hf; cases hf
      | some z1 =>
        obtain ⟨tg1, r1, I1, A1, M1, MB1, L1⟩ := z1
        rw [hg1] at hf
        dsimp only [Option.bind_some] at hf
        by_cases ht1 : tg1 = 0
        ·
          have hf := wk_ift ht1 hf
          rw [ht1] at hg1
          refine va_callv (va_runV (As := [.int k2]) (rest := []) ⟨hx, hb, hml, hown, hts⟩ (cm_D_requirePlace l dC dI h q g hp qp gp tq tg tn tx _  I A M MB L k2 r1 I1 A1 M1 MB1 L1 hg1) (cwV 1 hts (gd_v lk_442 lk_443 lk_444 lk_445 lk_441) rfl rfl rfl (by decide +kernel) ⟨Nat.le_of_ble_eq_true rfl, Nat.le_of_ble_eq_true rfl⟩) ⟨fun a U g mk q => by obtain ⟨q0, q1, qP, qK, qD⟩ := q; exact ⟨q0, q1, qP, va_K.moved (u := U) (U := U.calling g mk a) (Vm.Alike.refl U.vm) qK, qD⟩, va_recv (ci := 0) (q0 := 0) hK hP rfl rfl, fun U hU hW => ⟨rfl, by rw [hU], by rw [hU]; exact hPc, va_K.moved hW.alike hKc, hDc.weaken (fun _ _ _ _ => trivial)⟩⟩ rfl rfl hl.1 rfl (lv_room (Nat.le_of_ble_eq_true rfl)) d_D_line_46 ⟨Nat.le_of_ble_eq_true rfl, Nat.le_of_ble_eq_true rfl⟩) hS (fun q _ h => hFc q h) hFc (fun u t H1 locs ht hvm hw hB hz1 hk1 hS => ?_)
          obtain ⟨hP1, hK1, hD1⟩ := hB
          rw [ht] at hP1
          obtain ⟨hP, hD⟩ := va_join (wr := (([] : List Nat).map (fun i => ((dw_W h q g hp qp gp tq tg tn tx I A M MB L)).getD i (0, .inr (0, []))))) (w1 := (dw_W h q g hp qp gp tq tg tn tx I1 A1 M1 MB1 L1)) hP hD [0, 1, 2, 3, 4, 5, 6, 7, 8, 9, 10] [] rfl rfl (by decide) (by decide) hk1 hFc hP1 hD1
          generalize H1 = H at hP hS ⊢
          have hP := hP.sub (ws' := (dw_W h q g hp qp gp tq tg tn tx I1 A1 M1 MB1 L1)) [0, 1, 2, 3, 4, 5, 6, 7, 8, 9, 10] rfl
          have hD := hD.sub (ws' := (dw_W h q g hp qp gp tq tg tn tx I1 A1 M1 MB1 L1)) [0, 1, 2, 3, 4, 5, 6, 7, 8, 9, 10] (by decide) rfl
          refine lv_aload_n hx hb d_D_line_49 rfl (lv_at hl 0 rfl) ?_
          refine lv_iload_n hx hb d_D_line_50 rfl (lv_at hl 2 rfl) ?_
          have hPc := hP.sub (ws' := (dw_W h q g hp qp gp tq tg tn tx I1 A1 M1 MB1 L1)) [0, 1, 2, 3, 4, 5, 6, 7, 8, 9, 10] rfl
          have hDc := hD.sub (ws' := (dw_W h q g hp qp gp tq tg tn tx I1 A1 M1 MB1 L1)) [0, 1, 2, 3, 4, 5, 6, 7, 8, 9, 10] (by decide) rfl
          have hKc := hK.sub (tys' := (dw_T h q g hp qp gp tq tg tn tx)) [0, 1, 2, 3, 4, 5, 6, 7, 8] rfl
          have hFc := va_free (wc := (dw_W h q g hp qp gp tq tg tn tx I1 A1 M1 MB1 L1)) hD hS hA [0, 1, 2, 3, 4, 5, 6, 7, 8, 9, 10] rfl
          cases hg2 : f_D_breaksBefore tn tx I1 A1 M1 MB1 L1 k2 with
          | none => rw [hg2] at hf; cases hf
          | some z2 =>
            obtain ⟨r2, I2, A2, M2, MB2, L2⟩ := z2
            rw [hg2] at hf
            dsimp only [Option.bind_some] at hf
            refine va_calli (va_runV (As := [.int k2]) (rest := []) ⟨hx, hb, hml, hown, hts⟩ (cm_D_breaksBefore l dC dI h q g hp qp gp tq tg tn tx _  I1 A1 M1 MB1 L1 k2 r2 I2 A2 M2 MB2 L2 hg2) (cwV 1 hts (gd_v lk_471 lk_472 lk_473 lk_445 lk_246) rfl rfl rfl (by decide +kernel) ⟨Nat.le_of_ble_eq_true rfl, Nat.le_of_ble_eq_true rfl⟩) ⟨fun a U g mk q => by obtain ⟨q0, q1, qP, qK, qD⟩ := q; exact ⟨q0, q1, qP, va_K.moved (u := U) (U := U.calling g mk a) (Vm.Alike.refl U.vm) qK, qD⟩, va_recv (ci := 0) (q0 := 0) hK hP rfl rfl, fun U hU hW => ⟨rfl, by rw [hU], by rw [hU]; exact hPc, va_K.moved hW.alike hKc, hDc.weaken (fun _ _ _ _ => trivial)⟩⟩ rfl rfl hl.1 rfl (lv_room (Nat.le_of_ble_eq_true rfl)) d_D_line_51 ⟨Nat.le_of_ble_eq_true rfl, Nat.le_of_ble_eq_true rfl⟩) hS (fun q _ h => hFc q h) hFc (fun r9 u t H1 locs ht hvm hw hB hz1 hk1 hS => ?_)
            obtain ⟨hP1, hK1, hD1⟩ := hB
            rw [ht] at hP1
            rw [hw]
            obtain ⟨hP, hD⟩ := va_join (wr := (([] : List Nat).map (fun i => ((dw_W h q g hp qp gp tq tg tn tx I1 A1 M1 MB1 L1)).getD i (0, .inr (0, []))))) (w1 := (dw_W h q g hp qp gp tq tg tn tx I2 A2 M2 MB2 L2)) hP hD [0, 1, 2, 3, 4, 5, 6, 7, 8, 9, 10] [] rfl rfl (by decide) (by decide) hk1 hFc hP1 hD1
            generalize H1 = H at hP hS ⊢
            have hP := hP.sub (ws' := (dw_W h q g hp qp gp tq tg tn tx I2 A2 M2 MB2 L2)) [0, 1, 2, 3, 4, 5, 6, 7, 8, 9, 10] rfl
            have hD := hD.sub (ws' := (dw_W h q g hp qp gp tq tg tn tx I2 A2 M2 MB2 L2)) [0, 1, 2, 3, 4, 5, 6, 7, 8, 9, 10] (by decide) rfl
            exact (wk_tag (by decide) hf).elim
        ·
          have hf := wk_iff ht1 hf
          by_cases hq1_2 : tg1 = 2
          ·
            have hf := wk_ift hq1_2 hf
            rw [hq1_2] at hg1
            obtain ⟨e0, e1, e2, e3, e4, e5, e6⟩ := wk_inj6 hf
            subst e1
            subst e2
            subst e3
            subst e4
            subst e5
            subst e6
            refine th_passG (A1 := va_A (dw_W h q g hp qp gp tq tg tn tx I A M MB L) _) (th_runV (As := [.int k2]) (rest := []) ⟨hx, hb, hml, hown, hts⟩ (ct_D_requirePlace_2 l hfl dC dI h q g hp qp gp tq tg tn tx _  I A M MB L k2 r1 I1 A1 M1 MB1 L1 hg1) (cwV 1 hts (gd_v lk_442 lk_443 lk_444 lk_445 lk_441) rfl rfl rfl (by decide +kernel) ⟨Nat.le_of_ble_eq_true rfl, Nat.le_of_ble_eq_true rfl⟩) ⟨fun a U g mk q => by obtain ⟨q0, q1, qP, qK, qD, qZ⟩ := q; exact ⟨q0, q1, qP, va_K.moved (u := U) (U := U.calling g mk a) (Vm.Alike.refl U.vm) qK, qD, th_ZA.calling qZ⟩, va_recv (ci := 0) (q0 := 0) hK hP rfl rfl, fun U hU hW => ⟨rfl, by rw [hU], by rw [hU]; exact hPc, va_K.moved hW.alike hKc, hDc.weaken (fun _ _ _ _ => trivial), th_ZA.to hZ hS hU hW hFc⟩⟩ rfl rfl hl.1 rfl (lv_room (Nat.le_of_ble_eq_true rfl)) d_D_line_46 ⟨Nat.le_of_ble_eq_true rfl, Nat.le_of_ble_eq_true rfl⟩) hnh hlocks hS hFc (Nat.le_of_ble_eq_true rfl) (Nat.le_of_ble_eq_true rfl) (fun t hal hb1 hz1 hk1 u hu hau => ?_)
            obtain ⟨hP1, hK1, hD1⟩ := hb1
            obtain ⟨hP, hD⟩ := va_join (wr := (([] : List Nat).map (fun i => ((dw_W h q g hp qp gp tq tg tn tx I A M MB L)).getD i (0, .inr (0, []))))) (w1 := (dw_W h q g hp qp gp tq tg tn tx I1 A1 M1 MB1 L1)) hP hD [0, 1, 2, 3, 4, 5, 6, 7, 8, 9, 10] [] rfl rfl (by decide) (by decide) hk1 hFc hP1 hD1
            exact ⟨by rw [hu]; exact hP.sub (ws' := (dw_W h q g hp qp gp tq tg tn tx I1 A1 M1 MB1 L1)) [0, 1, 2, 3, 4, 5, 6, 7, 8, 9, 10] rfl, va_K.moved hau hK, hD.sub (ws' := (dw_W h q g hp qp gp tq tg tn tx I1 A1 M1 MB1 L1)) [0, 1, 2, 3, 4, 5, 6, 7, 8, 9, 10] (by decide) rfl⟩
          ·
            have hf := wk_iff hq1_2 hf
            cases hf
    ·
      have hf := wk_iff hc2 hf
      by_cases hc3 : k1 = 2
      ·
        have hf := wk_ift hc3 hf
        refine wk_top (w := .int 2) (congrArg _ hc3) ?_
        refine lv_tableIn (off := 54) (tgt := 55) hx hb d_D_line_1 (by decide) (by decide) (by decide) (by decide) ?_
        refine lv_aload_n hx hb d_D_line_55 rfl (lv_at hl 0 rfl) ?_
        refine lv_iload_n hx hb d_D_line_56 rfl (lv_at hl 2 rfl) ?_
        have hPc := hP.sub (ws' := (dw_W h q g hp qp gp tq tg tn tx I A M MB L)) [0, 1, 2, 3, 4, 5, 6, 7, 8, 9, 10] rfl
        have hDc := hD.sub (ws' := (dw_W h q g hp qp gp tq tg tn tx I A M MB L)) [0, 1, 2, 3, 4, 5, 6, 7, 8, 9, 10] (by decide) rfl
        have hKc := hK.sub (tys' := (dw_T h q g hp qp gp tq tg tn tx)) [0, 1, 2, 3, 4, 5, 6, 7, 8] rfl
        have hFc := va_free (wc := (dw_W h q g hp qp gp tq tg tn tx I A M MB L)) hD hS hA [0, 1, 2, 3, 4, 5, 6, 7, 8, 9, 10] rfl
        cases hg1 : f_D_lineBegin tn tx I A M MB L k2 with
        | none => rw [hg1] at hf; cases hf
        | some z1 =>
          obtain ⟨tg1, r1, I1, A1, M1, MB1, L1⟩ := z1
          rw [hg1] at hf
          dsimp only [Option.bind_some] at hf
          by_cases ht1 : tg1 = 0
          ·
            have hf := wk_ift ht1 hf
            rw [ht1] at hg1
            refine va_calli (va_runV (As := [.int k2]) (rest := []) ⟨hx, hb, hml, hown, hts⟩ (cm_D_lineBegin l dC dI h q g hp qp gp tq tg tn tx _  I A M MB L k2 r1 I1 A1 M1 MB1 L1 hg1) (cwV 1 hts (gd_v lk_475 lk_476 lk_477 lk_445 lk_474) rfl rfl rfl (by decide +kernel) ⟨Nat.le_of_ble_eq_true rfl, Nat.le_of_ble_eq_true rfl⟩) ⟨fun a U g mk q => by obtain ⟨q0, q1, qP, qK, qD⟩ := q; exact ⟨q0, q1, qP, va_K.moved (u := U) (U := U.calling g mk a) (Vm.Alike.refl U.vm) qK, qD⟩, va_recv (ci := 0) (q0 := 0) hK hP rfl rfl, fun U hU hW => ⟨rfl, by rw [hU], by rw [hU]; exact hPc, va_K.moved hW.alike hKc, hDc.weaken (fun _ _ _ _ => trivial)⟩⟩ rfl rfl hl.1 rfl (lv_room (Nat.le_of_ble_eq_true rfl)) d_D_line_57 ⟨Nat.le_of_ble_eq_true rfl, Nat.le_of_ble_eq_true rfl⟩) hS (fun q _ h => hFc q h) hFc (fun r9 u t H1 locs ht hvm hw hB hz1 hk1 hS => ?_)
            obtain ⟨hP1, hK1, hD1⟩ := hB
            rw [ht] at hP1
            rw [hw]
            obtain ⟨hP, hD⟩ := va_join (wr := (([] : List Nat).map (fun i => ((dw_W h q g hp qp gp tq tg tn tx I A M MB L)).getD i (0, .inr (0, []))))) (w1 := (dw_W h q g hp qp gp tq tg tn tx I1 A1 M1 MB1 L1)) hP hD [0, 1, 2, 3, 4, 5, 6, 7, 8, 9, 10] [] rfl rfl (by decide) (by decide) hk1 hFc hP1 hD1
            generalize H1 = H at hP hS ⊢
            have hP := hP.sub (ws' := (dw_W h q g hp qp gp tq tg tn tx I1 A1 M1 MB1 L1)) [0, 1, 2, 3, 4, 5, 6, 7, 8, 9, 10] rfl
            have hD := hD.sub (ws' := (dw_W h q g hp qp gp tq tg tn tx I1 A1 M1 MB1 L1)) [0, 1, 2, 3, 4, 5, 6, 7, 8, 9, 10] (by decide) rfl
            exact (wk_tag (by decide) hf).elim
          ·
            have hf := wk_iff ht1 hf
            by_cases hq1_2 : tg1 = 2
            ·
              have hf := wk_ift hq1_2 hf
              rw [hq1_2] at hg1
              obtain ⟨e0, e1, e2, e3, e4, e5, e6⟩ := wk_inj6 hf
              subst e1
              subst e2
              subst e3
              subst e4
              subst e5
              subst e6
              refine th_passG (A1 := va_A (dw_W h q g hp qp gp tq tg tn tx I A M MB L) _) (th_runV (As := [.int k2]) (rest := []) ⟨hx, hb, hml, hown, hts⟩ (ct_D_lineBegin_2 l hfl dC dI h q g hp qp gp tq tg tn tx _  I A M MB L k2 r1 I1 A1 M1 MB1 L1 hg1) (cwV 1 hts (gd_v lk_475 lk_476 lk_477 lk_445 lk_474) rfl rfl rfl (by decide +kernel) ⟨Nat.le_of_ble_eq_true rfl, Nat.le_of_ble_eq_true rfl⟩) ⟨fun a U g mk q => by obtain ⟨q0, q1, qP, qK, qD, qZ⟩ := q; exact ⟨q0, q1, qP, va_K.moved (u := U) (U := U.calling g mk a) (Vm.Alike.refl U.vm) qK, qD, th_ZA.calling qZ⟩, va_recv (ci := 0) (q0 := 0) hK hP rfl rfl, fun U hU hW => ⟨rfl, by rw [hU], by rw [hU]; exact hPc, va_K.moved hW.alike hKc, hDc.weaken (fun _ _ _ _ => trivial), th_ZA.to hZ hS hU hW hFc⟩⟩ rfl rfl hl.1 rfl (lv_room (Nat.le_of_ble_eq_true rfl)) d_D_line_57 ⟨Nat.le_of_ble_eq_true rfl, Nat.le_of_ble_eq_true rfl⟩) hnh hlocks hS hFc (Nat.le_of_ble_eq_true rfl) (Nat.le_of_ble_eq_true rfl) (fun t hal hb1 hz1 hk1 u hu hau => ?_)
              obtain ⟨hP1, hK1, hD1⟩ := hb1
              obtain ⟨hP, hD⟩ := va_join (wr := (([] : List Nat).map (fun i => ((dw_W h q g hp qp gp tq tg tn tx I A M MB L)).getD i (0, .inr (0, []))))) (w1 := (dw_W h q g hp qp gp tq tg tn tx I1 A1 M1 MB1 L1)) hP hD [0, 1, 2, 3, 4, 5, 6, 7, 8, 9, 10] [] rfl rfl (by decide) (by decide) hk1 hFc hP1 hD1
              exact ⟨by rw [hu]; exact hP.sub (ws' := (dw_W h q g hp qp gp tq tg tn tx I1 A1 M1 MB1 L1)) [0, 1, 2, 3, 4, 5, 6, 7, 8, 9, 10] rfl, va_K.moved hau hK, hD.sub (ws' := (dw_W h q g hp qp gp tq tg tn tx I1 A1 M1 MB1 L1)) [0, 1, 2, 3, 4, 5, 6, 7, 8, 9, 10] (by decide) rfl⟩
            ·
              have hf := wk_iff hq1_2 hf
              cases hf
      ·
        have hf := wk_iff hc3 hf
        by_cases hc4 : k1 = 3
        ·
          have hf := wk_ift hc4 hf
          refine wk_top (w := .int 3) (congrArg _ hc4) ?_
          refine lv_tableIn (off := 60) (tgt := 61) hx hb d_D_line_1 (by decide) (by decide) (by decide) (by decide) ?_
          refine lv_aload_n hx hb d_D_line_61 rfl (lv_at hl 0 rfl) ?_
          refine lv_aload_n hx hb d_D_line_62 rfl (lv_at hl 0 rfl) ?_
          refine lv_iload_n hx hb d_D_line_63 rfl (lv_at hl 2 rfl) ?_
          have hPc := hP.sub (ws' := (dw_W h q g hp qp gp tq tg tn tx I A M MB L)) [0, 1, 2, 3, 4, 5, 6, 7, 8, 9, 10] rfl
          have hDc := hD.sub (ws' := (dw_W h q g hp qp gp tq tg tn tx I A M MB L)) [0, 1, 2, 3, 4, 5, 6, 7, 8, 9, 10] (by decide) rfl
          have hKc := hK.sub (tys' := (dw_T h q g hp qp gp tq tg tn tx)) [0, 1, 2, 3, 4, 5, 6, 7, 8] rfl
          have hFc := va_free (wc := (dw_W h q g hp qp gp tq tg tn tx I A M MB L)) hD hS hA [0, 1, 2, 3, 4, 5, 6, 7, 8, 9, 10] rfl
          cases hg1 : f_D_lineBegin tn tx I A M MB L k2 with
          | none => rw [hg1] at hf; cases hf
          | some z1 =>
            obtain ⟨tg1, r1, I1, A1, M1, MB1, L1⟩ := z1
            rw [hg1] at hf
            dsimp only [Option.bind_some] at hf
            by_cases ht1 : tg1 = 0
            ·
              have hf := wk_ift ht1 hf
              rw [ht1] at hg1
              refine va_calli (va_runV (As := [.int k2]) (rest := [.ref h]) ⟨hx, hb, hml, hown, hts⟩ (cm_D_lineBegin l dC dI h q g hp qp gp tq tg tn tx _  I A M MB L k2 r1 I1 A1 M1 MB1 L1 hg1) (cwV 1 hts (gd_v lk_475 lk_476 lk_477 lk_445 lk_474) rfl rfl rfl (by decide +kernel) ⟨Nat.le_of_ble_eq_true rfl, Nat.le_of_ble_eq_true rfl⟩) ⟨fun a U g mk q => by obtain ⟨q0, q1, qP, qK, qD⟩ := q; exact ⟨q0, q1, qP, va_K.moved (u := U) (U := U.calling g mk a) (Vm.Alike.refl U.vm) qK, qD⟩, va_recv (ci := 0) (q0 := 0) hK hP rfl rfl, fun U hU hW => ⟨rfl, by rw [hU], by rw [hU]; exact hPc, va_K.moved hW.alike hKc, hDc.weaken (fun _ _ _ _ => trivial)⟩⟩ rfl rfl hl.1 rfl (lv_room (Nat.le_of_ble_eq_true rfl)) d_D_line_64 ⟨Nat.le_of_ble_eq_true rfl, Nat.le_of_ble_eq_true rfl⟩) hS (fun q _ h => hFc q h) hFc (fun r9 u t H1 locs ht hvm hw hB hz1 hk1 hS => ?_)
              obtain ⟨hP1, hK1, hD1⟩ := hB
              rw [ht] at hP1
              rw [hw]
              obtain ⟨hP, hD⟩ := va_join (wr := (([] : List Nat).map (fun i => ((dw_W h q g hp qp gp tq tg tn tx I A M MB L)).getD i (0, .inr (0, []))))) (w1 := (dw_W h q g hp qp gp tq tg tn tx I1 A1 M1 MB1 L1)) hP hD [0, 1, 2, 3, 4, 5, 6, 7, 8, 9, 10] [] rfl rfl (by decide) (by decide) hk1 hFc hP1 hD1
              generalize H1 = H at hP hS ⊢
              have hP := hP.sub (ws' := (dw_W h q g hp qp gp tq tg tn tx I1 A1 M1 MB1 L1)) [0, 1, 2, 3, 4, 5, 6, 7, 8, 9, 10] rfl
              have hD := hD.sub (ws' := (dw_W h q g hp qp gp tq tg tn tx I1 A1 M1 MB1 L1)) [0, 1, 2, 3, 4, 5, 6, 7, 8, 9, 10] (by decide) rfl
              have hPc := hP.sub (ws' := (dw_W h q g hp qp gp tq tg tn tx I1 A1 M1 MB1 L1)) [0, 1, 2, 3, 4, 5, 6, 7, 8, 9, 10] rfl
              have hDc := hD.sub (ws' := (dw_W h q g hp qp gp tq tg tn tx I1 A1 M1 MB1 L1)) [0, 1, 2, 3, 4, 5, 6, 7, 8, 9, 10] (by decide) rfl
              have hKc := hK.sub (tys' := (dw_T h q g hp qp gp tq tg tn tx)) [0, 1, 2, 3, 4, 5, 6, 7, 8] rfl
              have hFc := va_free (wc := (dw_W h q g hp qp gp tq tg tn tx I1 A1 M1 MB1 L1)) hD hS hA [0, 1, 2, 3, 4, 5, 6, 7, 8, 9, 10] rfl
              cases hg2 : f_D_lineSize tn tx I1 A1 M1 MB1 L1 r1 with
              | none => rw [hg2] at hf; cases hf
              | some z2 =>
                obtain ⟨r2, I2, A2, M2, MB2, L2⟩ := z2
                rw [hg2] at hf
                dsimp only [Option.bind_some] at hf
                refine va_calli (va_runV (As := [.int r1]) (rest := []) ⟨hx, hb, hml, hown, hts⟩ (cm_D_lineSize l dC dI h q g hp qp gp tq tg tn tx _  I1 A1 M1 MB1 L1 r1 r2 I2 A2 M2 MB2 L2 hg2) (cwV 1 hts (gd_v lk_479 lk_480 lk_481 lk_445 lk_478) rfl rfl rfl (by decide +kernel) ⟨Nat.le_of_ble_eq_true rfl, Nat.le_of_ble_eq_true rfl⟩) ⟨fun a U g mk q => by obtain ⟨q0, q1, qP, qK, qD⟩ := q; exact ⟨q0, q1, qP, va_K.moved (u := U) (U := U.calling g mk a) (Vm.Alike.refl U.vm) qK, qD⟩, va_recv (ci := 0) (q0 := 0) hK hP rfl rfl, fun U hU hW => ⟨rfl, by rw [hU], by rw [hU]; exact hPc, va_K.moved hW.alike hKc, hDc.weaken (fun _ _ _ _ => trivial)⟩⟩ rfl rfl hl.1 rfl (lv_room (Nat.le_of_ble_eq_true rfl)) d_D_line_67 ⟨Nat.le_of_ble_eq_true rfl, Nat.le_of_ble_eq_true rfl⟩) hS (fun q _ h => hFc q h) hFc (fun r9 u t H1 locs ht hvm hw hB hz1 hk1 hS => ?_)
                obtain ⟨hP1, hK1, hD1⟩ := hB
                rw [ht] at hP1
                rw [hw]
                obtain ⟨hP, hD⟩ := va_join (wr := (([] : List Nat).map (fun i => ((dw_W h q g hp qp gp tq tg tn tx I1 A1 M1 MB1 L1)).getD i (0, .inr (0, []))))) (w1 := (dw_W h q g hp qp gp tq tg tn tx I2 A2 M2 MB2 L2)) hP hD [0, 1, 2, 3, 4, 5, 6, 7, 8, 9, 10] [] rfl rfl (by decide) (by decide) hk1 hFc hP1 hD1
                generalize H1 = H at hP hS ⊢
                have hP := hP.sub (ws' := (dw_W h q g hp qp gp tq tg tn tx I2 A2 M2 MB2 L2)) [0, 1, 2, 3, 4, 5, 6, 7, 8, 9, 10] rfl
                have hD := hD.sub (ws' := (dw_W h q g hp qp gp tq tg tn tx I2 A2 M2 MB2 L2)) [0, 1, 2, 3, 4, 5, 6, 7, 8, 9, 10] (by decide) rfl
                exact (wk_tag (by decide) hf).elim
            ·
              have hf := wk_iff ht1 hf
              by_cases hq1_2 : tg1 = 2
              ·
                have hf := wk_ift hq1_2 hf
                rw [hq1_2] at hg1
                obtain ⟨e0, e1, e2, e3, e4, e5, e6⟩ := wk_inj6 hf
                subst e1
                subst e2
                subst e3
                subst e4
                subst e5
                subst e6
                refine th_passG (A1 := va_A (dw_W h q g hp qp gp tq tg tn tx I A M MB L) _) (th_runV (As := [.int k2]) (rest := [.ref h]) ⟨hx, hb, hml, hown, hts⟩ (ct_D_lineBegin_2 l hfl dC dI h q g hp qp gp tq tg tn tx _  I A M MB L k2 r1 I1 A1 M1 MB1 L1 hg1) (cwV 1 hts (gd_v lk_475 lk_476 lk_477 lk_445 lk_474) rfl rfl rfl (by decide +kernel) ⟨Nat.le_of_ble_eq_true rfl, Nat.le_of_ble_eq_true rfl⟩) ⟨fun a U g mk q => by obtain ⟨q0, q1, qP, qK, qD, qZ⟩ := q; exact ⟨q0, q1, qP, va_K.moved (u := U) (U := U.calling g mk a) (Vm.Alike.refl U.vm) qK, qD, th_ZA.calling qZ⟩, va_recv (ci := 0) (q0 := 0) hK hP rfl rfl, fun U hU hW => ⟨rfl, by rw [hU], by rw [hU]; exact hPc, va_K.moved hW.alike hKc, hDc.weaken (fun _ _ _ _ => trivial), th_ZA.to hZ hS hU hW hFc⟩⟩ rfl rfl hl.1 rfl (lv_room (Nat.le_of_ble_eq_true rfl)) d_D_line_64 ⟨Nat.le_of_ble_eq_true rfl, Nat.le_of_ble_eq_true rfl⟩) hnh hlocks hS hFc (Nat.le_of_ble_eq_true rfl) (Nat.le_of_ble_eq_true rfl) (fun t hal hb1 hz1 hk1 u hu hau => ?_)
                obtain ⟨hP1, hK1, hD1⟩ := hb1
                obtain ⟨hP, hD⟩ := va_join (wr := (([] : List Nat).map (fun i => ((dw_W h q g hp qp gp tq tg tn tx I A M MB L)).getD i (0, .inr (0, []))))) (w1 := (dw_W h q g hp qp gp tq tg tn tx I1 A1 M1 MB1 L1)) hP hD [0, 1, 2, 3, 4, 5, 6, 7, 8, 9, 10] [] rfl rfl (by decide) (by decide) hk1 hFc hP1 hD1
                exact ⟨by rw [hu]; exact hP.sub (ws' := (dw_W h q g hp qp gp tq tg tn tx I1 A1 M1 MB1 L1)) [0, 1, 2, 3, 4, 5, 6, 7, 8, 9, 10] rfl, va_K.moved hau hK, hD.sub (ws' := (dw_W h q g hp qp gp tq tg tn tx I1 A1 M1 MB1 L1)) [0, 1, 2, 3, 4, 5, 6, 7, 8, 9, 10] (by decide) rfl⟩
              ·
                have hf := wk_iff hq1_2 hf
                cases hf
        ·
          have hf := wk_iff hc4 hf
          have nhc1 : ¬ (k1).toInt = 0 := fun z => hc1 ((wk_eq 0 (by decide)).mpr z)
          have nhc2 : ¬ (k1).toInt = 1 := fun z => hc2 ((wk_eq 1 (by decide)).mpr z)
          have nhc3 : ¬ (k1).toInt = 2 := fun z => hc3 ((wk_eq 2 (by decide)).mpr z)
          have nhc4 : ¬ (k1).toInt = 3 := fun z => hc4 ((wk_eq 3 (by decide)).mpr z)
          refine lv_tableOut (tgt := 71) hx hb d_D_line_1 (by omega) (by decide) ?_
          exact (wk_tag (by decide) hf).elim
set_option maxHeartbeats 8000000 in
set_option maxRecDepth 100000 in
theorem ct_D_line_3 (l : Launch) (hfl : l.flags = flags0) (dC : Nat → ClassId) (dI : Nat → Nat → Nat) (h : Nat) (q : Nat → Nat) (g : Nat → ClassId) (hp : Nat) (qp : Nat → Nat) (gp : Nat → ClassId) (tq : Nat) (tg : ClassId) (tn : Nat) (tx : Nat → Int32) (sz : Nat) (I : MI) (A : MA) (M : MI) (MB : MA) (L : ML) (k1 : Int32) (k2 : Int32) (r : Int32) (I' : MI) (A' : MA) (M' : MI) (MB' : MA) (L' : ML) (hf : f_D_line tn tx I A M MB L  k1 k2 = some (3, r, I', A', M', MB', L')) : th_Met l y_D_line w_D_line ({ frames := 7, cells := 1, slots := 6, locals := 104 }) (va_Pc [.ref h, .int k1, .int k2] (fun U => U.heap.size = sz ∧ va_P (dC, dI) vwCl (dw_W h q g hp qp gp tq tg tn tx I A M MB L) U.heap ∧ va_K (dC, dI) vwCl (dw_T h q g hp qp gp tq tg tn tx) U ∧ va_D (fun _ => True) (dw_W h q g hp qp gp tq tg tn tx I A M MB L) ∧ th_ZA (va_A (dw_W h q g hp qp gp tq tg tn tx I A M MB L) sz) U)) (th_Qw "java/lang/IllegalArgumentException" (fun t => va_P (dC, dI) vwCl (dw_W h q g hp qp gp tq tg tn tx I' A' M' MB' L') t.heap ∧ va_K (dC, dI) vwCl (dw_T h q g hp qp gp tq tg tn tx) t ∧ va_D (va_A (dw_W h q g hp qp gp tq tg tn tx I A M MB L) sz) (dw_W h q g hp qp gp tq tg tn tx I' A' M' MB' L')) (va_A (dw_W h q g hp qp gp tq tg tn tx I A M MB L) sz)) 1 6 (va_A (dw_W h q g hp qp gp tq tg tn tx I A M MB L) sz) := by
  refine th_Met.ofW (cc := prog_1_method_16_code) (maxL := 3) (ret := (some .int)) (by decide) rfl ?_
  intro p e s m args below meth c s₁ B hml hnh hv
  obtain ⟨rfl, hsz, hP, hK, hD0, hZ⟩ := hv
  have hx := B.exec
  have hb := B.bytes
  have hr := B.returns
  have hts := atoms_spec (ws := w_D_line) B.pre
  have hown : s.vm.findClass "DraftTree" = some m.cls := findClass_of_methodNamed B.named
  have hlocks := B.notSynchronized
  have htr := Launch.traces_off hfl B.admits
  subst hsz
  have hD := hD0.self (sz := s.heap.size)
  generalize hAe : va_A (dw_W h q g hp qp gp tq tg tn tx I A M MB L) s.heap.size = B9 at hD hZ ⊢
  have hA : ∀ q : Nat, s.heap.size ≤ q → B9 q := fun q h => by rw [← hAe]; exact Or.inr h
  clear hAe
  have hS : va_S B9 s.heap s.heap [] := va_S.rf
  have hl := lv_entry ([.ref h, .int k1, .int k2]) (n := 3) (Nat.le_of_ble_eq_true rfl)
  rw [lg_entry_eq]
  generalize (lg_sl ([.ref h, .int k1, .int k2]) ++ List.replicate (3 - (lg_sl ([.ref h, .int k1, .int k2])).length) Slot.unset).toArray = ls at hl ⊢
  have hl : lv_has ls 3 [(0, .ref h), (1, .int k1), (2, .int k2)] := hl
  unfold f_D_line at hf
  refine lv_iload_n hx hb d_D_line_0 rfl (lv_at hl 1 rfl) ?_
  by_cases hc1 : k1 = 0
  ·
    have hf := wk_ift hc1 hf
    refine wk_top (w := .int 0) (congrArg _ hc1) ?_
    refine lv_tableIn (off := 31) (tgt := 32) hx hb d_D_line_1 (by decide) (by decide) (by decide) (by decide) ?_
    refine lv_aload_n hx hb d_D_line_32 rfl (lv_at hl 0 rfl) ?_
    refine lv_aload_n hx hb d_D_line_33 rfl (lv_at hl 0 rfl) ?_
    refine va_get (D := (dC, dI)) (ci := 0) (v := .ref tq) (C := R_D) (T := F_D) (N := 14) hx hb hts (fun w h => List.mem_cons_of_mem _ (in_D w h)) hown hK hP 0 rfl rfl 5 (by decide) (hts _ (List.mem_cons_of_mem _ lk_242)) (fun _ h9 => h9) rfl d_D_line_34 ?_
    refine va_alen (v := (Int32.ofNat tn)) hx hb hK hP 10 8 rfl rfl rfl d_D_line_37 ?_
    have hPc := hP.sub (ws' := (dw_W h q g hp qp gp tq tg tn tx I A M MB L)) [0, 1, 2, 3, 4, 5, 6, 7, 8, 9, 10] rfl
    have hDc := hD.sub (ws' := (dw_W h q g hp qp gp tq tg tn tx I A M MB L)) [0, 1, 2, 3, 4, 5, 6, 7, 8, 9, 10] (by decide) rfl
    have hKc := hK.sub (tys' := (dw_T h q g hp qp gp tq tg tn tx)) [0, 1, 2, 3, 4, 5, 6, 7, 8] rfl
    have hFc := va_free (wc := (dw_W h q g hp qp gp tq tg tn tx I A M MB L)) hD hS hA [0, 1, 2, 3, 4, 5, 6, 7, 8, 9, 10] rfl
    cases hg1 : f_D_breaksBefore tn tx I A M MB L (Int32.ofNat tn) with
    | none => rw [hg1] at hf; cases hf
    | some z1 =>
      obtain ⟨r1, I1, A1, M1, MB1, L1⟩ := z1
      rw [hg1] at hf
      dsimp only [Option.bind_some] at hf
      refine va_calli (va_runV (As := [.int (Int32.ofNat tn)]) (rest := []) ⟨hx, hb, hml, hown, hts⟩ (cm_D_breaksBefore l dC dI h q g hp qp gp tq tg tn tx _  I A M MB L (Int32.ofNat tn) r1 I1 A1 M1 MB1 L1 hg1) (cwV 1 hts (gd_v lk_471 lk_472 lk_473 lk_445 lk_246) rfl rfl rfl (by decide +kernel) ⟨Nat.le_of_ble_eq_true rfl, Nat.le_of_ble_eq_true rfl⟩) ⟨fun a U g mk q => by obtain ⟨q0, q1, qP, qK, qD⟩ := q; exact ⟨q0, q1, qP, va_K.moved (u := U) (U := U.calling g mk a) (Vm.Alike.refl U.vm) qK, qD⟩, va_recv (ci := 0) (q0 := 0) hK hP rfl rfl, fun U hU hW => ⟨rfl, by rw [hU], by rw [hU]; exact hPc, va_K.moved hW.alike hKc, hDc.weaken (fun _ _ _ _ => trivial)⟩⟩ rfl rfl hl.1 rfl (lv_room (Nat.le_of_ble_eq_true rfl)) d_D_line_38 ⟨Nat.le_of_ble_eq_true rfl, Nat.le_of_ble_eq_true rfl⟩) hS (fun q _ h => hFc q h) hFc (fun r9 u t H1 locs ht hvm hw hB hz1 hk1 hS => ?_)
      obtain ⟨hP1, hK1, hD1⟩ := hB
      rw [ht] at hP1
      rw [hw]
      obtain ⟨hP, hD⟩ := va_join (wr := (([] : List Nat).map (fun i => ((dw_W h q g hp qp gp tq tg tn tx I A M MB L)).getD i (0, .inr (0, []))))) (w1 := (dw_W h q g hp qp gp tq tg tn tx I1 A1 M1 MB1 L1)) hP hD [0, 1, 2, 3, 4, 5, 6, 7, 8, 9, 10] [] rfl rfl (by decide) (by decide) hk1 hFc hP1 hD1
      generalize H1 = H at hP hS ⊢
      have hP := hP.sub (ws' := (dw_W h q g hp qp gp tq tg tn tx I1 A1 M1 MB1 L1)) [0, 1, 2, 3, 4, 5, 6, 7, 8, 9, 10] rfl
      have hD := hD.sub (ws' := (dw_W h q g hp qp gp tq tg tn tx I1 A1 M1 MB1 L1)) [0, 1, 2, 3, 4, 5, 6, 7, 8, 9, 10] (by decide) rfl
      refine lv_iconst (v := 1) hx hb d_D_line_41 (by decide) ?_
      refine lv_iadd hx hb d_D_line_42 ?_
      exact (wk_tag (by decide) hf).elim
  ·
    have hf := wk_iff hc1 hf
    by_cases hc2 : k1 = 1
    ·
      have hf := wk_ift hc2 hf
      refine wk_top (w := .int 1) (congrArg _ hc2) ?_
      refine lv_tableIn (off := 43) (tgt := 44) hx hb d_D_line_1 (by decide) (by decide) (by decide) (by decide) ?_
      refine lv_aload_n hx hb d_D_line_44 rfl (lv_at hl 0 rfl) ?_
      refine lv_iload_n hx hb d_D_line_45 rfl (lv_at hl 2 rfl) ?_
      have hPc := hP.sub (ws' := (dw_W h q g hp qp gp tq tg tn tx I A M MB L)) [0, 1, 2, 3, 4, 5, 6, 7, 8, 9, 10] rfl
      have hDc := hD.sub (ws' := (dw_W h q g hp qp gp tq tg tn tx I A M MB L)) [0, 1, 2, 3, 4, 5, 6, 7, 8, 9, 10] (by decide) rfl
      have hKc := hK.sub (tys' := (dw_T h q g hp qp gp tq tg tn tx)) [0, 1, 2, 3, 4, 5, 6, 7, 8] rfl
      have hFc := va_free (wc := (dw_W h q g hp qp gp tq tg tn tx I A M MB L)) hD hS hA [0, 1, 2, 3, 4, 5, 6, 7, 8, 9, 10] rfl
      cases hg1 : f_D_requirePlace tn tx I A M MB L k2 with
      | none => rw [hg1] at hf; cases hf
      | some z1 =>
        obtain ⟨tg1, r1, I1, A1, M1, MB1, L1⟩ := z1
        rw [hg1] at hf
        dsimp only [Option.bind_some] at hf
        by_cases ht1 : tg1 = 0
        ·
          have hf := wk_ift ht1 hf
          rw [ht1] at hg1
          refine va_callv (va_runV (As := [.int k2]) (rest := []) ⟨hx, hb, hml, hown, hts⟩ (cm_D_requirePlace l dC dI h q g hp qp gp tq tg tn tx _  I A M MB L k2 r1 I1 A1 M1 MB1 L1 hg1) (cwV 1 hts (gd_v lk_442 lk_443 lk_444 lk_445 lk_441) rfl rfl rfl (by decide +kernel) ⟨Nat.le_of_ble_eq_true rfl, Nat.le_of_ble_eq_true rfl⟩) ⟨fun a U g mk q => by obtain ⟨q0, q1, qP, qK, qD⟩ := q; exact ⟨q0, q1, qP, va_K.moved (u := U) (U := U.calling g mk a) (Vm.Alike.refl U.vm) qK, qD⟩, va_recv (ci := 0) (q0 := 0) hK hP rfl rfl, fun U hU hW => ⟨rfl, by rw [hU], by rw [hU]; exact hPc, va_K.moved hW.alike hKc, hDc.weaken (fun _ _ _ _ => trivial)⟩⟩ rfl rfl hl.1 rfl (lv_room (Nat.le_of_ble_eq_true rfl)) d_D_line_46 ⟨Nat.le_of_ble_eq_true rfl, Nat.le_of_ble_eq_true rfl⟩) hS (fun q _ h => hFc q h) hFc (fun u t H1 locs ht hvm hw hB hz1 hk1 hS => ?_)
          obtain ⟨hP1, hK1, hD1⟩ := hB
          rw [ht] at hP1
          obtain ⟨hP, hD⟩ := va_join (wr := (([] : List Nat).map (fun i => ((dw_W h q g hp qp gp tq tg tn tx I A M MB L)).getD i (0, .inr (0, []))))) (w1 := (dw_W h q g hp qp gp tq tg tn tx I1 A1 M1 MB1 L1)) hP hD [0, 1, 2, 3, 4, 5, 6, 7, 8, 9, 10] [] rfl rfl (by decide) (by decide) hk1 hFc hP1 hD1
          generalize H1 = H at hP hS ⊢
          have hP := hP.sub (ws' := (dw_W h q g hp qp gp tq tg tn tx I1 A1 M1 MB1 L1)) [0, 1, 2, 3, 4, 5, 6, 7, 8, 9, 10] rfl
          have hD := hD.sub (ws' := (dw_W h q g hp qp gp tq tg tn tx I1 A1 M1 MB1 L1)) [0, 1, 2, 3, 4, 5, 6, 7, 8, 9, 10] (by decide) rfl
          refine lv_aload_n hx hb d_D_line_49 rfl (lv_at hl 0 rfl) ?_
          refine lv_iload_n hx hb d_D_line_50 rfl (lv_at hl 2 rfl) ?_
          have hPc := hP.sub (ws' := (dw_W h q g hp qp gp tq tg tn tx I1 A1 M1 MB1 L1)) [0, 1, 2, 3, 4, 5, 6, 7, 8, 9, 10] rfl
          have hDc := hD.sub (ws' := (dw_W h q g hp qp gp tq tg tn tx I1 A1 M1 MB1 L1)) [0, 1, 2, 3, 4, 5, 6, 7, 8, 9, 10] (by decide) rfl
          have hKc := hK.sub (tys' := (dw_T h q g hp qp gp tq tg tn tx)) [0, 1, 2, 3, 4, 5, 6, 7, 8] rfl
          have hFc := va_free (wc := (dw_W h q g hp qp gp tq tg tn tx I1 A1 M1 MB1 L1)) hD hS hA [0, 1, 2, 3, 4, 5, 6, 7, 8, 9, 10] rfl
          cases hg2 : f_D_breaksBefore tn tx I1 A1 M1 MB1 L1 k2 with
          | none => rw [hg2] at hf; cases hf
          | some z2 =>
            obtain ⟨r2, I2, A2, M2, MB2, L2⟩ := z2
            rw [hg2] at hf
            dsimp only [Option.bind_some] at hf
            refine va_calli (va_runV (As := [.int k2]) (rest := []) ⟨hx, hb, hml, hown, hts⟩ (cm_D_breaksBefore l dC dI h q g hp qp gp tq tg tn tx _  I1 A1 M1 MB1 L1 k2 r2 I2 A2 M2 MB2 L2 hg2) (cwV 1 hts (gd_v lk_471 lk_472 lk_473 lk_445 lk_246) rfl rfl rfl (by decide +kernel) ⟨Nat.le_of_ble_eq_true rfl, Nat.le_of_ble_eq_true rfl⟩) ⟨fun a U g mk q => by obtain ⟨q0, q1, qP, qK, qD⟩ := q; exact ⟨q0, q1, qP, va_K.moved (u := U) (U := U.calling g mk a) (Vm.Alike.refl U.vm) qK, qD⟩, va_recv (ci := 0) (q0 := 0) hK hP rfl rfl, fun U hU hW => ⟨rfl, by rw [hU], by rw [hU]; exact hPc, va_K.moved hW.alike hKc, hDc.weaken (fun _ _ _ _ => trivial)⟩⟩ rfl rfl hl.1 rfl (lv_room (Nat.le_of_ble_eq_true rfl)) d_D_line_51 ⟨Nat.le_of_ble_eq_true rfl, Nat.le_of_ble_eq_true rfl⟩) hS (fun q _ h => hFc q h) hFc (fun r9 u t H1 locs ht hvm hw hB hz1 hk1 hS => ?_)
            obtain ⟨hP1, hK1, hD1⟩ := hB
            rw [ht] at hP1
            rw [hw]
            obtain ⟨hP, hD⟩ := va_join (wr := (([] : List Nat).map (fun i => ((dw_W h q g hp qp gp tq tg tn tx I1 A1 M1 MB1 L1)).getD i (0, .inr (0, []))))) (w1 := (dw_W h q g hp qp gp tq tg tn tx I2 A2 M2 MB2 L2)) hP hD [0, 1, 2, 3, 4, 5, 6, 7, 8, 9, 10] [] rfl rfl (by decide) (by decide) hk1 hFc hP1 hD1
            generalize H1 = H at hP hS ⊢
            have hP := hP.sub (ws' := (dw_W h q g hp qp gp tq tg tn tx I2 A2 M2 MB2 L2)) [0, 1, 2, 3, 4, 5, 6, 7, 8, 9, 10] rfl
            have hD := hD.sub (ws' := (dw_W h q g hp qp gp tq tg tn tx I2 A2 M2 MB2 L2)) [0, 1, 2, 3, 4, 5, 6, 7, 8, 9, 10] (by decide) rfl
            exact (wk_tag (by decide) hf).elim
        ·
          have hf := wk_iff ht1 hf
          by_cases hq1_2 : tg1 = 2
          ·
            have hf := wk_ift hq1_2 hf
            exact (wk_tag (by decide) hf).elim
          ·
            have hf := wk_iff hq1_2 hf
            cases hf
    ·
      have hf := wk_iff hc2 hf
      by_cases hc3 : k1 = 2
      ·
        have hf := wk_ift hc3 hf
        refine wk_top (w := .int 2) (congrArg _ hc3) ?_
        refine lv_tableIn (off := 54) (tgt := 55) hx hb d_D_line_1 (by decide) (by decide) (by decide) (by decide) ?_
        refine lv_aload_n hx hb d_D_line_55 rfl (lv_at hl 0 rfl) ?_
        refine lv_iload_n hx hb d_D_line_56 rfl (lv_at hl 2 rfl) ?_
        have hPc := hP.sub (ws' := (dw_W h q g hp qp gp tq tg tn tx I A M MB L)) [0, 1, 2, 3, 4, 5, 6, 7, 8, 9, 10] rfl
        have hDc := hD.sub (ws' := (dw_W h q g hp qp gp tq tg tn tx I A M MB L)) [0, 1, 2, 3, 4, 5, 6, 7, 8, 9, 10] (by decide) rfl
        have hKc := hK.sub (tys' := (dw_T h q g hp qp gp tq tg tn tx)) [0, 1, 2, 3, 4, 5, 6, 7, 8] rfl
        have hFc := va_free (wc := (dw_W h q g hp qp gp tq tg tn tx I A M MB L)) hD hS hA [0, 1, 2, 3, 4, 5, 6, 7, 8, 9, 10] rfl
        cases hg1 : f_D_lineBegin tn tx I A M MB L k2 with
        | none => rw [hg1] at hf; cases hf
        | some z1 =>
          obtain ⟨tg1, r1, I1, A1, M1, MB1, L1⟩ := z1
          rw [hg1] at hf
          dsimp only [Option.bind_some] at hf
          by_cases ht1 : tg1 = 0
          ·
            have hf := wk_ift ht1 hf
            rw [ht1] at hg1
            refine va_calli (va_runV (As := [.int k2]) (rest := []) ⟨hx, hb, hml, hown, hts⟩ (cm_D_lineBegin l dC dI h q g hp qp gp tq tg tn tx _  I A M MB L k2 r1 I1 A1 M1 MB1 L1 hg1) (cwV 1 hts (gd_v lk_475 lk_476 lk_477 lk_445 lk_474) rfl rfl rfl (by decide +kernel) ⟨Nat.le_of_ble_eq_true rfl, Nat.le_of_ble_eq_true rfl⟩) ⟨fun a U g mk q => by obtain ⟨q0, q1, qP, qK, qD⟩ := q; exact ⟨q0, q1, qP, va_K.moved (u := U) (U := U.calling g mk a) (Vm.Alike.refl U.vm) qK, qD⟩, va_recv (ci := 0) (q0 := 0) hK hP rfl rfl, fun U hU hW => ⟨rfl, by rw [hU], by rw [hU]; exact hPc, va_K.moved hW.alike hKc, hDc.weaken (fun _ _ _ _ => trivial)⟩⟩ rfl rfl hl.1 rfl (lv_room (Nat.le_of_ble_eq_true rfl)) d_D_line_57 ⟨Nat.le_of_ble_eq_true rfl, Nat.le_of_ble_eq_true rfl⟩) hS (fun q _ h => hFc q h) hFc (fun r9 u t H1 locs ht hvm hw hB hz1 hk1 hS => ?_)
            obtain ⟨hP1, hK1, hD1⟩ := hB
            rw [ht] at hP1
            rw [hw]
            obtain ⟨hP, hD⟩ := va_join (wr := (([] : List Nat).map (fun i => ((dw_W h q g hp qp gp tq tg tn tx I A M MB L)).getD i (0, .inr (0, []))))) (w1 := (dw_W h q g hp qp gp tq tg tn tx I1 A1 M1 MB1 L1)) hP hD [0, 1, 2, 3, 4, 5, 6, 7, 8, 9, 10] [] rfl rfl (by decide) (by decide) hk1 hFc hP1 hD1
            generalize H1 = H at hP hS ⊢
            have hP := hP.sub (ws' := (dw_W h q g hp qp gp tq tg tn tx I1 A1 M1 MB1 L1)) [0, 1, 2, 3, 4, 5, 6, 7, 8, 9, 10] rfl
            have hD := hD.sub (ws' := (dw_W h q g hp qp gp tq tg tn tx I1 A1 M1 MB1 L1)) [0, 1, 2, 3, 4, 5, 6, 7, 8, 9, 10] (by decide) rfl
            exact (wk_tag (by decide) hf).elim
          ·
            have hf := wk_iff ht1 hf
            by_cases hq1_2 : tg1 = 2
            ·
              have hf := wk_ift hq1_2 hf
              exact (wk_tag (by decide) hf).elim
            ·
              have hf := wk_iff hq1_2 hf
              cases hf
      ·
        have hf := wk_iff hc3 hf
        by_cases hc4 : k1 = 3
        ·
          have hf := wk_ift hc4 hf
          refine wk_top (w := .int 3) (congrArg _ hc4) ?_
          refine lv_tableIn (off := 60) (tgt := 61) hx hb d_D_line_1 (by decide) (by decide) (by decide) (by decide) ?_
          refine lv_aload_n hx hb d_D_line_61 rfl (lv_at hl 0 rfl) ?_
          refine lv_aload_n hx hb d_D_line_62 rfl (lv_at hl 0 rfl) ?_
          refine lv_iload_n hx hb d_D_line_63 rfl (lv_at hl 2 rfl) ?_
          have hPc := hP.sub (ws' := (dw_W h q g hp qp gp tq tg tn tx I A M MB L)) [0, 1, 2, 3, 4, 5, 6, 7, 8, 9, 10] rfl
          have hDc := hD.sub (ws' := (dw_W h q g hp qp gp tq tg tn tx I A M MB L)) [0, 1, 2, 3, 4, 5, 6, 7, 8, 9, 10] (by decide) rfl
          have hKc := hK.sub (tys' := (dw_T h q g hp qp gp tq tg tn tx)) [0, 1, 2, 3, 4, 5, 6, 7, 8] rfl
          have hFc := va_free (wc := (dw_W h q g hp qp gp tq tg tn tx I A M MB L)) hD hS hA [0, 1, 2, 3, 4, 5, 6, 7, 8, 9, 10] rfl
          cases hg1 : f_D_lineBegin tn tx I A M MB L k2 with
          | none => rw [hg1] at hf; cases hf
          | some z1 =>
            obtain ⟨tg1, r1, I1, A1, M1, MB1, L1⟩ := z1
            rw [hg1] at hf
            dsimp only [Option.bind_some] at hf
            by_cases ht1 : tg1 = 0
            ·
              have hf := wk_ift ht1 hf
              rw [ht1] at hg1
              refine va_calli (va_runV (As := [.int k2]) (rest := [.ref h]) ⟨hx, hb, hml, hown, hts⟩ (cm_D_lineBegin l dC dI h q g hp qp gp tq tg tn tx _  I A M MB L k2 r1 I1 A1 M1 MB1 L1 hg1) (cwV 1 hts (gd_v lk_475 lk_476 lk_477 lk_445 lk_474) rfl rfl rfl (by decide +kernel) ⟨Nat.le_of_ble_eq_true rfl, Nat.le_of_ble_eq_true rfl⟩) ⟨fun a U g mk q => by obtain ⟨q0, q1, qP, qK, qD⟩ := q; exact ⟨q0, q1, qP, va_K.moved (u := U) (U := U.calling g mk a) (Vm.Alike.refl U.vm) qK, qD⟩, va_recv (ci := 0) (q0 := 0) hK hP rfl rfl, fun U hU hW => ⟨rfl, by rw [hU], by rw [hU]; exact hPc, va_K.moved hW.alike hKc, hDc.weaken (fun _ _ _ _ => trivial)⟩⟩ rfl rfl hl.1 rfl (lv_room (Nat.le_of_ble_eq_true rfl)) d_D_line_64 ⟨Nat.le_of_ble_eq_true rfl, Nat.le_of_ble_eq_true rfl⟩) hS (fun q _ h => hFc q h) hFc (fun r9 u t H1 locs ht hvm hw hB hz1 hk1 hS => ?_)
              obtain ⟨hP1, hK1, hD1⟩ := hB
              rw [ht] at hP1
              rw [hw]
              obtain ⟨hP, hD⟩ := va_join (wr := (([] : List Nat).map (fun i => ((dw_W h q g hp qp gp tq tg tn tx I A M MB L)).getD i (0, .inr (0, []))))) (w1 := (dw_W h q g hp qp gp tq tg tn tx I1 A1 M1 MB1 L1)) hP hD [0, 1, 2, 3, 4, 5, 6, 7, 8, 9, 10] [] rfl rfl (by decide) (by decide) hk1 hFc hP1 hD1
              generalize H1 = H at hP hS ⊢
              have hP := hP.sub (ws' := (dw_W h q g hp qp gp tq tg tn tx I1 A1 M1 MB1 L1)) [0, 1, 2, 3, 4, 5, 6, 7, 8, 9, 10] rfl
              have hD := hD.sub (ws' := (dw_W h q g hp qp gp tq tg tn tx I1 A1 M1 MB1 L1)) [0, 1, 2, 3, 4, 5, 6, 7, 8, 9, 10] (by decide) rfl
              have hPc := hP.sub (ws' := (dw_W h q g hp qp gp tq tg tn tx I1 A1 M1 MB1 L1)) [0, 1, 2, 3, 4, 5, 6, 7, 8, 9, 10] rfl
              have hDc := hD.sub (ws' := (dw_W h q g hp qp gp tq tg tn tx I1 A1 M1 MB1 L1)) [0, 1, 2, 3, 4, 5, 6, 7, 8, 9, 10] (by decide) rfl
              have hKc := hK.sub (tys' := (dw_T h q g hp qp gp tq tg tn tx)) [0, 1, 2, 3, 4, 5, 6, 7, 8] rfl
              have hFc := va_free (wc := (dw_W h q g hp qp gp tq tg tn tx I1 A1 M1 MB1 L1)) hD hS hA [0, 1, 2, 3, 4, 5, 6, 7, 8, 9, 10] rfl
              cases hg2 : f_D_lineSize tn tx I1 A1 M1 MB1 L1 r1 with
              | none => rw [hg2] at hf; cases hf
              | some z2 =>
                obtain ⟨r2, I2, A2, M2, MB2, L2⟩ := z2
                rw [hg2] at hf
                dsimp only [Option.bind_some] at hf
                refine va_calli (va_runV (As := [.int r1]) (rest := []) ⟨hx, hb, hml, hown, hts⟩ (cm_D_lineSize l dC dI h q g hp qp gp tq tg tn tx _  I1 A1 M1 MB1 L1 r1 r2 I2 A2 M2 MB2 L2 hg2) (cwV 1 hts (gd_v lk_479 lk_480 lk_481 lk_445 lk_478) rfl rfl rfl (by decide +kernel) ⟨Nat.le_of_ble_eq_true rfl, Nat.le_of_ble_eq_true rfl⟩) ⟨fun a U g mk q => by obtain ⟨q0, q1, qP, qK, qD⟩ := q; exact ⟨q0, q1, qP, va_K.moved (u := U) (U := U.calling g mk a) (Vm.Alike.refl U.vm) qK, qD⟩, va_recv (ci := 0) (q0 := 0) hK hP rfl rfl, fun U hU hW => ⟨rfl, by rw [hU], by rw [hU]; exact hPc, va_K.moved hW.alike hKc, hDc.weaken (fun _ _ _ _ => trivial)⟩⟩ rfl rfl hl.1 rfl (lv_room (Nat.le_of_ble_eq_true rfl)) d_D_line_67 ⟨Nat.le_of_ble_eq_true rfl, Nat.le_of_ble_eq_true rfl⟩) hS (fun q _ h => hFc q h) hFc (fun r9 u t H1 locs ht hvm hw hB hz1 hk1 hS => ?_)
                obtain ⟨hP1, hK1, hD1⟩ := hB
                rw [ht] at hP1
                rw [hw]
                obtain ⟨hP, hD⟩ := va_join (wr := (([] : List Nat).map (fun i => ((dw_W h q g hp qp gp tq tg tn tx I1 A1 M1 MB1 L1)).getD i (0, .inr (0, []))))) (w1 := (dw_W h q g hp qp gp tq tg tn tx I2 A2 M2 MB2 L2)) hP hD [0, 1, 2, 3, 4, 5, 6, 7, 8, 9, 10] [] rfl rfl (by decide) (by decide) hk1 hFc hP1 hD1
                generalize H1 = H at hP hS ⊢
                have hP := hP.sub (ws' := (dw_W h q g hp qp gp tq tg tn tx I2 A2 M2 MB2 L2)) [0, 1, 2, 3, 4, 5, 6, 7, 8, 9, 10] rfl
                have hD := hD.sub (ws' := (dw_W h q g hp qp gp tq tg tn tx I2 A2 M2 MB2 L2)) [0, 1, 2, 3, 4, 5, 6, 7, 8, 9, 10] (by decide) rfl
                exact (wk_tag (by decide) hf).elim
            ·
              have hf := wk_iff ht1 hf
              by_cases hq1_2 : tg1 = 2
              ·
                have hf := wk_ift hq1_2 hf
                exact (wk_tag (by decide) hf).elim
              ·
                have hf := wk_iff hq1_2 hf
                cases hf
        ·
          have hf := wk_iff hc4 hf
          have nhc1 : ¬ (k1).toInt = 0 := fun z => hc1 ((wk_eq 0 (by decide)).mpr z)
          have nhc2 : ¬ (k1).toInt = 1 := fun z => hc2 ((wk_eq 1 (by decide)).mpr z)
          have nhc3 : ¬ (k1).toInt = 2 := fun z => hc3 ((wk_eq 2 (by decide)).mpr z)
          have nhc4 : ¬ (k1).toInt = 3 := fun z => hc4 ((wk_eq 3 (by decide)).mpr z)
          refine lv_tableOut (tgt := 71) hx hb d_D_line_1 (by omega) (by decide) ?_
          obtain ⟨e0, e1, e2, e3, e4, e5, e6⟩ := wk_inj6 hf
          subst e1
          subst e2
          subst e3
          subst e4
          subst e5
          subst e6
          exact th_newG hx hb htr hown (by decide) (by decide) (wk_thr hts hZ hS lk_432 lk_433 (fun _ a9 b9 => oa_1 a9 b9)) hnh (by rw [hl.1, hml]) hS (Nat.le_of_ble_eq_true rfl) (Nat.le_of_ble_eq_true rfl) (Nat.le_of_ble_eq_true rfl) (Nat.le_of_ble_eq_true rfl) (Nat.le_of_ble_eq_true rfl) (Nat.le_of_ble_eq_true rfl) hlocks (fun t hal hk => ⟨hP.kept (fun k q hq => hk _ (hP k q hq).lt), va_K.moved hal hK, hD⟩) d_D_line_71 d_D_line_74 d_D_line_75 d_D_line_78

-- 18.ccon11
set_option maxHeartbeats 8000000 in
set_option maxRecDepth 100000 in
theorem cm_D_parent (l : Launch) (dC : Nat → ClassId) (dI : Nat → Nat → Nat) (h : Nat) (q : Nat → Nat) (g : Nat → ClassId) (hj : Nat) (pt : Nat) (tg : ClassId) (sa : Nat → Nat) (ta : Nat → Nat) (n : Nat) (SO : Nat → Int32) (tn : Nat → Nat) (tx : Nat → Nat → Int32) (sz : Nat) (I : MI) (cx : Nat) (SP : MI) (SL : MI) (k1 : Int32) (r : Int32) (I' : MI) (cx' : Nat) (SP' : MI) (SL' : MI) (hf : f_D_parent n SO I cx SP SL  k1 = some (0, r, I', cx', SP', SL')) : Met l y_D_parent w_D_parent ({ frames := 1, cells := 0, slots := 0, locals := 21 }) (va_Pc [.ref h, .int k1] (fun U => U.heap.size = sz ∧ va_P (dC, dI) vwCl (tw_W h q g hj pt tg sa ta n SO tn tx I cx SP SL) U.heap ∧ va_K (dC, dI) vwCl (tw_T h q g hj pt tg sa ta n SO tn tx) U ∧ va_D (fun _ => True) (tw_W h q g hj pt tg sa ta n SO tn tx I cx SP SL))) (va_Qi (fun (r9 : Int32) (_ : Unit) => r9 = r) (fun (_ : Unit) t => va_P (dC, dI) vwCl (tw_W h q g hj pt tg sa ta n SO tn tx I' cx' SP' SL') t.heap ∧ va_K (dC, dI) vwCl (tw_T h q g hj pt tg sa ta n SO tn tx) t ∧ va_D (va_A (tw_W h q g hj pt tg sa ta n SO tn tx I cx SP SL) sz) (tw_W h q g hj pt tg sa ta n SO tn tx I' cx' SP' SL')) (va_A (tw_W h q g hj pt tg sa ta n SO tn tx I cx SP SL) sz)) 0 0 (va_A (tw_W h q g hj pt tg sa ta n SO tn tx I cx SP SL) sz) := by
  refine Met.ofW (cc := prog_1_method_18_code) (maxL := 2) (ret := (some .int)) (by decide) rfl ?_
  intro p e s m args below meth c s₁ B hml hv
  obtain ⟨rfl, hsz, hP, hK, hD0⟩ := hv
  have hx := B.exec
  have hb := B.bytes
  have hr := B.returns
  have hts := atoms_spec (ws := w_D_parent) B.pre
  have hown : s.vm.findClass "DraftTree" = some m.cls := findClass_of_methodNamed B.named
  have hlocks := B.notSynchronized
  subst hsz
  have hD := hD0.self (sz := s.heap.size)
  generalize hAe : va_A (tw_W h q g hj pt tg sa ta n SO tn tx I cx SP SL) s.heap.size = B9 at hD ⊢
  have hA : ∀ q : Nat, s.heap.size ≤ q → B9 q := fun q h => by rw [← hAe]; exact Or.inr h
  clear hAe
  have hS : va_S B9 s.heap s.heap [] := va_S.rf
  have hl := lv_entry ([.ref h, .int k1]) (n := 2) (Nat.le_of_ble_eq_true rfl)
  rw [lg_entry_eq]
  generalize (lg_sl ([.ref h, .int k1]) ++ List.replicate (2 - (lg_sl ([.ref h, .int k1])).length) Slot.unset).toArray = ls at hl ⊢
  have hl : lv_has ls 2 [(0, .ref h), (1, .int k1)] := hl
  unfold f_D_parent at hf
  refine lv_aload_n hx hb d_D_parent_0 rfl (lv_at hl 0 rfl) ?_
  refine lv_iload_n hx hb d_D_parent_1 rfl (lv_at hl 1 rfl) ?_
  have hFc := va_freeM (wc := (tw_W h q g hj pt tg sa ta n SO tn tx I cx SP SL)) hD hS hA (fun _ h9 => h9)
  cases hg1 : f_D_requireState n SO I cx SP SL k1 with
  | none => rw [hg1] at hf; cases hf
  | some z1 =>
    obtain ⟨tg1, r1, I1, cx1, SP1, SL1⟩ := z1
    rw [hg1] at hf
    dsimp only [Option.bind_some] at hf
    by_cases ht1 : tg1 = 0
    ·
      have hf := wk_ift ht1 hf
      rw [ht1] at hg1
      refine va_callv (va_runV (As := [.int k1]) (rest := []) ⟨hx, hb, hml, hown, hts⟩ (cm_D_requireState l dC dI h q g hj pt tg sa ta n SO tn tx _  I cx SP SL k1 r1 I1 cx1 SP1 SL1 hg1) (cwV 1 hts (gd_v lk_453 lk_454 lk_455 lk_445 lk_452) rfl rfl rfl (by decide +kernel) ⟨Nat.le_of_ble_eq_true rfl, Nat.le_of_ble_eq_true rfl⟩) ⟨fun a U g mk q => by obtain ⟨q0, q1, qP, qK, qD⟩ := q; exact ⟨q0, q1, qP, va_K.moved (u := U) (U := U.calling g mk a) (Vm.Alike.refl U.vm) qK, qD⟩, va_recv (ci := 0) (q0 := 0) hK hP rfl rfl, fun U hU hW => ⟨rfl, by rw [hU], by rw [hU]; exact hP, va_K.moved hW.alike hK, hD.weaken (fun _ _ _ _ => trivial)⟩⟩ rfl rfl hl.1 rfl (lv_room (Nat.le_of_ble_eq_true rfl)) d_D_parent_2 ⟨Nat.le_of_ble_eq_true rfl, Nat.le_of_ble_eq_true rfl⟩) hS (fun q _ h => hFc q h) hFc (fun u t H1 locs ht hvm hw hB hz1 hk1 hS => ?_)
      obtain ⟨hP1, hK1, hD1⟩ := hB
      rw [ht] at hP1
      have hP := hP1
      have hD := hD1.weaken (fun _ q _ h => hFc q.1 h)
      generalize H1 = H at hP hS ⊢
      refine lv_aload_n hx hb d_D_parent_5 rfl (lv_at hl 0 rfl) ?_
      refine va_get (D := (dC, dI)) (ci := 0) (v := .ref (q 2)) (C := R_D) (T := F_D) (N := 14) hx hb hts (fun w h => List.mem_cons_of_mem _ (in_D w h)) hown hK hP 0 rfl rfl 2 (by decide) (hts _ (List.mem_cons_of_mem _ lk_456)) (fun _ h9 => h9) rfl d_D_parent_6 ?_
      refine lv_iload_n hx hb d_D_parent_9 rfl (lv_at hl 1 rfl) ?_
      obtain ⟨hc1, hf⟩ := wk_if hf
      obtain ⟨hc1n, hf⟩ := wk_if hf
      have hc1i := wk_inb_lt hc1n
      refine va_aldq hx hb hK hP 1 0 rfl rfl (wk_inb_ok hc1) d_D_parent_10 ?_
      refine wk_top (w := .ref (sa (k1).toNatClampNeg)) (tw_rf hc1i) ?_
      refine va_get (D := (dC, dI)) (ci := 1) (v := .int (SO (k1).toNatClampNeg)) (C := R_S) (T := F_S) (N := 4) hx hb hts (fun w h => List.mem_cons_of_mem _ (in_S w h)) hown hK hP (2 + (k1).toNatClampNeg) (va_poolAt rfl hc1i) rfl 1 (by decide) (hts _ (List.mem_cons_of_mem _ lk_463)) (fun _ h9 => h9) rfl d_D_parent_11 ?_
      obtain ⟨e0, e1, e2, e3, e4, e5⟩ := wk_inj5 hf
      subst e1
      subst e2
      subst e3
      subst e4
      subst e5
      exact W.iret (v := (SO (k1).toNatClampNeg)) hx hb hr (fun t ht hW => ⟨⟨(SO (k1).toNatClampNeg), (), rfl, rfl, by rw [ht]; exact hP, va_K.moved hW.alike hK, hD⟩, hS.F ht⟩) hS.2.2 d_D_parent_14
    ·
      have hf := wk_iff ht1 hf
      by_cases hq1_3 : tg1 = 3
      ·
        have hf := wk_ift hq1_3 hf
        exact (wk_tag (by decide) hf).elim
      ·
        have hf := wk_iff hq1_3 hf
        cases hf
set_option maxHeartbeats 8000000 in
set_option maxRecDepth 100000 in
theorem ct_D_parent_3 (l : Launch) (hfl : l.flags = flags0) (dC : Nat → ClassId) (dI : Nat → Nat → Nat) (h : Nat) (q : Nat → Nat) (g : Nat → ClassId) (hj : Nat) (pt : Nat) (tg : ClassId) (sa : Nat → Nat) (ta : Nat → Nat) (n : Nat) (SO : Nat → Int32) (tn : Nat → Nat) (tx : Nat → Nat → Int32) (sz : Nat) (I : MI) (cx : Nat) (SP : MI) (SL : MI) (k1 : Int32) (r : Int32) (I' : MI) (cx' : Nat) (SP' : MI) (SL' : MI) (hf : f_D_parent n SO I cx SP SL  k1 = some (3, r, I', cx', SP', SL')) : th_Met l y_D_parent w_D_parent ({ frames := 7, cells := 1, slots := 6, locals := 102 }) (va_Pc [.ref h, .int k1] (fun U => U.heap.size = sz ∧ va_P (dC, dI) vwCl (tw_W h q g hj pt tg sa ta n SO tn tx I cx SP SL) U.heap ∧ va_K (dC, dI) vwCl (tw_T h q g hj pt tg sa ta n SO tn tx) U ∧ va_D (fun _ => True) (tw_W h q g hj pt tg sa ta n SO tn tx I cx SP SL) ∧ th_ZA (va_A (tw_W h q g hj pt tg sa ta n SO tn tx I cx SP SL) sz) U)) (th_Qw "java/lang/IllegalArgumentException" (fun t => va_P (dC, dI) vwCl (tw_W h q g hj pt tg sa ta n SO tn tx I' cx' SP' SL') t.heap ∧ va_K (dC, dI) vwCl (tw_T h q g hj pt tg sa ta n SO tn tx) t ∧ va_D (va_A (tw_W h q g hj pt tg sa ta n SO tn tx I cx SP SL) sz) (tw_W h q g hj pt tg sa ta n SO tn tx I' cx' SP' SL')) (va_A (tw_W h q g hj pt tg sa ta n SO tn tx I cx SP SL) sz)) 1 6 (va_A (tw_W h q g hj pt tg sa ta n SO tn tx I cx SP SL) sz) := by
  refine th_Met.ofW (cc := prog_1_method_18_code) (maxL := 2) (ret := (some .int)) (by decide) rfl ?_
  intro p e s m args below meth c s₁ B hml hnh hv
  obtain ⟨rfl, hsz, hP, hK, hD0, hZ⟩ := hv
  have hx := B.exec
  have hb := B.bytes
  have hr := B.returns
  have hts := atoms_spec (ws := w_D_parent) B.pre
  have hown : s.vm.findClass "DraftTree" = some m.cls := findClass_of_methodNamed B.named
  have hlocks := B.notSynchronized
  have htr := Launch.traces_off hfl B.admits
  subst hsz
  have hD := hD0.self (sz := s.heap.size)
  generalize hAe : va_A (tw_W h q g hj pt tg sa ta n SO tn tx I cx SP SL) s.heap.size = B9 at hD hZ ⊢
  have hA : ∀ q : Nat, s.heap.size ≤ q → B9 q := fun q h => by rw [← hAe]; exact Or.inr h
  clear hAe
  have hS : va_S B9 s.heap s.heap [] := va_S.rf
  have hl := lv_entry ([.ref h, .int k1]) (n := 2) (Nat.le_of_ble_eq_true rfl)
  rw [lg_entry_eq]
  generalize (lg_sl ([.ref h, .int k1]) ++ List.replicate (2 - (lg_sl ([.ref h, .int k1])).length) Slot.unset).toArray = ls at hl ⊢
  have hl : lv_has ls 2 [(0, .ref h), (1, .int k1)] := hl
  unfold f_D_parent at hf
  refine lv_aload_n hx hb d_D_parent_0 rfl (lv_at hl 0 rfl) ?_
  refine lv_iload_n hx hb d_D_parent_1 rfl (lv_at hl 1 rfl) ?_
  have hFc := va_freeM (wc := (tw_W h q g hj pt tg sa ta n SO tn tx I cx SP SL)) hD hS hA (fun _ h9 => h9)
  cases hg1 : f_D_requireState n SO I cx SP SL k1 with
  | none => rw [hg1] at hf; cases hf
  | some z1 =>
    obtain ⟨tg1, r1, I1, cx1, SP1, SL1⟩ := z1
    rw [hg1] at hf
    dsimp only [Option.bind_some] at hf
    by_cases ht1 : tg1 = 0
    ·
      have hf := wk_ift ht1 hf
      rw [ht1] at hg1
      refine va_callv (va_runV (As := [.int k1]) (rest := []) ⟨hx, hb, hml, hown, hts⟩ (cm_D_requireState l dC dI h q g hj pt tg sa ta n SO tn tx _  I cx SP SL k1 r1 I1 cx1 SP1 SL1 hg1) (cwV 1 hts (gd_v lk_453 lk_454 lk_455 lk_445 lk_452) rfl rfl rfl (by decide +kernel) ⟨Nat.le_of_ble_eq_true rfl, Nat.le_of_ble_eq_true rfl⟩) ⟨fun a U g mk q => by obtain ⟨q0, q1, qP, qK, qD⟩ := q; exact ⟨q0, q1, qP, va_K.moved (u := U) (U := U.calling g mk a) (Vm.Alike.refl U.vm) qK, qD⟩, va_recv (ci := 0) (q0 := 0) hK hP rfl rfl, fun U hU hW => ⟨rfl, by rw [hU], by rw [hU]; exact hP, va_K.moved hW.alike hK, hD.weaken (fun _ _ _ _ => trivial)⟩⟩ rfl rfl hl.1 rfl (lv_room (Nat.le_of_ble_eq_true rfl)) d_D_parent_2 ⟨Nat.le_of_ble_eq_true rfl, Nat.le_of_ble_eq_true rfl⟩) hS (fun q _ h => hFc q h) hFc (fun u t H1 locs ht hvm hw hB hz1 hk1 hS => ?_)
      obtain ⟨hP1, hK1, hD1⟩ := hB
      rw [ht] at hP1
      have hP := hP1
      have hD := hD1.weaken (fun _ q _ h => hFc q.1 h)
      generalize H1 = H at hP hS ⊢
      refine lv_aload_n hx hb d_D_parent_5 rfl (lv_at hl 0 rfl) ?_
      refine va_get (D := (dC, dI)) (ci := 0) (v := .ref (q 2)) (C := R_D) (T := F_D) (N := 14) hx hb hts (fun w h => List.mem_cons_of_mem _ (in_D w h)) hown hK hP 0 rfl rfl 2 (by decide) (hts _ (List.mem_cons_of_mem _ lk_456)) (fun _ h9 => h9) rfl d_D_parent_6 ?_
      refine lv_iload_n hx hb d_D_parent_9 rfl (lv_at hl 1 rfl) ?_
      obtain ⟨hc1, hf⟩ := wk_if hf
      obtain ⟨hc1n, hf⟩ := wk_if hf
      have hc1i := wk_inb_lt hc1n
      refine va_aldq hx hb hK hP 1 0 rfl rfl (wk_inb_ok hc1) d_D_parent_10 ?_
      refine wk_top (w := .ref (sa (k1).toNatClampNeg)) (tw_rf hc1i) ?_
      refine va_get (D := (dC, dI)) (ci := 1) (v := .int (SO (k1).toNatClampNeg)) (C := R_S) (T := F_S) (N := 4) hx hb hts (fun w h => List.mem_cons_of_mem _ (in_S w h)) hown hK hP (2 + (k1).toNatClampNeg) (va_poolAt rfl hc1i) rfl 1 (by decide) (hts _ (List.mem_cons_of_mem _ lk_463)) (fun _ h9 => h9) rfl d_D_parent_11 ?_
      exact (wk_tag (by decide) hf).elim
    ·
      have hf := wk_iff ht1 hf
      by_cases hq1_3 : tg1 = 3
      ·
        have hf := wk_ift hq1_3 hf
        rw [hq1_3] at hg1
        obtain ⟨e0, e1, e2, e3, e4, e5⟩ := wk_inj5 hf
        subst e1
        subst e2
        subst e3
        subst e4
        subst e5
        refine th_passG (A1 := va_A (tw_W h q g hj pt tg sa ta n SO tn tx I cx SP SL) _) (th_runV (As := [.int k1]) (rest := []) ⟨hx, hb, hml, hown, hts⟩ (ct_D_requireState_3 l hfl dC dI h q g hj pt tg sa ta n SO tn tx _  I cx SP SL k1 r1 I1 cx1 SP1 SL1 hg1) (cwV 1 hts (gd_v lk_453 lk_454 lk_455 lk_445 lk_452) rfl rfl rfl (by decide +kernel) ⟨Nat.le_of_ble_eq_true rfl, Nat.le_of_ble_eq_true rfl⟩) ⟨fun a U g mk q => by obtain ⟨q0, q1, qP, qK, qD, qZ⟩ := q; exact ⟨q0, q1, qP, va_K.moved (u := U) (U := U.calling g mk a) (Vm.Alike.refl U.vm) qK, qD, th_ZA.calling qZ⟩, va_recv (ci := 0) (q0 := 0) hK hP rfl rfl, fun U hU hW => ⟨rfl, by rw [hU], by rw [hU]; exact hP, va_K.moved hW.alike hK, hD.weaken (fun _ _ _ _ => trivial), th_ZA.to hZ hS hU hW hFc⟩⟩ rfl rfl hl.1 rfl (lv_room (Nat.le_of_ble_eq_true rfl)) d_D_parent_2 ⟨Nat.le_of_ble_eq_true rfl, Nat.le_of_ble_eq_true rfl⟩) hnh hlocks hS hFc (Nat.le_of_ble_eq_true rfl) (Nat.le_of_ble_eq_true rfl) (fun t hal hb1 hz1 hk1 u hu hau => ?_)
        obtain ⟨hP1, hK1, hD1⟩ := hb1
        exact ⟨by rw [hu]; exact hP1, va_K.moved hau hK, hD1.weaken (fun _ q _ h => hFc q.1 h)⟩
      ·
        have hf := wk_iff hq1_3 hf
        cases hf

set_option maxHeartbeats 8000000 in
set_option maxRecDepth 100000 in
theorem cm_D_redo (l : Launch) (dC : Nat → ClassId) (dI : Nat → Nat → Nat) (h : Nat) (q : Nat → Nat) (g : Nat → ClassId) (hj : Nat) (pt : Nat) (tg : ClassId) (sa : Nat → Nat) (ta : Nat → Nat) (n : Nat) (SO : Nat → Int32) (tn : Nat → Nat) (tx : Nat → Nat → Int32) (sz : Nat) (I : MI) (cx : Nat) (SP : MI) (SL : MI) (r : Int32) (I' : MI) (cx' : Nat) (SP' : MI) (SL' : MI) (hf : f_D_redo n SO I cx SP SL  = some (0, r, I', cx', SP', SL')) : Met l y_D_redo w_D_redo ({ frames := 1, cells := 0, slots := 0, locals := 22 }) (va_Pc [.ref h] (fun U => U.heap.size = sz ∧ va_P (dC, dI) vwCl (tw_W h q g hj pt tg sa ta n SO tn tx I cx SP SL) U.heap ∧ va_K (dC, dI) vwCl (tw_T h q g hj pt tg sa ta n SO tn tx) U ∧ va_D (fun _ => True) (tw_W h q g hj pt tg sa ta n SO tn tx I cx SP SL))) (va_Qi (fun (r9 : Int32) (_ : Unit) => r9 = r) (fun (_ : Unit) t => va_P (dC, dI) vwCl (tw_W h q g hj pt tg sa ta n SO tn tx I' cx' SP' SL') t.heap ∧ va_K (dC, dI) vwCl (tw_T h q g hj pt tg sa ta n SO tn tx) t ∧ va_D (va_A (tw_W h q g hj pt tg sa ta n SO tn tx I cx SP SL) sz) (tw_W h q g hj pt tg sa ta n SO tn tx I' cx' SP' SL')) (va_A (tw_W h q g hj pt tg sa ta n SO tn tx I cx SP SL) sz)) 0 0 (va_A (tw_W h q g hj pt tg sa ta n SO tn tx I cx SP SL) sz) := by
  refine Met.ofW (cc := prog_1_method_12_code) (maxL := 2) (ret := (some .int)) (by decide) rfl ?_
  intro p e s m args below meth c s₁ B hml hv
  obtain ⟨rfl, hsz, hP, hK, hD0⟩ := hv
  have hx := B.exec
  have hb := B.bytes
  have hr := B.returns
  have hts := atoms_spec (ws := w_D_redo) B.pre
  have hown : s.vm.findClass "DraftTree" = some m.cls := findClass_of_methodNamed B.named
  have hlocks := B.notSynchronized
  subst hsz
  have hD := hD0.self (sz := s.heap.size)
  generalize hAe : va_A (tw_W h q g hj pt tg sa ta n SO tn tx I cx SP SL) s.heap.size = B9 at hD ⊢
  have hA : ∀ q : Nat, s.heap.size ≤ q → B9 q := fun q h => by rw [← hAe]; exact Or.inr h
  clear hAe
  have hS : va_S B9 s.heap s.heap [] := va_S.rf
  have hl := lv_entry ([.ref h]) (n := 2) (Nat.le_of_ble_eq_true rfl)
  rw [lg_entry_eq]
  generalize (lg_sl ([.ref h]) ++ List.replicate (2 - (lg_sl ([.ref h])).length) Slot.unset).toArray = ls at hl ⊢
  have hl : lv_has ls 2 [(0, .ref h)] := hl
  unfold f_D_redo at hf
  refine lv_aload_n hx hb d_D_redo_0 rfl (lv_at hl 0 rfl) ?_
  refine va_get (D := (dC, dI)) (ci := 0) (v := .ref (q 2)) (C := R_D) (T := F_D) (N := 14) hx hb hts (fun w h => List.mem_cons_of_mem _ (in_D w h)) hown hK hP 0 rfl rfl 2 (by decide) (hts _ (List.mem_cons_of_mem _ lk_456)) (fun _ h9 => h9) rfl d_D_redo_1 ?_
  refine lv_aload_n hx hb d_D_redo_4 rfl (lv_at hl 0 rfl) ?_
  refine va_get (D := (dC, dI)) (ci := 0) (v := .int (I 4)) (C := R_D) (T := F_D) (N := 14) hx hb hts (fun w h => List.mem_cons_of_mem _ (in_D w h)) hown hK hP 0 rfl rfl 4 (by decide) (hts _ (List.mem_cons_of_mem _ lk_436)) (fun _ h9 => h9) rfl d_D_redo_5 ?_
  obtain ⟨hc1, hf⟩ := wk_if hf
  obtain ⟨hc1n, hf⟩ := wk_if hf
  have hc1i := wk_inb_lt hc1n
  refine va_aldq hx hb hK hP 1 0 rfl rfl (wk_inb_ok hc1) d_D_redo_8 ?_
  refine wk_top (w := .ref (sa ((I 4)).toNatClampNeg)) (tw_rf hc1i) ?_
  refine va_get (D := (dC, dI)) (ci := 1) (v := .int (SL ((I 4)).toNatClampNeg)) (C := R_S) (T := F_S) (N := 4) hx hb hts (fun w h => List.mem_cons_of_mem _ (in_S w h)) hown hK hP (2 + ((I 4)).toNatClampNeg) (va_poolAt rfl hc1i) rfl 3 (by decide) (hts _ (List.mem_cons_of_mem _ lk_464)) (fun _ h9 => h9) rfl d_D_redo_9 ?_
  refine lv_istore_n (lv' := [(1, .int (SL ((I 4)).toNatClampNeg)), (0, .ref h)]) hx hb d_D_redo_12 rfl hl (by decide) rfl (fun ls hl => ?_)
  have hl : lv_has ls 2 [(1, .int (SL ((I 4)).toNatClampNeg)), (0, .ref h)] := hl
  refine lv_iload_n hx hb d_D_redo_13 rfl (lv_at hl 0 rfl) ?_
  refine lv_iconst (v := (-1)) hx hb d_D_redo_14 (by decide) ?_
  refine lv_icmp_ne (tgt := 26) hx hb d_D_redo_15 (by decide) (fun hc2 => ?_) (fun hc2 => ?_)
  ·
    have hf := wk_iff hc2 hf
    refine lv_aload_n hx hb d_D_redo_26 rfl (lv_at hl 1 rfl) ?_
    refine lv_iload_n hx hb d_D_redo_27 rfl (lv_at hl 0 rfl) ?_
    have hFc := va_freeM (wc := (tw_W h q g hj pt tg sa ta n SO tn tx I cx SP SL)) hD hS hA (fun _ h9 => h9)
    cases hg1 : f_D_moveTo n SO I cx SP SL (SL ((I 4)).toNatClampNeg) with
    | none => rw [hg1] at hf; cases hf
    | some z1 =>
      obtain ⟨r1, I1, cx1, SP1, SL1⟩ := z1
      rw [hg1] at hf
      dsimp only [Option.bind_some] at hf
      refine va_callv (va_runV (As := [.int (SL ((I 4)).toNatClampNeg)]) (rest := []) ⟨hx, hb, hml, hown, hts⟩ (cm_D_moveTo l dC dI h q g hj pt tg sa ta n SO tn tx _  I cx SP SL (SL ((I 4)).toNatClampNeg) r1 I1 cx1 SP1 SL1 hg1) (cwV 1 hts (gd_v lk_466 lk_467 lk_468 lk_445 lk_465) rfl rfl rfl (by decide +kernel) ⟨Nat.le_of_ble_eq_true rfl, Nat.le_of_ble_eq_true rfl⟩) ⟨fun a U g mk q => by obtain ⟨q0, q1, qP, qK, qD⟩ := q; exact ⟨q0, q1, qP, va_K.moved (u := U) (U := U.calling g mk a) (Vm.Alike.refl U.vm) qK, qD⟩, va_recv (ci := 0) (q0 := 0) hK hP rfl rfl, fun U hU hW => ⟨rfl, by rw [hU], by rw [hU]; exact hP, va_K.moved hW.alike hK, hD.weaken (fun _ _ _ _ => trivial)⟩⟩ rfl rfl hl.1 rfl (lv_room (Nat.le_of_ble_eq_true rfl)) d_D_redo_28 ⟨Nat.le_of_ble_eq_true rfl, Nat.le_of_ble_eq_true rfl⟩) hS (fun q _ h => hFc q h) hFc (fun u t H1 locs ht hvm hw hB hz1 hk1 hS => ?_)
      obtain ⟨hP1, hK1, hD1⟩ := hB
      rw [ht] at hP1
      have hP := hP1
      have hD := hD1.weaken (fun _ q _ h => hFc q.1 h)
      generalize H1 = H at hP hS ⊢
      refine lv_aload_n hx hb d_D_redo_31 rfl (lv_at hl 1 rfl) ?_
      refine va_get (D := (dC, dI)) (ci := 0) (v := .int (I1 4)) (C := R_D) (T := F_D) (N := 14) hx hb hts (fun w h => List.mem_cons_of_mem _ (in_D w h)) hown hK hP 0 rfl rfl 4 (by decide) (hts _ (List.mem_cons_of_mem _ lk_436)) (fun _ h9 => h9) rfl d_D_redo_32 ?_
      obtain ⟨e0, e1, e2, e3, e4, e5⟩ := wk_inj5 hf
      subst e1
      subst e2
      subst e3
      subst e4
      subst e5
      exact W.iret (v := (I1 4)) hx hb hr (fun t ht hW => ⟨⟨(I1 4), (), rfl, rfl, by rw [ht]; exact hP, va_K.moved hW.alike hK, hD⟩, hS.F ht⟩) hS.2.2 d_D_redo_35
  ·
    have hf := wk_ift hc2 hf
    exact (wk_tag (by decide) hf).elim
set_option maxHeartbeats 8000000 in
set_option maxRecDepth 100000 in
theorem ct_D_redo_4 (l : Launch) (hfl : l.flags = flags0) (dC : Nat → ClassId) (dI : Nat → Nat → Nat) (h : Nat) (q : Nat → Nat) (g : Nat → ClassId) (hj : Nat) (pt : Nat) (tg : ClassId) (sa : Nat → Nat) (ta : Nat → Nat) (n : Nat) (SO : Nat → Int32) (tn : Nat → Nat) (tx : Nat → Nat → Int32) (sz : Nat) (I : MI) (cx : Nat) (SP : MI) (SL : MI) (r : Int32) (I' : MI) (cx' : Nat) (SP' : MI) (SL' : MI) (hf : f_D_redo n SO I cx SP SL  = some (4, r, I', cx', SP', SL')) : th_Met l y_D_redo w_D_redo ({ frames := 6, cells := 1, slots := 6, locals := 81 }) (va_Pc [.ref h] (fun U => U.heap.size = sz ∧ va_P (dC, dI) vwCl (tw_W h q g hj pt tg sa ta n SO tn tx I cx SP SL) U.heap ∧ va_K (dC, dI) vwCl (tw_T h q g hj pt tg sa ta n SO tn tx) U ∧ va_D (fun _ => True) (tw_W h q g hj pt tg sa ta n SO tn tx I cx SP SL) ∧ th_ZA (va_A (tw_W h q g hj pt tg sa ta n SO tn tx I cx SP SL) sz) U)) (th_Qw "java/util/NoSuchElementException" (fun t => va_P (dC, dI) vwCl (tw_W h q g hj pt tg sa ta n SO tn tx I' cx' SP' SL') t.heap ∧ va_K (dC, dI) vwCl (tw_T h q g hj pt tg sa ta n SO tn tx) t ∧ va_D (va_A (tw_W h q g hj pt tg sa ta n SO tn tx I cx SP SL) sz) (tw_W h q g hj pt tg sa ta n SO tn tx I' cx' SP' SL')) (va_A (tw_W h q g hj pt tg sa ta n SO tn tx I cx SP SL) sz)) 1 6 (va_A (tw_W h q g hj pt tg sa ta n SO tn tx I cx SP SL) sz) := by
  refine th_Met.ofW (cc := prog_1_method_12_code) (maxL := 2) (ret := (some .int)) (by decide) rfl ?_
  intro p e s m args below meth c s₁ B hml hnh hv
  obtain ⟨rfl, hsz, hP, hK, hD0, hZ⟩ := hv
  have hx := B.exec
  have hb := B.bytes
  have hr := B.returns
  have hts := atoms_spec (ws := w_D_redo) B.pre
  have hown : s.vm.findClass "DraftTree" = some m.cls := findClass_of_methodNamed B.named
  have hlocks := B.notSynchronized
  have htr := Launch.traces_off hfl B.admits
  subst hsz
  have hD := hD0.self (sz := s.heap.size)
  generalize hAe : va_A (tw_W h q g hj pt tg sa ta n SO tn tx I cx SP SL) s.heap.size = B9 at hD hZ ⊢
  have hA : ∀ q : Nat, s.heap.size ≤ q → B9 q := fun q h => by rw [← hAe]; exact Or.inr h
  clear hAe
  have hS : va_S B9 s.heap s.heap [] := va_S.rf
  have hl := lv_entry ([.ref h]) (n := 2) (Nat.le_of_ble_eq_true rfl)
  rw [lg_entry_eq]
  generalize (lg_sl ([.ref h]) ++ List.replicate (2 - (lg_sl ([.ref h])).length) Slot.unset).toArray = ls at hl ⊢
  have hl : lv_has ls 2 [(0, .ref h)] := hl
  unfold f_D_redo at hf
  refine lv_aload_n hx hb d_D_redo_0 rfl (lv_at hl 0 rfl) ?_
  refine va_get (D := (dC, dI)) (ci := 0) (v := .ref (q 2)) (C := R_D) (T := F_D) (N := 14) hx hb hts (fun w h => List.mem_cons_of_mem _ (in_D w h)) hown hK hP 0 rfl rfl 2 (by decide) (hts _ (List.mem_cons_of_mem _ lk_456)) (fun _ h9 => h9) rfl d_D_redo_1 ?_
  refine lv_aload_n hx hb d_D_redo_4 rfl (lv_at hl 0 rfl) ?_
  refine va_get (D := (dC, dI)) (ci := 0) (v := .int (I 4)) (C := R_D) (T := F_D) (N := 14) hx hb hts (fun w h => List.mem_cons_of_mem _ (in_D w h)) hown hK hP 0 rfl rfl 4 (by decide) (hts _ (List.mem_cons_of_mem _ lk_436)) (fun _ h9 => h9) rfl d_D_redo_5 ?_
  obtain ⟨hc1, hf⟩ := wk_if hf
  obtain ⟨hc1n, hf⟩ := wk_if hf
  have hc1i := wk_inb_lt hc1n
  refine va_aldq hx hb hK hP 1 0 rfl rfl (wk_inb_ok hc1) d_D_redo_8 ?_
  refine wk_top (w := .ref (sa ((I 4)).toNatClampNeg)) (tw_rf hc1i) ?_
  refine va_get (D := (dC, dI)) (ci := 1) (v := .int (SL ((I 4)).toNatClampNeg)) (C := R_S) (T := F_S) (N := 4) hx hb hts (fun w h => List.mem_cons_of_mem _ (in_S w h)) hown hK hP (2 + ((I 4)).toNatClampNeg) (va_poolAt rfl hc1i) rfl 3 (by decide) (hts _ (List.mem_cons_of_mem _ lk_464)) (fun _ h9 => h9) rfl d_D_redo_9 ?_
  refine lv_istore_n (lv' := [(1, .int (SL ((I 4)).toNatClampNeg)), (0, .ref h)]) hx hb d_D_redo_12 rfl hl (by decide) rfl (fun ls hl => ?_)
  have hl : lv_has ls 2 [(1, .int (SL ((I 4)).toNatClampNeg)), (0, .ref h)] := hl
  refine lv_iload_n hx hb d_D_redo_13 rfl (lv_at hl 0 rfl) ?_
  refine lv_iconst (v := (-1)) hx hb d_D_redo_14 (by decide) ?_
  refine lv_icmp_ne (tgt := 26) hx hb d_D_redo_15 (by decide) (fun hc2 => ?_) (fun hc2 => ?_)
  ·
    have hf := wk_iff hc2 hf
    refine lv_aload_n hx hb d_D_redo_26 rfl (lv_at hl 1 rfl) ?_
    refine lv_iload_n hx hb d_D_redo_27 rfl (lv_at hl 0 rfl) ?_
    have hFc := va_freeM (wc := (tw_W h q g hj pt tg sa ta n SO tn tx I cx SP SL)) hD hS hA (fun _ h9 => h9)
    cases hg1 : f_D_moveTo n SO I cx SP SL (SL ((I 4)).toNatClampNeg) with
    | none => rw [hg1] at hf; cases hf
    | some z1 =>
      obtain ⟨r1, I1, cx1, SP1, SL1⟩ := z1
      rw [hg1] at hf
      dsimp only [Option.bind_some] at hf
      refine va_callv (va_runV (As := [.int (SL ((I 4)).toNatClampNeg)]) (rest := []) ⟨hx, hb, hml, hown, hts⟩ (cm_D_moveTo l dC dI h q g hj pt tg sa ta n SO tn tx _  I cx SP SL (SL ((I 4)).toNatClampNeg) r1 I1 cx1 SP1 SL1 hg1) (cwV 1 hts (gd_v lk_466 lk_467 lk_468 lk_445 lk_465) rfl rfl rfl (by decide +kernel) ⟨Nat.le_of_ble_eq_true rfl, Nat.le_of_ble_eq_true rfl⟩) ⟨fun a U g mk q => by obtain ⟨q0, q1, qP, qK, qD⟩ := q; exact ⟨q0, q1, qP, va_K.moved (u := U) (U := U.calling g mk a) (Vm.Alike.refl U.vm) qK, qD⟩, va_recv (ci := 0) (q0 := 0) hK hP rfl rfl, fun U hU hW => ⟨rfl, by rw [hU], by rw [hU]; exact hP, va_K.moved hW.alike hK, hD.weaken (fun _ _ _ _ => trivial)⟩⟩ rfl rfl hl.1 rfl (lv_room (Nat.le_of_ble_eq_true rfl)) d_D_redo_28 ⟨Nat.le_of_ble_eq_true rfl, Nat.le_of_ble_eq_true rfl⟩) hS (fun q _ h => hFc q h) hFc (fun u t H1 locs ht hvm hw hB hz1 hk1 hS => ?_)
      obtain ⟨hP1, hK1, hD1⟩ := hB
      rw [ht] at hP1
      have hP := hP1
      have hD := hD1.weaken (fun _ q _ h => hFc q.1 h)
      generalize H1 = H at hP hS ⊢
      refine lv_aload_n hx hb d_D_redo_31 rfl (lv_at hl 1 rfl) ?_
      refine va_get (D := (dC, dI)) (ci := 0) (v := .int (I1 4)) (C := R_D) (T := F_D) (N := 14) hx hb hts (fun w h => List.mem_cons_of_mem _ (in_D w h)) hown hK hP 0 rfl rfl 4 (by decide) (hts _ (List.mem_cons_of_mem _ lk_436)) (fun _ h9 => h9) rfl d_D_redo_32 ?_
      exact (wk_tag (by decide) hf).elim
  ·
    have hf := wk_ift hc2 hf
    obtain ⟨e0, e1, e2, e3, e4, e5⟩ := wk_inj5 hf
    subst e1
    subst e2
    subst e3
    subst e4
    subst e5
    exact th_newG hx hb htr hown (by decide) (by decide) (wk_thr hts hZ hS lk_448 lk_449 (fun _ a9 b9 => oa_3 a9 b9)) hnh (by rw [hl.1, hml]) hS (Nat.le_of_ble_eq_true rfl) (Nat.le_of_ble_eq_true rfl) (Nat.le_of_ble_eq_true rfl) (Nat.le_of_ble_eq_true rfl) (Nat.le_of_ble_eq_true rfl) (Nat.le_of_ble_eq_true rfl) hlocks (fun t hal hk => ⟨hP.kept (fun k q hq => hk _ (hP k q hq).lt), va_K.moved hal hK, hD⟩) d_D_redo_18 d_D_redo_21 d_D_redo_22 d_D_redo_25

set_option maxHeartbeats 8000000 in
set_option maxRecDepth 100000 in
theorem cm_D_selectionEnd (l : Launch) (dC : Nat → ClassId) (dI : Nat → Nat → Nat) (h : Nat) (q : Nat → Nat) (g : Nat → ClassId) (hp : Nat) (qp : Nat → Nat) (gp : Nat → ClassId) (tq : Nat) (tg : ClassId) (tn : Nat) (tx : Nat → Int32) (sz : Nat) (I : MI) (A : MA) (M : MI) (MB : MA) (L : ML) (r : Int32) (I' : MI) (A' : MA) (M' : MI) (MB' : MA) (L' : ML) (hf : f_D_selectionEnd tn tx I A M MB L  = some (r, I', A', M', MB', L')) : Met l y_D_selectionEnd w_D_selectionEnd ({ frames := 1, cells := 0, slots := 0, locals := 13 }) (va_Pc [.ref h] (fun U => U.heap.size = sz ∧ va_P (dC, dI) vwCl (dw_W h q g hp qp gp tq tg tn tx I A M MB L) U.heap ∧ va_K (dC, dI) vwCl (dw_T h q g hp qp gp tq tg tn tx) U ∧ va_D (fun _ => True) (dw_W h q g hp qp gp tq tg tn tx I A M MB L))) (va_Qi (fun (r9 : Int32) (_ : Unit) => r9 = r) (fun (_ : Unit) t => va_P (dC, dI) vwCl (dw_W h q g hp qp gp tq tg tn tx I' A' M' MB' L') t.heap ∧ va_K (dC, dI) vwCl (dw_T h q g hp qp gp tq tg tn tx) t ∧ va_D (va_A (dw_W h q g hp qp gp tq tg tn tx I A M MB L) sz) (dw_W h q g hp qp gp tq tg tn tx I' A' M' MB' L')) (va_A (dw_W h q g hp qp gp tq tg tn tx I A M MB L) sz)) 0 0 (va_A (dw_W h q g hp qp gp tq tg tn tx I A M MB L) sz) := by
  refine Met.ofW (cc := prog_1_method_22_code) (maxL := 1) (ret := (some .int)) (by decide) rfl ?_
  intro p e s m args below meth c s₁ B hml hv
  obtain ⟨rfl, hsz, hP, hK, hD0⟩ := hv
  have hx := B.exec
  have hb := B.bytes
  have hr := B.returns
  have hts := atoms_spec (ws := w_D_selectionEnd) B.pre
  have hown : s.vm.findClass "DraftTree" = some m.cls := findClass_of_methodNamed B.named
  have hlocks := B.notSynchronized
  subst hsz
  have hD := hD0.self (sz := s.heap.size)
  generalize hAe : va_A (dw_W h q g hp qp gp tq tg tn tx I A M MB L) s.heap.size = B9 at hD ⊢
  have hA : ∀ q : Nat, s.heap.size ≤ q → B9 q := fun q h => by rw [← hAe]; exact Or.inr h
  clear hAe
  have hS : va_S B9 s.heap s.heap [] := va_S.rf
  have hl := lv_entry ([.ref h]) (n := 1) (Nat.le_of_ble_eq_true rfl)
  rw [lg_entry_eq]
  generalize (lg_sl ([.ref h]) ++ List.replicate (1 - (lg_sl ([.ref h])).length) Slot.unset).toArray = ls at hl ⊢
  have hl : lv_has ls 1 [(0, .ref h)] := hl
  have blk26 : ∀ (I : MI) (A : MA) (M : MI) (MB : MA) (L : ML) (X : Nat → Int32) (Y : Nat → Int64) (s0 : Int32) (ls : Array Slot) (H : Heap) (locs : List Loc), f_D_selectionEnd_26 tn tx I A M MB L X Y s0 = some (r, I', A', M', MB', L') → lv_has ls 1 [(0, .ref h)] → va_P (dC, dI) vwCl (dw_W h q g hp qp gp tq tg tn tx I A M MB L) H → va_D B9 (dw_W h q g hp qp gp tq tg tn tx I A M MB L) → va_S B9 s.heap H locs → W p l e (headSpec w_D_selectionEnd ({ frames := 1, cells := 0, slots := 0, locals := 13 })).room s m ([.ref h] : List Value).toArray below meth c H locs 0 0 (MQ below (va_Qi (fun (r9 : Int32) (_ : Unit) => r9 = r) (fun (_ : Unit) t => va_P (dC, dI) vwCl (dw_W h q g hp qp gp tq tg tn tx I' A' M' MB' L') t.heap ∧ va_K (dC, dI) vwCl (dw_T h q g hp qp gp tq tg tn tx) t ∧ va_D B9 (dw_W h q g hp qp gp tq tg tn tx I' A' M' MB' L')) B9) ([.ref h] : List Value).toArray s 0 0 B9) (F0 m 26 ls [.int s0]) := by
    intro I A M MB L X Y s0 ls H locs hf hl hP hD hS
    unfold f_D_selectionEnd_26 at hf
    obtain ⟨e0, e1, e2, e3, e4, e5⟩ := wk_inj5 hf
    subst e0
    subst e1
    subst e2
    subst e3
    subst e4
    subst e5
    exact W.iret (v := s0) hx hb hr (fun t ht hW => ⟨⟨s0, (), rfl, rfl, by rw [ht]; exact hP, va_K.moved hW.alike hK, hD⟩, hS.F ht⟩) hS.2.2 d_D_selectionEnd_26
  unfold f_D_selectionEnd at hf
  refine lv_aload_n hx hb d_D_selectionEnd_0 rfl (lv_at hl 0 rfl) ?_
  refine va_get (D := (dC, dI)) (ci := 0) (v := .int (I 7)) (C := R_D) (T := F_D) (N := 14) hx hb hts (fun w h => List.mem_cons_of_mem _ (in_D w h)) hown hK hP 0 rfl rfl 7 (by decide) (hts _ (List.mem_cons_of_mem _ lk_439)) (fun _ h9 => h9) rfl d_D_selectionEnd_1 ?_
  refine lv_iconst (v := (-1)) hx hb d_D_selectionEnd_4 (by decide) ?_
  refine lv_icmp_ne (tgt := 15) hx hb d_D_selectionEnd_5 (by decide) (fun hc1 => ?_) (fun hc1 => ?_)
  ·
    have hf := wk_iff hc1 hf
    refine lv_aload_n hx hb d_D_selectionEnd_15 rfl (lv_at hl 0 rfl) ?_
    refine va_get (D := (dC, dI)) (ci := 0) (v := .int (I 7)) (C := R_D) (T := F_D) (N := 14) hx hb hts (fun w h => List.mem_cons_of_mem _ (in_D w h)) hown hK hP 0 rfl rfl 7 (by decide) (hts _ (List.mem_cons_of_mem _ lk_439)) (fun _ h9 => h9) rfl d_D_selectionEnd_16 ?_
    refine lv_aload_n hx hb d_D_selectionEnd_19 rfl (lv_at hl 0 rfl) ?_
    refine va_get (D := (dC, dI)) (ci := 0) (v := .int (I 6)) (C := R_D) (T := F_D) (N := 14) hx hb hts (fun w h => List.mem_cons_of_mem _ (in_D w h)) hown hK hP 0 rfl rfl 6 (by decide) (hts _ (List.mem_cons_of_mem _ lk_438)) (fun _ h9 => h9) rfl d_D_selectionEnd_20 ?_
    refine va_mmax hx hb (by rw [hml, hl.1]) hown (hts _ (List.mem_cons_of_mem _ lk_485)) (hts _ (List.mem_cons_of_mem _ lk_486)) (hts _ (List.mem_cons_of_mem _ lk_487)) (hts _ (List.mem_cons_of_mem _ lk_488)) (Nat.le_of_ble_eq_true rfl) (Nat.le_of_ble_eq_true rfl) (Nat.le_of_ble_eq_true rfl) (Nat.le_of_ble_eq_true rfl) d_D_selectionEnd_23 ?_
    exact blk26 I A M MB L (fun _ => 0) (fun _ => 0) (if (I 7) < (I 6) then (I 6) else (I 7)) _ _ _ hf (lv_sub hl [0] rfl) hP hD hS
  ·
    have hf := wk_ift hc1 hf
    refine lv_aload_n hx hb d_D_selectionEnd_8 rfl (lv_at hl 0 rfl) ?_
    refine va_get (D := (dC, dI)) (ci := 0) (v := .int (I 6)) (C := R_D) (T := F_D) (N := 14) hx hb hts (fun w h => List.mem_cons_of_mem _ (in_D w h)) hown hK hP 0 rfl rfl 6 (by decide) (hts _ (List.mem_cons_of_mem _ lk_438)) (fun _ h9 => h9) rfl d_D_selectionEnd_9 ?_
    refine lv_goto (tgt := 26) hx hb d_D_selectionEnd_12 (by decide) ?_
    exact blk26 I A M MB L (fun _ => 0) (fun _ => 0) (I 6) _ _ _ hf (lv_sub hl [0] rfl) hP hD hS

set_option maxHeartbeats 8000000 in
set_option maxRecDepth 100000 in
theorem cm_D_selectionStart (l : Launch) (dC : Nat → ClassId) (dI : Nat → Nat → Nat) (h : Nat) (q : Nat → Nat) (g : Nat → ClassId) (hp : Nat) (qp : Nat → Nat) (gp : Nat → ClassId) (tq : Nat) (tg : ClassId) (tn : Nat) (tx : Nat → Int32) (sz : Nat) (I : MI) (A : MA) (M : MI) (MB : MA) (L : ML) (r : Int32) (I' : MI) (A' : MA) (M' : MI) (MB' : MA) (L' : ML) (hf : f_D_selectionStart tn tx I A M MB L  = some (r, I', A', M', MB', L')) : Met l y_D_selectionStart w_D_selectionStart ({ frames := 1, cells := 0, slots := 0, locals := 13 }) (va_Pc [.ref h] (fun U => U.heap.size = sz ∧ va_P (dC, dI) vwCl (dw_W h q g hp qp gp tq tg tn tx I A M MB L) U.heap ∧ va_K (dC, dI) vwCl (dw_T h q g hp qp gp tq tg tn tx) U ∧ va_D (fun _ => True) (dw_W h q g hp qp gp tq tg tn tx I A M MB L))) (va_Qi (fun (r9 : Int32) (_ : Unit) => r9 = r) (fun (_ : Unit) t => va_P (dC, dI) vwCl (dw_W h q g hp qp gp tq tg tn tx I' A' M' MB' L') t.heap ∧ va_K (dC, dI) vwCl (dw_T h q g hp qp gp tq tg tn tx) t ∧ va_D (va_A (dw_W h q g hp qp gp tq tg tn tx I A M MB L) sz) (dw_W h q g hp qp gp tq tg tn tx I' A' M' MB' L')) (va_A (dw_W h q g hp qp gp tq tg tn tx I A M MB L) sz)) 0 0 (va_A (dw_W h q g hp qp gp tq tg tn tx I A M MB L) sz) := by
  refine Met.ofW (cc := prog_1_method_21_code) (maxL := 1) (ret := (some .int)) (by decide) rfl ?_
  intro p e s m args below meth c s₁ B hml hv
  obtain ⟨rfl, hsz, hP, hK, hD0⟩ := hv
  have hx := B.exec
  have hb := B.bytes
  have hr := B.returns
  have hts := atoms_spec (ws := w_D_selectionStart) B.pre
  have hown : s.vm.findClass "DraftTree" = some m.cls := findClass_of_methodNamed B.named
  have hlocks := B.notSynchronized
  subst hsz
  have hD := hD0.self (sz := s.heap.size)
  generalize hAe : va_A (dw_W h q g hp qp gp tq tg tn tx I A M MB L) s.heap.size = B9 at hD ⊢
  have hA : ∀ q : Nat, s.heap.size ≤ q → B9 q := fun q h => by rw [← hAe]; exact Or.inr h
  clear hAe
  have hS : va_S B9 s.heap s.heap [] := va_S.rf
  have hl := lv_entry ([.ref h]) (n := 1) (Nat.le_of_ble_eq_true rfl)
  rw [lg_entry_eq]
  generalize (lg_sl ([.ref h]) ++ List.replicate (1 - (lg_sl ([.ref h])).length) Slot.unset).toArray = ls at hl ⊢
  have hl : lv_has ls 1 [(0, .ref h)] := hl
  have blk26 : ∀ (I : MI) (A : MA) (M : MI) (MB : MA) (L : ML) (X : Nat → Int32) (Y : Nat → Int64) (s0 : Int32) (ls : Array Slot) (H : Heap) (locs : List Loc), f_D_selectionStart_26 tn tx I A M MB L X Y s0 = some (r, I', A', M', MB', L') → lv_has ls 1 [(0, .ref h)] → va_P (dC, dI) vwCl (dw_W h q g hp qp gp tq tg tn tx I A M MB L) H → va_D B9 (dw_W h q g hp qp gp tq tg tn tx I A M MB L) → va_S B9 s.heap H locs → W p l e (headSpec w_D_selectionStart ({ frames := 1, cells := 0, slots := 0, locals := 13 })).room s m ([.ref h] : List Value).toArray below meth c H locs 0 0 (MQ below (va_Qi (fun (r9 : Int32) (_ : Unit) => r9 = r) (fun (_ : Unit) t => va_P (dC, dI) vwCl (dw_W h q g hp qp gp tq tg tn tx I' A' M' MB' L') t.heap ∧ va_K (dC, dI) vwCl (dw_T h q g hp qp gp tq tg tn tx) t ∧ va_D B9 (dw_W h q g hp qp gp tq tg tn tx I' A' M' MB' L')) B9) ([.ref h] : List Value).toArray s 0 0 B9) (F0 m 26 ls [.int s0]) := by
    intro I A M MB L X Y s0 ls H locs hf hl hP hD hS
    unfold f_D_selectionStart_26 at hf
    obtain ⟨e0, e1, e2, e3, e4, e5⟩ := wk_inj5 hf
    subst e0
    subst e1
    subst e2
    subst e3
    subst e4
    subst e5
    exact W.iret (v := s0) hx hb hr (fun t ht hW => ⟨⟨s0, (), rfl, rfl, by rw [ht]; exact hP, va_K.moved hW.alike hK, hD⟩, hS.F ht⟩) hS.2.2 d_D_selectionStart_26
  unfold f_D_selectionStart at hf
  refine lv_aload_n hx hb d_D_selectionStart_0 rfl (lv_at hl 0 rfl) ?_
  refine va_get (D := (dC, dI)) (ci := 0) (v := .int (I 7)) (C := R_D) (T := F_D) (N := 14) hx hb hts (fun w h => List.mem_cons_of_mem _ (in_D w h)) hown hK hP 0 rfl rfl 7 (by decide) (hts _ (List.mem_cons_of_mem _ lk_439)) (fun _ h9 => h9) rfl d_D_selectionStart_1 ?_
  refine lv_iconst (v := (-1)) hx hb d_D_selectionStart_4 (by decide) ?_
  refine lv_icmp_ne (tgt := 15) hx hb d_D_selectionStart_5 (by decide) (fun hc1 => ?_) (fun hc1 => ?_)
  ·
    have hf := wk_iff hc1 hf
    refine lv_aload_n hx hb d_D_selectionStart_15 rfl (lv_at hl 0 rfl) ?_
    refine va_get (D := (dC, dI)) (ci := 0) (v := .int (I 7)) (C := R_D) (T := F_D) (N := 14) hx hb hts (fun w h => List.mem_cons_of_mem _ (in_D w h)) hown hK hP 0 rfl rfl 7 (by decide) (hts _ (List.mem_cons_of_mem _ lk_439)) (fun _ h9 => h9) rfl d_D_selectionStart_16 ?_
    refine lv_aload_n hx hb d_D_selectionStart_19 rfl (lv_at hl 0 rfl) ?_
    refine va_get (D := (dC, dI)) (ci := 0) (v := .int (I 6)) (C := R_D) (T := F_D) (N := 14) hx hb hts (fun w h => List.mem_cons_of_mem _ (in_D w h)) hown hK hP 0 rfl rfl 6 (by decide) (hts _ (List.mem_cons_of_mem _ lk_438)) (fun _ h9 => h9) rfl d_D_selectionStart_20 ?_
    refine va_mmin hx hb (by rw [hml, hl.1]) hown (hts _ (List.mem_cons_of_mem _ lk_490)) (hts _ (List.mem_cons_of_mem _ lk_491)) (hts _ (List.mem_cons_of_mem _ lk_487)) (hts _ (List.mem_cons_of_mem _ lk_492)) (Nat.le_of_ble_eq_true rfl) (Nat.le_of_ble_eq_true rfl) (Nat.le_of_ble_eq_true rfl) (Nat.le_of_ble_eq_true rfl) d_D_selectionStart_23 ?_
    exact blk26 I A M MB L (fun _ => 0) (fun _ => 0) (if (I 6) < (I 7) then (I 6) else (I 7)) _ _ _ hf (lv_sub hl [0] rfl) hP hD hS
  ·
    have hf := wk_ift hc1 hf
    refine lv_aload_n hx hb d_D_selectionStart_8 rfl (lv_at hl 0 rfl) ?_
    refine va_get (D := (dC, dI)) (ci := 0) (v := .int (I 6)) (C := R_D) (T := F_D) (N := 14) hx hb hts (fun w h => List.mem_cons_of_mem _ (in_D w h)) hown hK hP 0 rfl rfl 6 (by decide) (hts _ (List.mem_cons_of_mem _ lk_438)) (fun _ h9 => h9) rfl d_D_selectionStart_9 ?_
    refine lv_goto (tgt := 26) hx hb d_D_selectionStart_12 (by decide) ?_
    exact blk26 I A M MB L (fun _ => 0) (fun _ => 0) (I 6) _ _ _ hf (lv_sub hl [0] rfl) hP hD hS

set_option maxHeartbeats 8000000 in
set_option maxRecDepth 100000 in
theorem cm_D_sizeWithSlipIn (l : Launch) (dC : Nat → ClassId) (dI : Nat → Nat → Nat) (h : Nat) (q : Nat → Nat) (g : Nat → ClassId) (hp : Nat) (qp : Nat → Nat) (gp : Nat → ClassId) (tq : Nat) (tg : ClassId) (tn : Nat) (tx : Nat → Int32) (sz : Nat) (I : MI) (A : MA) (M : MI) (MB : MA) (L : ML) (k1 : Int32) (r : Int32) (I' : MI) (A' : MA) (M' : MI) (MB' : MA) (L' : ML) (hf : f_D_sizeWithSlipIn tn tx I A M MB L  k1 = some (r, I', A', M', MB', L')) : Met l y_D_sizeWithSlipIn w_D_sizeWithSlipIn ({ frames := 0, cells := 0, slots := 0, locals := 0 }) (va_Pc [.ref h, .int k1] (fun U => U.heap.size = sz ∧ va_P (dC, dI) vwCl (dw_W h q g hp qp gp tq tg tn tx I A M MB L) U.heap ∧ va_K (dC, dI) vwCl (dw_T h q g hp qp gp tq tg tn tx) U ∧ va_D (fun _ => True) (dw_W h q g hp qp gp tq tg tn tx I A M MB L))) (va_Qi (fun (r9 : Int32) (_ : Unit) => r9 = r) (fun (_ : Unit) t => va_P (dC, dI) vwCl (dw_W h q g hp qp gp tq tg tn tx I' A' M' MB' L') t.heap ∧ va_K (dC, dI) vwCl (dw_T h q g hp qp gp tq tg tn tx) t ∧ va_D (va_A (dw_W h q g hp qp gp tq tg tn tx I A M MB L) sz) (dw_W h q g hp qp gp tq tg tn tx I' A' M' MB' L')) (va_A (dw_W h q g hp qp gp tq tg tn tx I A M MB L) sz)) 0 0 (va_A (dw_W h q g hp qp gp tq tg tn tx I A M MB L) sz) := by
  refine Met.ofW (cc := prog_1_method_27_code) (maxL := 4) (ret := (some .int)) (by decide) rfl ?_
  intro p e s m args below meth c s₁ B hml hv
  obtain ⟨rfl, hsz, hP, hK, hD0⟩ := hv
  have hx := B.exec
  have hb := B.bytes
  have hr := B.returns
  have hts := atoms_spec (ws := w_D_sizeWithSlipIn) B.pre
  have hown : s.vm.findClass "DraftTree" = some m.cls := findClass_of_methodNamed B.named
  have hlocks := B.notSynchronized
  subst hsz
  have hD := hD0.self (sz := s.heap.size)
  generalize hAe : va_A (dw_W h q g hp qp gp tq tg tn tx I A M MB L) s.heap.size = B9 at hD ⊢
  have hA : ∀ q : Nat, s.heap.size ≤ q → B9 q := fun q h => by rw [← hAe]; exact Or.inr h
  clear hAe
  have hS : va_S B9 s.heap s.heap [] := va_S.rf
  have hl := lv_entry ([.ref h, .int k1]) (n := 4) (Nat.le_of_ble_eq_true rfl)
  rw [lg_entry_eq]
  generalize (lg_sl ([.ref h, .int k1]) ++ List.replicate (4 - (lg_sl ([.ref h, .int k1])).length) Slot.unset).toArray = ls at hl ⊢
  have hl : lv_has ls 4 [(0, .ref h), (1, .int k1)] := hl
  have stp15 : ∀ (rc : Nat → MI → MA → MI → MA → ML → (Nat → Int32) → (Nat → Int64) → Option (Int32 × MI × MA × MI × MA × ML)) (hrc15 : ∀ (I : MI) (A : MA) (M : MI) (MB : MA) (L : ML) (X : Nat → Int32) (Y : Nat → Int64) (ls : Array Slot) (H : Heap) (locs : List Loc), rc 15 I A M MB L X Y = some (r, I', A', M', MB', L') → lv_has ls 4 [(0, .ref h), (1, .int (X 1)), (2, .int (X 2)), (3, .int (X 3))] → va_P (dC, dI) vwCl (dw_W h q g hp qp gp tq tg tn tx I A M MB L) H → va_D B9 (dw_W h q g hp qp gp tq tg tn tx I A M MB L) → va_S B9 s.heap H locs → W p l e (headSpec w_D_sizeWithSlipIn ({ frames := 0, cells := 0, slots := 0, locals := 0 })).room s m ([.ref h, .int k1] : List Value).toArray below meth c H locs 0 0 (MQ below (va_Qi (fun (r9 : Int32) (_ : Unit) => r9 = r) (fun (_ : Unit) t => va_P (dC, dI) vwCl (dw_W h q g hp qp gp tq tg tn tx I' A' M' MB' L') t.heap ∧ va_K (dC, dI) vwCl (dw_T h q g hp qp gp tq tg tn tx) t ∧ va_D B9 (dw_W h q g hp qp gp tq tg tn tx I' A' M' MB' L')) B9) ([.ref h, .int k1] : List Value).toArray s 0 0 B9) (F0 m 15 ls [])), ∀ (I : MI) (A : MA) (M : MI) (MB : MA) (L : ML) (X : Nat → Int32) (Y : Nat → Int64) (ls : Array Slot) (H : Heap) (locs : List Loc), f_D_sizeWithSlipIn_15 tn tx rc I A M MB L X Y = some (r, I', A', M', MB', L') → lv_has ls 4 [(0, .ref h), (1, .int (X 1)), (2, .int (X 2)), (3, .int (X 3))] → va_P (dC, dI) vwCl (dw_W h q g hp qp gp tq tg tn tx I A M MB L) H → va_D B9 (dw_W h q g hp qp gp tq tg tn tx I A M MB L) → va_S B9 s.heap H locs → W p l e (headSpec w_D_sizeWithSlipIn ({ frames := 0, cells := 0, slots := 0, locals := 0 })).room s m ([.ref h, .int k1] : List Value).toArray below meth c H locs 0 0 (MQ below (va_Qi (fun (r9 : Int32) (_ : Unit) => r9 = r) (fun (_ : Unit) t => va_P (dC, dI) vwCl (dw_W h q g hp qp gp tq tg tn tx I' A' M' MB' L') t.heap ∧ va_K (dC, dI) vwCl (dw_T h q g hp qp gp tq tg tn tx) t ∧ va_D B9 (dw_W h q g hp qp gp tq tg tn tx I' A' M' MB' L')) B9) ([.ref h, .int k1] : List Value).toArray s 0 0 B9) (F0 m 15 ls []) := by
    intro rc hrc15 I A M MB L X Y ls H locs hf hl hP hD hS
    unfold f_D_sizeWithSlipIn_15 at hf
    refine lv_iload_n hx hb d_D_sizeWithSlipIn_15 rfl (lv_at hl 3 rfl) ?_
    refine lv_iload_n hx hb d_D_sizeWithSlipIn_16 rfl (lv_at hl 1 rfl) ?_
    refine lv_icmp_ge (tgt := 42) hx hb d_D_sizeWithSlipIn_17 (by decide) (fun hc1 => ?_) (fun hc1 => ?_)
    ·
      have hf := wk_ift hc1 hf
      refine lv_iload_n hx hb d_D_sizeWithSlipIn_42 rfl (lv_at hl 2 rfl) ?_
      obtain ⟨e0, e1, e2, e3, e4, e5⟩ := wk_inj5 hf
      subst e0
      subst e1
      subst e2
      subst e3
      subst e4
      subst e5
      exact W.iret (v := (X 2)) hx hb hr (fun t ht hW => ⟨⟨(X 2), (), rfl, rfl, by rw [ht]; exact hP, va_K.moved hW.alike hK, hD⟩, hS.F ht⟩) hS.2.2 d_D_sizeWithSlipIn_43
    ·
      have hf := wk_iff hc1 hf
      refine lv_iload_n hx hb d_D_sizeWithSlipIn_20 rfl (lv_at hl 2 rfl) ?_
      refine lv_aload_n hx hb d_D_sizeWithSlipIn_21 rfl (lv_at hl 0 rfl) ?_
      refine va_get (D := (dC, dI)) (ci := 0) (v := .ref (q 13)) (C := R_D) (T := F_D) (N := 14) hx hb hts (fun w h => List.mem_cons_of_mem _ (in_D w h)) hown hK hP 0 rfl rfl 13 (by decide) (hts _ (List.mem_cons_of_mem _ lk_308)) (fun _ h9 => h9) rfl d_D_sizeWithSlipIn_22 ?_
      refine lv_iload_n hx hb d_D_sizeWithSlipIn_25 rfl (lv_at hl 3 rfl) ?_
      obtain ⟨hc2, hf⟩ := wk_if hf
      refine va_iald hx hb hK hP 3 2 rfl rfl (wk_inb_ok hc2) d_D_sizeWithSlipIn_26 ?_
      refine lv_aload_n hx hb d_D_sizeWithSlipIn_27 rfl (lv_at hl 0 rfl) ?_
      refine va_get (D := (dC, dI)) (ci := 0) (v := .ref (q 12)) (C := R_D) (T := F_D) (N := 14) hx hb hts (fun w h => List.mem_cons_of_mem _ (in_D w h)) hown hK hP 0 rfl rfl 12 (by decide) (hts _ (List.mem_cons_of_mem _ lk_306)) (fun _ h9 => h9) rfl d_D_sizeWithSlipIn_28 ?_
      refine lv_iload_n hx hb d_D_sizeWithSlipIn_31 rfl (lv_at hl 3 rfl) ?_
      obtain ⟨hc3, hf⟩ := wk_if hf
      refine va_iald hx hb hK hP 2 1 rfl rfl (wk_inb_ok hc3) d_D_sizeWithSlipIn_32 ?_
      refine lv_isub hx hb d_D_sizeWithSlipIn_33 ?_
      refine lv_isub hx hb d_D_sizeWithSlipIn_34 ?_
      refine lv_istore_n (lv' := [(2, .int ((X 2) - ((A 13 ((X 3)).toNatClampNeg) - (A 12 ((X 3)).toNatClampNeg)))), (0, .ref h), (1, .int (X 1)), (3, .int (X 3))]) hx hb d_D_sizeWithSlipIn_35 rfl hl (by decide) rfl (fun ls hl => ?_)
      have hl : lv_has ls 4 [(2, .int ((X 2) - ((A 13 ((X 3)).toNatClampNeg) - (A 12 ((X 3)).toNatClampNeg)))), (0, .ref h), (1, .int (X 1)), (3, .int (X 3))] := hl
      refine lv_iinc (k := 3) (v := ((X 3) + 1)) (lv' := [(3, .int ((X 3) + 1)), (2, .int ((X 2) - ((A 13 ((X 3)).toNatClampNeg) - (A 12 ((X 3)).toNatClampNeg)))), (0, .ref h), (1, .int (X 1))]) hx hb d_D_sizeWithSlipIn_36 hl rfl (wk_inc (by decide)) (by decide) rfl (fun ls hl => ?_)
      have hl : lv_has ls 4 [(3, .int ((X 3) + 1)), (2, .int ((X 2) - ((A 13 ((X 3)).toNatClampNeg) - (A 12 ((X 3)).toNatClampNeg)))), (0, .ref h), (1, .int (X 1))] := hl
      refine lv_goto (tgt := 15) hx hb d_D_sizeWithSlipIn_39 (by decide) ?_
      exact hrc15 I A M MB L (upd (upd X 2 ((X 2) - ((A 13 ((X 3)).toNatClampNeg) - (A 12 ((X 3)).toNatClampNeg)))) 3 ((X 3) + 1)) Y _ _ _ hf (lv_sub hl [2, 3, 1, 0] rfl) hP hD hS
  have key : ∀ n : Nat, (∀ (I : MI) (A : MA) (M : MI) (MB : MA) (L : ML) (X : Nat → Int32) (Y : Nat → Int64) (ls : Array Slot) (H : Heap) (locs : List Loc), f_D_sizeWithSlipIn_go tn tx n 15 I A M MB L X Y = some (r, I', A', M', MB', L') → lv_has ls 4 [(0, .ref h), (1, .int (X 1)), (2, .int (X 2)), (3, .int (X 3))] → va_P (dC, dI) vwCl (dw_W h q g hp qp gp tq tg tn tx I A M MB L) H → va_D B9 (dw_W h q g hp qp gp tq tg tn tx I A M MB L) → va_S B9 s.heap H locs → W p l e (headSpec w_D_sizeWithSlipIn ({ frames := 0, cells := 0, slots := 0, locals := 0 })).room s m ([.ref h, .int k1] : List Value).toArray below meth c H locs 0 0 (MQ below (va_Qi (fun (r9 : Int32) (_ : Unit) => r9 = r) (fun (_ : Unit) t => va_P (dC, dI) vwCl (dw_W h q g hp qp gp tq tg tn tx I' A' M' MB' L') t.heap ∧ va_K (dC, dI) vwCl (dw_T h q g hp qp gp tq tg tn tx) t ∧ va_D B9 (dw_W h q g hp qp gp tq tg tn tx I' A' M' MB' L')) B9) ([.ref h, .int k1] : List Value).toArray s 0 0 B9) (F0 m 15 ls [])) := by
    intro n
    induction n with
    | zero => exact fun I A M MB L X Y ls H locs hf => (by cases hf)
    | succ n ih =>
      have ih15 := ih
      exact stp15 (f_D_sizeWithSlipIn_go tn tx n) ih15
  unfold f_D_sizeWithSlipIn f_D_sizeWithSlipIn_e at hf
  have hrc15 := key wk_FUEL
  refine lv_aload_n hx hb d_D_sizeWithSlipIn_0 rfl (lv_at hl 0 rfl) ?_
  refine va_get (D := (dC, dI)) (ci := 0) (v := .ref tq) (C := R_D) (T := F_D) (N := 14) hx hb hts (fun w h => List.mem_cons_of_mem _ (in_D w h)) hown hK hP 0 rfl rfl 5 (by decide) (hts _ (List.mem_cons_of_mem _ lk_242)) (fun _ h9 => h9) rfl d_D_sizeWithSlipIn_1 ?_
  refine va_alen (v := (Int32.ofNat tn)) hx hb hK hP 10 8 rfl rfl rfl d_D_sizeWithSlipIn_4 ?_
  refine lv_iload_n hx hb d_D_sizeWithSlipIn_5 rfl (lv_at hl 1 rfl) ?_
  refine lv_aload_n hx hb d_D_sizeWithSlipIn_6 rfl (lv_at hl 0 rfl) ?_
  refine va_get (D := (dC, dI)) (ci := 0) (v := .int (I 1)) (C := R_D) (T := F_D) (N := 14) hx hb hts (fun w h => List.mem_cons_of_mem _ (in_D w h)) hown hK hP 0 rfl rfl 1 (by decide) (hts _ (List.mem_cons_of_mem _ lk_313)) (fun _ h9 => h9) rfl d_D_sizeWithSlipIn_7 ?_
  refine lv_imul hx hb d_D_sizeWithSlipIn_10 ?_
  refine lv_iadd hx hb d_D_sizeWithSlipIn_11 ?_
  refine lv_istore_n (lv' := [(2, .int ((Int32.ofNat tn) + (k1 * (I 1)))), (0, .ref h), (1, .int k1)]) hx hb d_D_sizeWithSlipIn_12 rfl hl (by decide) rfl (fun ls hl => ?_)
  have hl : lv_has ls 4 [(2, .int ((Int32.ofNat tn) + (k1 * (I 1)))), (0, .ref h), (1, .int k1)] := hl
  refine lv_iconst (v := 0) hx hb d_D_sizeWithSlipIn_13 (by decide) ?_
  refine lv_istore_n (lv' := [(3, .int 0), (2, .int ((Int32.ofNat tn) + (k1 * (I 1)))), (0, .ref h), (1, .int k1)]) hx hb d_D_sizeWithSlipIn_14 rfl hl (by decide) rfl (fun ls hl => ?_)
  have hl : lv_has ls 4 [(3, .int 0), (2, .int ((Int32.ofNat tn) + (k1 * (I 1)))), (0, .ref h), (1, .int k1)] := hl
  exact hrc15 I A M MB L (upd (upd (upd (fun _ => 0) 1 k1) 2 ((Int32.ofNat tn) + (k1 * (I 1)))) 3 0) (fun _ => 0) _ _ _ hf (lv_sub hl [2, 3, 1, 0] rfl) hP hD hS

set_option maxHeartbeats 8000000 in
set_option maxRecDepth 100000 in
theorem cm_D_type (l : Launch) (dC : Nat → ClassId) (dI : Nat → Nat → Nat) (h : Nat) (q : Nat → Nat) (g : Nat → ClassId) (hp : Nat) (qp : Nat → Nat) (gp : Nat → ClassId) (tq : Nat) (tg : ClassId) (tn : Nat) (tx : Nat → Int32) (sz : Nat) (I : MI) (A : MA) (M : MI) (MB : MA) (L : ML) (k1 : Int32) (r : Int32) (I' : MI) (A' : MA) (M' : MI) (MB' : MA) (L' : ML) (hf : f_D_type tn tx I A M MB L  k1 = some (r, I', A', M', MB', L')) : Met l y_D_type w_D_type ({ frames := 0, cells := 0, slots := 0, locals := 0 }) (va_Pc [.ref h, .int k1] (fun U => U.heap.size = sz ∧ va_P (dC, dI) vwCl (dw_W h q g hp qp gp tq tg tn tx I A M MB L) U.heap ∧ va_K (dC, dI) vwCl (dw_T h q g hp qp gp tq tg tn tx) U ∧ va_D (fun _ => True) (dw_W h q g hp qp gp tq tg tn tx I A M MB L))) (va_Qi (fun (r9 : Int32) (_ : Unit) => r9 = r) (fun (_ : Unit) t => va_P (dC, dI) vwCl (dw_W h q g hp qp gp tq tg tn tx I' A' M' MB' L') t.heap ∧ va_K (dC, dI) vwCl (dw_T h q g hp qp gp tq tg tn tx) t ∧ va_D (va_A (dw_W h q g hp qp gp tq tg tn tx I A M MB L) sz) (dw_W h q g hp qp gp tq tg tn tx I' A' M' MB' L')) (va_A (dw_W h q g hp qp gp tq tg tn tx I A M MB L) sz)) 0 0 (va_A (dw_W h q g hp qp gp tq tg tn tx I A M MB L) sz) := by
  refine Met.ofW (cc := prog_1_method_2_code) (maxL := 3) (ret := (some .boolean)) (by decide) rfl ?_
  intro p e s m args below meth c s₁ B hml hv
  obtain ⟨rfl, hsz, hP, hK, hD0⟩ := hv
  have hx := B.exec
  have hb := B.bytes
  have hr := B.returns
  have hts := atoms_spec (ws := w_D_type) B.pre
  have hown : s.vm.findClass "DraftTree" = some m.cls := findClass_of_methodNamed B.named
  have hlocks := B.notSynchronized
  subst hsz
  have hD := hD0.self (sz := s.heap.size)
  generalize hAe : va_A (dw_W h q g hp qp gp tq tg tn tx I A M MB L) s.heap.size = B9 at hD ⊢
  have hA : ∀ q : Nat, s.heap.size ≤ q → B9 q := fun q h => by rw [← hAe]; exact Or.inr h
  clear hAe
  have hS : va_S B9 s.heap s.heap [] := va_S.rf
  have hl := lv_entry ([.ref h, .int k1]) (n := 3) (Nat.le_of_ble_eq_true rfl)
  rw [lg_entry_eq]
  generalize (lg_sl ([.ref h, .int k1]) ++ List.replicate (3 - (lg_sl ([.ref h, .int k1])).length) Slot.unset).toArray = ls at hl ⊢
  have hl : lv_has ls 3 [(0, .ref h), (1, .int k1)] := hl
  have blk37 : ∀ (I : MI) (A : MA) (M : MI) (MB : MA) (L : ML) (X : Nat → Int32) (Y : Nat → Int64) (ls : Array Slot) (H : Heap) (locs : List Loc), f_D_type_37 tn tx I A M MB L X Y = some (r, I', A', M', MB', L') → lv_has ls 3 [(0, .ref h), (1, .int (X 1)), (2, .int (X 2))] → va_P (dC, dI) vwCl (dw_W h q g hp qp gp tq tg tn tx I A M MB L) H → va_D B9 (dw_W h q g hp qp gp tq tg tn tx I A M MB L) → va_S B9 s.heap H locs → W p l e (headSpec w_D_type ({ frames := 0, cells := 0, slots := 0, locals := 0 })).room s m ([.ref h, .int k1] : List Value).toArray below meth c H locs 0 0 (MQ below (va_Qi (fun (r9 : Int32) (_ : Unit) => r9 = r) (fun (_ : Unit) t => va_P (dC, dI) vwCl (dw_W h q g hp qp gp tq tg tn tx I' A' M' MB' L') t.heap ∧ va_K (dC, dI) vwCl (dw_T h q g hp qp gp tq tg tn tx) t ∧ va_D B9 (dw_W h q g hp qp gp tq tg tn tx I' A' M' MB' L')) B9) ([.ref h, .int k1] : List Value).toArray s 0 0 B9) (F0 m 37 ls []) := by
    intro I A M MB L X Y ls H locs hf hl hP hD hS
    unfold f_D_type_37 at hf
    refine lv_iconst (v := 0) hx hb d_D_type_37 (by decide) ?_
    obtain ⟨e0, e1, e2, e3, e4, e5⟩ := wk_inj5 hf
    subst e0
    subst e1
    subst e2
    subst e3
    subst e4
    subst e5
    exact W.zret (v := 0) hx hb hr rfl (fun t ht hW => ⟨⟨0, (), rfl, rfl, by rw [ht]; exact hP, va_K.moved hW.alike hK, hD⟩, hS.F ht⟩) hS.2.2 d_D_type_38
  have blk23 : ∀ (I : MI) (A : MA) (M : MI) (MB : MA) (L : ML) (X : Nat → Int32) (Y : Nat → Int64) (s0 : Int32) (ls : Array Slot) (H : Heap) (locs : List Loc), f_D_type_23 tn tx I A M MB L X Y s0 = some (r, I', A', M', MB', L') → lv_has ls 3 [(0, .ref h), (1, .int (X 1))] → va_P (dC, dI) vwCl (dw_W h q g hp qp gp tq tg tn tx I A M MB L) H → va_D B9 (dw_W h q g hp qp gp tq tg tn tx I A M MB L) → va_S B9 s.heap H locs → W p l e (headSpec w_D_type ({ frames := 0, cells := 0, slots := 0, locals := 0 })).room s m ([.ref h, .int k1] : List Value).toArray below meth c H locs 0 0 (MQ below (va_Qi (fun (r9 : Int32) (_ : Unit) => r9 = r) (fun (_ : Unit) t => va_P (dC, dI) vwCl (dw_W h q g hp qp gp tq tg tn tx I' A' M' MB' L') t.heap ∧ va_K (dC, dI) vwCl (dw_T h q g hp qp gp tq tg tn tx) t ∧ va_D B9 (dw_W h q g hp qp gp tq tg tn tx I' A' M' MB' L')) B9) ([.ref h, .int k1] : List Value).toArray s 0 0 B9) (F0 m 23 ls [.int s0]) := by
    intro I A M MB L X Y s0 ls H locs hf hl hP hD hS
    unfold f_D_type_23 at hf
    refine lv_istore_n (lv' := [(2, .int s0), (0, .ref h), (1, .int (X 1))]) hx hb d_D_type_23 rfl hl (by decide) rfl (fun ls hl => ?_)
    have hl : lv_has ls 3 [(2, .int s0), (0, .ref h), (1, .int (X 1))] := hl
    refine lv_iload_n hx hb d_D_type_24 rfl (lv_at hl 0 rfl) ?_
    refine lv_if_eq (tgt := 37) hx hb d_D_type_25 (by decide) (fun hc1 => ?_) (fun hc1 => ?_)
    ·
      have hf := wk_ift hc1 hf
      exact blk37 I A M MB L (upd X 2 s0) Y _ _ _ hf (lv_sub hl [1, 2, 0] rfl) hP hD hS
    ·
      have hf := wk_iff hc1 hf
      refine lv_aload_n hx hb d_D_type_28 rfl (lv_at hl 1 rfl) ?_
      refine va_get (D := (dC, dI)) (ci := 0) (v := .int (I 1)) (C := R_D) (T := F_D) (N := 14) hx hb hts (fun w h => List.mem_cons_of_mem _ (in_D w h)) hown hK hP 0 rfl rfl 1 (by decide) (hts _ (List.mem_cons_of_mem _ lk_313)) (fun _ h9 => h9) rfl d_D_type_29 ?_
      refine lv_bipush (v := 24) hx hb d_D_type_32 (by decide) ?_
      refine lv_icmp_ne (tgt := 39) hx hb d_D_type_34 (by decide) (fun hc2 => ?_) (fun hc2 => ?_)
      ·
        have hf := wk_iff hc2 hf
        refine lv_aload_n hx hb d_D_type_39 rfl (lv_at hl 1 rfl) ?_
        refine va_get (D := (dC, dI)) (ci := 0) (v := .ref (q 0)) (C := R_D) (T := F_D) (N := 14) hx hb hts (fun w h => List.mem_cons_of_mem _ (in_D w h)) hown hK hP 0 rfl rfl 0 (by decide) (hts _ (List.mem_cons_of_mem _ lk_312)) (fun _ h9 => h9) rfl d_D_type_40 ?_
        refine lv_aload_n hx hb d_D_type_43 rfl (lv_at hl 1 rfl) ?_
        refine va_get (D := (dC, dI)) (ci := 0) (v := .int (I 1)) (C := R_D) (T := F_D) (N := 14) hx hb hts (fun w h => List.mem_cons_of_mem _ (in_D w h)) hown hK hP 0 rfl rfl 1 (by decide) (hts _ (List.mem_cons_of_mem _ lk_313)) (fun _ h9 => h9) rfl d_D_type_44 ?_
        refine lv_iload_n hx hb d_D_type_47 rfl (lv_at hl 2 rfl) ?_
        obtain ⟨hc3, hf⟩ := wk_if hf
        refine va_cast hx hb hK hP hD hS 1 0 rfl rfl (wk_inb_ok hc3) d_D_type_48 (fun H locs hP hD hS => ?_)
        obtain ⟨A1, hA1, hf⟩ := wk_letE hf
        have hP : va_P (dC, dI) vwCl (dw_W h q g hp qp gp tq tg tn tx I A1 M MB L) H := by rw [hA1]; exact hP
        have hD : va_D B9 (dw_W h q g hp qp gp tq tg tn tx I A1 M MB L) := by rw [hA1]; exact hD
        clear hA1
        refine lv_aload_n hx hb d_D_type_49 rfl (lv_at hl 1 rfl) ?_
        refine lv_dup hx hb d_D_type_50 rfl ?_
        refine va_get (D := (dC, dI)) (ci := 0) (v := .int (I 1)) (C := R_D) (T := F_D) (N := 14) hx hb hts (fun w h => List.mem_cons_of_mem _ (in_D w h)) hown hK hP 0 rfl rfl 1 (by decide) (hts _ (List.mem_cons_of_mem _ lk_313)) (fun _ h9 => h9) rfl d_D_type_51 ?_
        refine lv_iconst (v := 1) hx hb d_D_type_54 (by decide) ?_
        refine lv_iadd hx hb d_D_type_55 ?_
        refine va_put (D := (dC, dI)) (ci := 0) (v := .int ((I 1) + 1)) (ty := .int) (C := R_D) (T := F_D) (N := 14) hx hb hts (fun w h => List.mem_cons_of_mem _ (in_D w h)) t_D tk_D n_D hown hK hP hD hS 0 rfl rfl 1 (by decide) (hts _ (List.mem_cons_of_mem _ lk_313)) (fun _ h9 => h9) rfl (by decide +kernel) rfl rfl (Nat.le_of_ble_eq_true rfl) d_D_type_56 (fun H locs hP hD hS => ?_)
        obtain ⟨I2, hI2, hf⟩ := wk_letE hf
        have hP : va_P (dC, dI) vwCl (dw_W h q g hp qp gp tq tg tn tx I2 A1 M MB L) H := by rw [hI2]; exact hP
        have hD : va_D B9 (dw_W h q g hp qp gp tq tg tn tx I2 A1 M MB L) := by rw [hI2]; exact hD
        clear hI2
        refine lv_iconst (v := 1) hx hb d_D_type_59 (by decide) ?_
        obtain ⟨e0, e1, e2, e3, e4, e5⟩ := wk_inj5 hf
        subst e0
        subst e1
        subst e2
        subst e3
        subst e4
        subst e5
        exact W.zret (v := 1) hx hb hr rfl (fun t ht hW => ⟨⟨1, (), rfl, rfl, by rw [ht]; exact hP, va_K.moved hW.alike hK, hD⟩, hS.F ht⟩) hS.2.2 d_D_type_60
      ·
        have hf := wk_ift hc2 hf
        exact blk37 I A M MB L (upd X 2 s0) Y _ _ _ hf (lv_sub hl [1, 2, 0] rfl) hP hD hS
  have blk18 : ∀ (I : MI) (A : MA) (M : MI) (MB : MA) (L : ML) (X : Nat → Int32) (Y : Nat → Int64) (ls : Array Slot) (H : Heap) (locs : List Loc), f_D_type_18 tn tx I A M MB L X Y = some (r, I', A', M', MB', L') → lv_has ls 3 [(0, .ref h), (1, .int (X 1))] → va_P (dC, dI) vwCl (dw_W h q g hp qp gp tq tg tn tx I A M MB L) H → va_D B9 (dw_W h q g hp qp gp tq tg tn tx I A M MB L) → va_S B9 s.heap H locs → W p l e (headSpec w_D_type ({ frames := 0, cells := 0, slots := 0, locals := 0 })).room s m ([.ref h, .int k1] : List Value).toArray below meth c H locs 0 0 (MQ below (va_Qi (fun (r9 : Int32) (_ : Unit) => r9 = r) (fun (_ : Unit) t => va_P (dC, dI) vwCl (dw_W h q g hp qp gp tq tg tn tx I' A' M' MB' L') t.heap ∧ va_K (dC, dI) vwCl (dw_T h q g hp qp gp tq tg tn tx) t ∧ va_D B9 (dw_W h q g hp qp gp tq tg tn tx I' A' M' MB' L')) B9) ([.ref h, .int k1] : List Value).toArray s 0 0 B9) (F0 m 18 ls []) := by
    intro I A M MB L X Y ls H locs hf hl hP hD hS
    unfold f_D_type_18 at hf
    refine lv_iconst (v := 1) hx hb d_D_type_18 (by decide) ?_
    refine lv_goto (tgt := 23) hx hb d_D_type_19 (by decide) ?_
    exact blk23 I A M MB L X Y 1 _ _ _ hf (lv_sub hl [0, 1] rfl) hP hD hS
  have blk22 : ∀ (I : MI) (A : MA) (M : MI) (MB : MA) (L : ML) (X : Nat → Int32) (Y : Nat → Int64) (ls : Array Slot) (H : Heap) (locs : List Loc), f_D_type_22 tn tx I A M MB L X Y = some (r, I', A', M', MB', L') → lv_has ls 3 [(0, .ref h), (1, .int (X 1))] → va_P (dC, dI) vwCl (dw_W h q g hp qp gp tq tg tn tx I A M MB L) H → va_D B9 (dw_W h q g hp qp gp tq tg tn tx I A M MB L) → va_S B9 s.heap H locs → W p l e (headSpec w_D_type ({ frames := 0, cells := 0, slots := 0, locals := 0 })).room s m ([.ref h, .int k1] : List Value).toArray below meth c H locs 0 0 (MQ below (va_Qi (fun (r9 : Int32) (_ : Unit) => r9 = r) (fun (_ : Unit) t => va_P (dC, dI) vwCl (dw_W h q g hp qp gp tq tg tn tx I' A' M' MB' L') t.heap ∧ va_K (dC, dI) vwCl (dw_T h q g hp qp gp tq tg tn tx) t ∧ va_D B9 (dw_W h q g hp qp gp tq tg tn tx I' A' M' MB' L')) B9) ([.ref h, .int k1] : List Value).toArray s 0 0 B9) (F0 m 22 ls []) := by
    intro I A M MB L X Y ls H locs hf hl hP hD hS
    unfold f_D_type_22 at hf
    refine lv_iconst (v := 0) hx hb d_D_type_22 (by decide) ?_
    exact blk23 I A M MB L X Y 0 _ _ _ hf (lv_sub hl [0, 1] rfl) hP hD hS
  unfold f_D_type at hf
  refine lv_iload_n hx hb d_D_type_0 rfl (lv_at hl 1 rfl) ?_
  refine lv_bipush (v := 10) hx hb d_D_type_1 (by decide) ?_
  refine lv_icmp_eq (tgt := 18) hx hb d_D_type_3 (by decide) (fun hc1 => ?_) (fun hc1 => ?_)
  ·
    have hf := wk_ift hc1 hf
    exact blk18 I A M MB L (upd (fun _ => 0) 1 k1) (fun _ => 0) _ _ _ hf (lv_sub hl [0, 1] rfl) hP hD hS
  ·
    have hf := wk_iff hc1 hf
    refine lv_iload_n hx hb d_D_type_6 rfl (lv_at hl 1 rfl) ?_
    refine lv_bipush (v := 32) hx hb d_D_type_7 (by decide) ?_
    refine lv_icmp_lt (tgt := 22) hx hb d_D_type_9 (by decide) (fun hc2 => ?_) (fun hc2 => ?_)
    ·
      have hf := wk_ift hc2 hf
      exact blk22 I A M MB L (upd (fun _ => 0) 1 k1) (fun _ => 0) _ _ _ hf (lv_sub hl [0, 1] rfl) hP hD hS
    ·
      have hf := wk_iff hc2 hf
      refine lv_iload_n hx hb d_D_type_12 rfl (lv_at hl 1 rfl) ?_
      refine lv_bipush (v := 126) hx hb d_D_type_13 (by decide) ?_
      refine lv_icmp_gt (tgt := 22) hx hb d_D_type_15 (by decide) (fun hc3 => ?_) (fun hc3 => ?_)
      ·
        have hf := wk_ift hc3 hf
        exact blk22 I A M MB L (upd (fun _ => 0) 1 k1) (fun _ => 0) _ _ _ hf (lv_sub hl [0, 1] rfl) hP hD hS
      ·
        have hf := wk_iff hc3 hf
        exact blk18 I A M MB L (upd (fun _ => 0) 1 k1) (fun _ => 0) _ _ _ hf (lv_sub hl [0, 1] rfl) hP hD hS

-- 18.ccon12
set_option maxHeartbeats 8000000 in
set_option maxRecDepth 100000 in
theorem cm_D_undo (l : Launch) (dC : Nat → ClassId) (dI : Nat → Nat → Nat) (h : Nat) (q : Nat → Nat) (g : Nat → ClassId) (hj : Nat) (pt : Nat) (tg : ClassId) (sa : Nat → Nat) (ta : Nat → Nat) (n : Nat) (SO : Nat → Int32) (tn : Nat → Nat) (tx : Nat → Nat → Int32) (sz : Nat) (I : MI) (cx : Nat) (SP : MI) (SL : MI) (r : Int32) (I' : MI) (cx' : Nat) (SP' : MI) (SL' : MI) (hf : f_D_undo n SO I cx SP SL  = some (0, r, I', cx', SP', SL')) : Met l y_D_undo w_D_undo ({ frames := 1, cells := 0, slots := 0, locals := 22 }) (va_Pc [.ref h] (fun U => U.heap.size = sz ∧ va_P (dC, dI) vwCl (tw_W h q g hj pt tg sa ta n SO tn tx I cx SP SL) U.heap ∧ va_K (dC, dI) vwCl (tw_T h q g hj pt tg sa ta n SO tn tx) U ∧ va_D (fun _ => True) (tw_W h q g hj pt tg sa ta n SO tn tx I cx SP SL))) (va_Qi (fun (r9 : Int32) (_ : Unit) => r9 = r) (fun (_ : Unit) t => va_P (dC, dI) vwCl (tw_W h q g hj pt tg sa ta n SO tn tx I' cx' SP' SL') t.heap ∧ va_K (dC, dI) vwCl (tw_T h q g hj pt tg sa ta n SO tn tx) t ∧ va_D (va_A (tw_W h q g hj pt tg sa ta n SO tn tx I cx SP SL) sz) (tw_W h q g hj pt tg sa ta n SO tn tx I' cx' SP' SL')) (va_A (tw_W h q g hj pt tg sa ta n SO tn tx I cx SP SL) sz)) 0 0 (va_A (tw_W h q g hj pt tg sa ta n SO tn tx I cx SP SL) sz) := by
  refine Met.ofW (cc := prog_1_method_11_code) (maxL := 2) (ret := (some .int)) (by decide) rfl ?_
  intro p e s m args below meth c s₁ B hml hv
  obtain ⟨rfl, hsz, hP, hK, hD0⟩ := hv
  have hx := B.exec
  have hb := B.bytes
  have hr := B.returns
  have hts := atoms_spec (ws := w_D_undo) B.pre
  have hown : s.vm.findClass "DraftTree" = some m.cls := findClass_of_methodNamed B.named
  have hlocks := B.notSynchronized
  subst hsz
  have hD := hD0.self (sz := s.heap.size)
  generalize hAe : va_A (tw_W h q g hj pt tg sa ta n SO tn tx I cx SP SL) s.heap.size = B9 at hD ⊢
  have hA : ∀ q : Nat, s.heap.size ≤ q → B9 q := fun q h => by rw [← hAe]; exact Or.inr h
  clear hAe
  have hS : va_S B9 s.heap s.heap [] := va_S.rf
  have hl := lv_entry ([.ref h]) (n := 2) (Nat.le_of_ble_eq_true rfl)
  rw [lg_entry_eq]
  generalize (lg_sl ([.ref h]) ++ List.replicate (2 - (lg_sl ([.ref h])).length) Slot.unset).toArray = ls at hl ⊢
  have hl : lv_has ls 2 [(0, .ref h)] := hl
  unfold f_D_undo at hf
  refine lv_aload_n hx hb d_D_undo_0 rfl (lv_at hl 0 rfl) ?_
  refine va_get (D := (dC, dI)) (ci := 0) (v := .ref (q 2)) (C := R_D) (T := F_D) (N := 14) hx hb hts (fun w h => List.mem_cons_of_mem _ (in_D w h)) hown hK hP 0 rfl rfl 2 (by decide) (hts _ (List.mem_cons_of_mem _ lk_456)) (fun _ h9 => h9) rfl d_D_undo_1 ?_
  refine lv_aload_n hx hb d_D_undo_4 rfl (lv_at hl 0 rfl) ?_
  refine va_get (D := (dC, dI)) (ci := 0) (v := .int (I 4)) (C := R_D) (T := F_D) (N := 14) hx hb hts (fun w h => List.mem_cons_of_mem _ (in_D w h)) hown hK hP 0 rfl rfl 4 (by decide) (hts _ (List.mem_cons_of_mem _ lk_436)) (fun _ h9 => h9) rfl d_D_undo_5 ?_
  obtain ⟨hc1, hf⟩ := wk_if hf
  obtain ⟨hc1n, hf⟩ := wk_if hf
  have hc1i := wk_inb_lt hc1n
  refine va_aldq hx hb hK hP 1 0 rfl rfl (wk_inb_ok hc1) d_D_undo_8 ?_
  refine wk_top (w := .ref (sa ((I 4)).toNatClampNeg)) (tw_rf hc1i) ?_
  refine va_get (D := (dC, dI)) (ci := 1) (v := .int (SO ((I 4)).toNatClampNeg)) (C := R_S) (T := F_S) (N := 4) hx hb hts (fun w h => List.mem_cons_of_mem _ (in_S w h)) hown hK hP (2 + ((I 4)).toNatClampNeg) (va_poolAt rfl hc1i) rfl 1 (by decide) (hts _ (List.mem_cons_of_mem _ lk_463)) (fun _ h9 => h9) rfl d_D_undo_9 ?_
  refine lv_istore_n (lv' := [(1, .int (SO ((I 4)).toNatClampNeg)), (0, .ref h)]) hx hb d_D_undo_12 rfl hl (by decide) rfl (fun ls hl => ?_)
  have hl : lv_has ls 2 [(1, .int (SO ((I 4)).toNatClampNeg)), (0, .ref h)] := hl
  refine lv_iload_n hx hb d_D_undo_13 rfl (lv_at hl 0 rfl) ?_
  refine lv_iconst (v := (-1)) hx hb d_D_undo_14 (by decide) ?_
  refine lv_icmp_ne (tgt := 26) hx hb d_D_undo_15 (by decide) (fun hc2 => ?_) (fun hc2 => ?_)
  ·
    have hf := wk_iff hc2 hf
    refine lv_aload_n hx hb d_D_undo_26 rfl (lv_at hl 1 rfl) ?_
    refine lv_iload_n hx hb d_D_undo_27 rfl (lv_at hl 0 rfl) ?_
    have hFc := va_freeM (wc := (tw_W h q g hj pt tg sa ta n SO tn tx I cx SP SL)) hD hS hA (fun _ h9 => h9)
    cases hg1 : f_D_moveTo n SO I cx SP SL (SO ((I 4)).toNatClampNeg) with
    | none => rw [hg1] at hf; cases hf
    | some z1 =>
      obtain ⟨r1, I1, cx1, SP1, SL1⟩ := z1
      rw [hg1] at hf
      dsimp only [Option.bind_some] at hf
      refine va_callv (va_runV (As := [.int (SO ((I 4)).toNatClampNeg)]) (rest := []) ⟨hx, hb, hml, hown, hts⟩ (cm_D_moveTo l dC dI h q g hj pt tg sa ta n SO tn tx _  I cx SP SL (SO ((I 4)).toNatClampNeg) r1 I1 cx1 SP1 SL1 hg1) (cwV 1 hts (gd_v lk_466 lk_467 lk_468 lk_445 lk_465) rfl rfl rfl (by decide +kernel) ⟨Nat.le_of_ble_eq_true rfl, Nat.le_of_ble_eq_true rfl⟩) ⟨fun a U g mk q => by obtain ⟨q0, q1, qP, qK, qD⟩ := q; exact ⟨q0, q1, qP, va_K.moved (u := U) (U := U.calling g mk a) (Vm.Alike.refl U.vm) qK, qD⟩, va_recv (ci := 0) (q0 := 0) hK hP rfl rfl, fun U hU hW => ⟨rfl, by rw [hU], by rw [hU]; exact hP, va_K.moved hW.alike hK, hD.weaken (fun _ _ _ _ => trivial)⟩⟩ rfl rfl hl.1 rfl (lv_room (Nat.le_of_ble_eq_true rfl)) d_D_undo_28 ⟨Nat.le_of_ble_eq_true rfl, Nat.le_of_ble_eq_true rfl⟩) hS (fun q _ h => hFc q h) hFc (fun u t H1 locs ht hvm hw hB hz1 hk1 hS => ?_)
      obtain ⟨hP1, hK1, hD1⟩ := hB
      rw [ht] at hP1
      have hP := hP1
      have hD := hD1.weaken (fun _ q _ h => hFc q.1 h)
      generalize H1 = H at hP hS ⊢
      refine lv_aload_n hx hb d_D_undo_31 rfl (lv_at hl 1 rfl) ?_
      refine va_get (D := (dC, dI)) (ci := 0) (v := .int (I1 4)) (C := R_D) (T := F_D) (N := 14) hx hb hts (fun w h => List.mem_cons_of_mem _ (in_D w h)) hown hK hP 0 rfl rfl 4 (by decide) (hts _ (List.mem_cons_of_mem _ lk_436)) (fun _ h9 => h9) rfl d_D_undo_32 ?_
      obtain ⟨e0, e1, e2, e3, e4, e5⟩ := wk_inj5 hf
      subst e1
      subst e2
      subst e3
      subst e4
      subst e5
      exact W.iret (v := (I1 4)) hx hb hr (fun t ht hW => ⟨⟨(I1 4), (), rfl, rfl, by rw [ht]; exact hP, va_K.moved hW.alike hK, hD⟩, hS.F ht⟩) hS.2.2 d_D_undo_35
  ·
    have hf := wk_ift hc2 hf
    exact (wk_tag (by decide) hf).elim
set_option maxHeartbeats 8000000 in
set_option maxRecDepth 100000 in
theorem ct_D_undo_4 (l : Launch) (hfl : l.flags = flags0) (dC : Nat → ClassId) (dI : Nat → Nat → Nat) (h : Nat) (q : Nat → Nat) (g : Nat → ClassId) (hj : Nat) (pt : Nat) (tg : ClassId) (sa : Nat → Nat) (ta : Nat → Nat) (n : Nat) (SO : Nat → Int32) (tn : Nat → Nat) (tx : Nat → Nat → Int32) (sz : Nat) (I : MI) (cx : Nat) (SP : MI) (SL : MI) (r : Int32) (I' : MI) (cx' : Nat) (SP' : MI) (SL' : MI) (hf : f_D_undo n SO I cx SP SL  = some (4, r, I', cx', SP', SL')) : th_Met l y_D_undo w_D_undo ({ frames := 6, cells := 1, slots := 6, locals := 81 }) (va_Pc [.ref h] (fun U => U.heap.size = sz ∧ va_P (dC, dI) vwCl (tw_W h q g hj pt tg sa ta n SO tn tx I cx SP SL) U.heap ∧ va_K (dC, dI) vwCl (tw_T h q g hj pt tg sa ta n SO tn tx) U ∧ va_D (fun _ => True) (tw_W h q g hj pt tg sa ta n SO tn tx I cx SP SL) ∧ th_ZA (va_A (tw_W h q g hj pt tg sa ta n SO tn tx I cx SP SL) sz) U)) (th_Qw "java/util/NoSuchElementException" (fun t => va_P (dC, dI) vwCl (tw_W h q g hj pt tg sa ta n SO tn tx I' cx' SP' SL') t.heap ∧ va_K (dC, dI) vwCl (tw_T h q g hj pt tg sa ta n SO tn tx) t ∧ va_D (va_A (tw_W h q g hj pt tg sa ta n SO tn tx I cx SP SL) sz) (tw_W h q g hj pt tg sa ta n SO tn tx I' cx' SP' SL')) (va_A (tw_W h q g hj pt tg sa ta n SO tn tx I cx SP SL) sz)) 1 6 (va_A (tw_W h q g hj pt tg sa ta n SO tn tx I cx SP SL) sz) := by
  refine th_Met.ofW (cc := prog_1_method_11_code) (maxL := 2) (ret := (some .int)) (by decide) rfl ?_
  intro p e s m args below meth c s₁ B hml hnh hv
  obtain ⟨rfl, hsz, hP, hK, hD0, hZ⟩ := hv
  have hx := B.exec
  have hb := B.bytes
  have hr := B.returns
  have hts := atoms_spec (ws := w_D_undo) B.pre
  have hown : s.vm.findClass "DraftTree" = some m.cls := findClass_of_methodNamed B.named
  have hlocks := B.notSynchronized
  have htr := Launch.traces_off hfl B.admits
  subst hsz
  have hD := hD0.self (sz := s.heap.size)
  generalize hAe : va_A (tw_W h q g hj pt tg sa ta n SO tn tx I cx SP SL) s.heap.size = B9 at hD hZ ⊢
  have hA : ∀ q : Nat, s.heap.size ≤ q → B9 q := fun q h => by rw [← hAe]; exact Or.inr h
  clear hAe
  have hS : va_S B9 s.heap s.heap [] := va_S.rf
  have hl := lv_entry ([.ref h]) (n := 2) (Nat.le_of_ble_eq_true rfl)
  rw [lg_entry_eq]
  generalize (lg_sl ([.ref h]) ++ List.replicate (2 - (lg_sl ([.ref h])).length) Slot.unset).toArray = ls at hl ⊢
  have hl : lv_has ls 2 [(0, .ref h)] := hl
  unfold f_D_undo at hf
  refine lv_aload_n hx hb d_D_undo_0 rfl (lv_at hl 0 rfl) ?_
  refine va_get (D := (dC, dI)) (ci := 0) (v := .ref (q 2)) (C := R_D) (T := F_D) (N := 14) hx hb hts (fun w h => List.mem_cons_of_mem _ (in_D w h)) hown hK hP 0 rfl rfl 2 (by decide) (hts _ (List.mem_cons_of_mem _ lk_456)) (fun _ h9 => h9) rfl d_D_undo_1 ?_
  refine lv_aload_n hx hb d_D_undo_4 rfl (lv_at hl 0 rfl) ?_
  refine va_get (D := (dC, dI)) (ci := 0) (v := .int (I 4)) (C := R_D) (T := F_D) (N := 14) hx hb hts (fun w h => List.mem_cons_of_mem _ (in_D w h)) hown hK hP 0 rfl rfl 4 (by decide) (hts _ (List.mem_cons_of_mem _ lk_436)) (fun _ h9 => h9) rfl d_D_undo_5 ?_
  obtain ⟨hc1, hf⟩ := wk_if hf
  obtain ⟨hc1n, hf⟩ := wk_if hf
  have hc1i := wk_inb_lt hc1n
  refine va_aldq hx hb hK hP 1 0 rfl rfl (wk_inb_ok hc1) d_D_undo_8 ?_
  refine wk_top (w := .ref (sa ((I 4)).toNatClampNeg)) (tw_rf hc1i) ?_
  refine va_get (D := (dC, dI)) (ci := 1) (v := .int (SO ((I 4)).toNatClampNeg)) (C := R_S) (T := F_S) (N := 4) hx hb hts (fun w h => List.mem_cons_of_mem _ (in_S w h)) hown hK hP (2 + ((I 4)).toNatClampNeg) (va_poolAt rfl hc1i) rfl 1 (by decide) (hts _ (List.mem_cons_of_mem _ lk_463)) (fun _ h9 => h9) rfl d_D_undo_9 ?_
  refine lv_istore_n (lv' := [(1, .int (SO ((I 4)).toNatClampNeg)), (0, .ref h)]) hx hb d_D_undo_12 rfl hl (by decide) rfl (fun ls hl => ?_)
  have hl : lv_has ls 2 [(1, .int (SO ((I 4)).toNatClampNeg)), (0, .ref h)] := hl
  refine lv_iload_n hx hb d_D_undo_13 rfl (lv_at hl 0 rfl) ?_
  refine lv_iconst (v := (-1)) hx hb d_D_undo_14 (by decide) ?_
  refine lv_icmp_ne (tgt := 26) hx hb d_D_undo_15 (by decide) (fun hc2 => ?_) (fun hc2 => ?_)
  ·
    have hf := wk_iff hc2 hf
    refine lv_aload_n hx hb d_D_undo_26 rfl (lv_at hl 1 rfl) ?_
    refine lv_iload_n hx hb d_D_undo_27 rfl (lv_at hl 0 rfl) ?_
    have hFc := va_freeM (wc := (tw_W h q g hj pt tg sa ta n SO tn tx I cx SP SL)) hD hS hA (fun _ h9 => h9)
    cases hg1 : f_D_moveTo n SO I cx SP SL (SO ((I 4)).toNatClampNeg) with
    | none => rw [hg1] at hf; cases hf
    | some z1 =>
      obtain ⟨r1, I1, cx1, SP1, SL1⟩ := z1
      rw [hg1] at hf
      dsimp only [Option.bind_some] at hf
      refine va_callv (va_runV (As := [.int (SO ((I 4)).toNatClampNeg)]) (rest := []) ⟨hx, hb, hml, hown, hts⟩ (cm_D_moveTo l dC dI h q g hj pt tg sa ta n SO tn tx _  I cx SP SL (SO ((I 4)).toNatClampNeg) r1 I1 cx1 SP1 SL1 hg1) (cwV 1 hts (gd_v lk_466 lk_467 lk_468 lk_445 lk_465) rfl rfl rfl (by decide +kernel) ⟨Nat.le_of_ble_eq_true rfl, Nat.le_of_ble_eq_true rfl⟩) ⟨fun a U g mk q => by obtain ⟨q0, q1, qP, qK, qD⟩ := q; exact ⟨q0, q1, qP, va_K.moved (u := U) (U := U.calling g mk a) (Vm.Alike.refl U.vm) qK, qD⟩, va_recv (ci := 0) (q0 := 0) hK hP rfl rfl, fun U hU hW => ⟨rfl, by rw [hU], by rw [hU]; exact hP, va_K.moved hW.alike hK, hD.weaken (fun _ _ _ _ => trivial)⟩⟩ rfl rfl hl.1 rfl (lv_room (Nat.le_of_ble_eq_true rfl)) d_D_undo_28 ⟨Nat.le_of_ble_eq_true rfl, Nat.le_of_ble_eq_true rfl⟩) hS (fun q _ h => hFc q h) hFc (fun u t H1 locs ht hvm hw hB hz1 hk1 hS => ?_)
      obtain ⟨hP1, hK1, hD1⟩ := hB
      rw [ht] at hP1
      have hP := hP1
      have hD := hD1.weaken (fun _ q _ h => hFc q.1 h)
      generalize H1 = H at hP hS ⊢
      refine lv_aload_n hx hb d_D_undo_31 rfl (lv_at hl 1 rfl) ?_
      refine va_get (D := (dC, dI)) (ci := 0) (v := .int (I1 4)) (C := R_D) (T := F_D) (N := 14) hx hb hts (fun w h => List.mem_cons_of_mem _ (in_D w h)) hown hK hP 0 rfl rfl 4 (by decide) (hts _ (List.mem_cons_of_mem _ lk_436)) (fun _ h9 => h9) rfl d_D_undo_32 ?_
      exact (wk_tag (by decide) hf).elim
  ·
    have hf := wk_ift hc2 hf
    obtain ⟨e0, e1, e2, e3, e4, e5⟩ := wk_inj5 hf
    subst e1
    subst e2
    subst e3
    subst e4
    subst e5
    exact th_newG hx hb htr hown (by decide) (by decide) (wk_thr hts hZ hS lk_448 lk_449 (fun _ a9 b9 => oa_3 a9 b9)) hnh (by rw [hl.1, hml]) hS (Nat.le_of_ble_eq_true rfl) (Nat.le_of_ble_eq_true rfl) (Nat.le_of_ble_eq_true rfl) (Nat.le_of_ble_eq_true rfl) (Nat.le_of_ble_eq_true rfl) (Nat.le_of_ble_eq_true rfl) hlocks (fun t hal hk => ⟨hP.kept (fun k q hq => hk _ (hP k q hq).lt), va_K.moved hal hK, hD⟩) d_D_undo_18 d_D_undo_21 d_D_undo_22 d_D_undo_25

set_option maxHeartbeats 8000000 in
set_option maxRecDepth 100000 in
theorem cm_D_wipe (l : Launch) (dC : Nat → ClassId) (dI : Nat → Nat → Nat) (h : Nat) (q : Nat → Nat) (g : Nat → ClassId) (hp : Nat) (qp : Nat → Nat) (gp : Nat → ClassId) (tq : Nat) (tg : ClassId) (tn : Nat) (tx : Nat → Int32) (sz : Nat) (I : MI) (A : MA) (M : MI) (MB : MA) (L : ML) (r : Int32) (I' : MI) (A' : MA) (M' : MI) (MB' : MA) (L' : ML) (hf : f_D_wipe tn tx I A M MB L  = some (r, I', A', M', MB', L')) : Met l y_D_wipe w_D_wipe ({ frames := 0, cells := 0, slots := 0, locals := 0 }) (va_Pc [.ref h] (fun U => U.heap.size = sz ∧ va_P (dC, dI) vwCl (dw_W h q g hp qp gp tq tg tn tx I A M MB L) U.heap ∧ va_K (dC, dI) vwCl (dw_T h q g hp qp gp tq tg tn tx) U ∧ va_D (fun _ => True) (dw_W h q g hp qp gp tq tg tn tx I A M MB L))) (va_Qi (fun (r9 : Int32) (_ : Unit) => r9 = r) (fun (_ : Unit) t => va_P (dC, dI) vwCl (dw_W h q g hp qp gp tq tg tn tx I' A' M' MB' L') t.heap ∧ va_K (dC, dI) vwCl (dw_T h q g hp qp gp tq tg tn tx) t ∧ va_D (va_A (dw_W h q g hp qp gp tq tg tn tx I A M MB L) sz) (dw_W h q g hp qp gp tq tg tn tx I' A' M' MB' L')) (va_A (dw_W h q g hp qp gp tq tg tn tx I A M MB L) sz)) 0 0 (va_A (dw_W h q g hp qp gp tq tg tn tx I A M MB L) sz) := by
  refine Met.ofW (cc := prog_1_method_3_code) (maxL := 2) (ret := (some .int)) (by decide) rfl ?_
  intro p e s m args below meth c s₁ B hml hv
  obtain ⟨rfl, hsz, hP, hK, hD0⟩ := hv
  have hx := B.exec
  have hb := B.bytes
  have hr := B.returns
  have hts := atoms_spec (ws := w_D_wipe) B.pre
  have hown : s.vm.findClass "DraftTree" = some m.cls := findClass_of_methodNamed B.named
  have hlocks := B.notSynchronized
  subst hsz
  have hD := hD0.self (sz := s.heap.size)
  generalize hAe : va_A (dw_W h q g hp qp gp tq tg tn tx I A M MB L) s.heap.size = B9 at hD ⊢
  have hA : ∀ q : Nat, s.heap.size ≤ q → B9 q := fun q h => by rw [← hAe]; exact Or.inr h
  clear hAe
  have hS : va_S B9 s.heap s.heap [] := va_S.rf
  have hl := lv_entry ([.ref h]) (n := 2) (Nat.le_of_ble_eq_true rfl)
  rw [lg_entry_eq]
  generalize (lg_sl ([.ref h]) ++ List.replicate (2 - (lg_sl ([.ref h])).length) Slot.unset).toArray = ls at hl ⊢
  have hl : lv_has ls 2 [(0, .ref h)] := hl
  unfold f_D_wipe at hf
  refine lv_aload_n hx hb d_D_wipe_0 rfl (lv_at hl 0 rfl) ?_
  refine va_get (D := (dC, dI)) (ci := 0) (v := .int (I 1)) (C := R_D) (T := F_D) (N := 14) hx hb hts (fun w h => List.mem_cons_of_mem _ (in_D w h)) hown hK hP 0 rfl rfl 1 (by decide) (hts _ (List.mem_cons_of_mem _ lk_313)) (fun _ h9 => h9) rfl d_D_wipe_1 ?_
  refine lv_istore_n (lv' := [(1, .int (I 1)), (0, .ref h)]) hx hb d_D_wipe_4 rfl hl (by decide) rfl (fun ls hl => ?_)
  have hl : lv_has ls 2 [(1, .int (I 1)), (0, .ref h)] := hl
  refine lv_aload_n hx hb d_D_wipe_5 rfl (lv_at hl 1 rfl) ?_
  refine lv_iconst (v := 0) hx hb d_D_wipe_6 (by decide) ?_
  refine va_put (D := (dC, dI)) (ci := 0) (v := .int 0) (ty := .int) (C := R_D) (T := F_D) (N := 14) hx hb hts (fun w h => List.mem_cons_of_mem _ (in_D w h)) t_D tk_D n_D hown hK hP hD hS 0 rfl rfl 1 (by decide) (hts _ (List.mem_cons_of_mem _ lk_313)) (fun _ h9 => h9) rfl (by decide +kernel) rfl rfl (Nat.le_of_ble_eq_true rfl) d_D_wipe_7 (fun H locs hP hD hS => ?_)
  obtain ⟨I1, hI1, hf⟩ := wk_letE hf
  have hP : va_P (dC, dI) vwCl (dw_W h q g hp qp gp tq tg tn tx I1 A M MB L) H := by rw [hI1]; exact hP
  have hD : va_D B9 (dw_W h q g hp qp gp tq tg tn tx I1 A M MB L) := by rw [hI1]; exact hD
  clear hI1
  refine lv_iload_n hx hb d_D_wipe_10 rfl (lv_at hl 0 rfl) ?_
  obtain ⟨e0, e1, e2, e3, e4, e5⟩ := wk_inj5 hf
  subst e0
  subst e1
  subst e2
  subst e3
  subst e4
  subst e5
  exact W.iret (v := (I 1)) hx hb hr (fun t ht hW => ⟨⟨(I 1), (), rfl, rfl, by rw [ht]; exact hP, va_K.moved hW.alike hK, hD⟩, hS.F ht⟩) hS.2.2 d_D_wipe_11

set_option maxHeartbeats 8000000 in
set_option maxRecDepth 100000 in
theorem cm_S_init (l : Launch) (dC : Nat → ClassId) (dI : Nat → Nat → Nat) (h : Nat) (tv : Value) (tr : Nat) (sz : Nat) (I : MI) (k2 : Int32) (k3 : Int32) (r : Int32) (I' : MI) (hf : f_S_init I  k2 k3 = some (r, I')) : Met l y_S_init w_S_init ({ frames := 1, cells := 0, slots := 0, locals := 12 }) (va_Pc [.ref h, .ref tr, .int k2, .int k3] (fun U => U.heap.size = sz ∧ va_P (dC, dI) vwCl (sw_W h tv I) U.heap ∧ va_K (dC, dI) vwCl (sw_T h tv) U ∧ va_D (fun _ => True) (sw_W h tv I))) (va_Qv (fun (u : Unit) => u = u) (fun (_ : Unit) t => va_P (dC, dI) vwCl (sw_W h (.ref tr) I') t.heap ∧ va_K (dC, dI) vwCl (sw_T h tv) t ∧ va_D (va_A (sw_W h tv I) sz) (sw_W h (.ref tr) I')) (va_A (sw_W h tv I) sz)) 0 0 (va_A (sw_W h tv I) sz) := by
  refine Met.ofW (cc := prog_4_method_1_code) (maxL := 4) (ret := none) (by decide) rfl ?_
  intro p e s m args below meth c s₁ B hml hv
  obtain ⟨rfl, hsz, hP, hK, hD0⟩ := hv
  have hx := B.exec
  have hb := B.bytes
  have hr := B.returns
  have hts := atoms_spec (ws := w_S_init) B.pre
  have hown : s.vm.findClass "DraftTree$State" = some m.cls := findClass_of_methodNamed B.named
  have hlocks := B.notSynchronized
  have hin : meth.name = "<init>" := (name_of_methodNamed B.named B.method).1
  subst hsz
  have hD := hD0.self (sz := s.heap.size)
  generalize hAe : va_A (sw_W h tv I) s.heap.size = B9 at hD ⊢
  have hA : ∀ q : Nat, s.heap.size ≤ q → B9 q := fun q h => by rw [← hAe]; exact Or.inr h
  clear hAe
  have hS : va_S B9 s.heap s.heap [] := va_S.rf
  have hl := lv_entry ([.ref h, .ref tr, .int k2, .int k3]) (n := 4) (Nat.le_of_ble_eq_true rfl)
  rw [lg_entry_eq]
  generalize (lg_sl ([.ref h, .ref tr, .int k2, .int k3]) ++ List.replicate (4 - (lg_sl ([.ref h, .ref tr, .int k2, .int k3])).length) Slot.unset).toArray = ls at hl ⊢
  have hl : lv_has ls 4 [(0, .ref h), (1, .ref tr), (2, .int k2), (3, .int k3)] := hl
  unfold f_S_init at hf
  refine lv_aload_n hx hb d_S_init_0 rfl (lv_at hl 0 rfl) ?_
  refine W.objInit hx hb hown (hts _ (List.mem_cons_of_mem _ lk_498)) (hts _ (List.mem_cons_of_mem _ lk_499)) (hts _ (List.mem_cons_of_mem _ lk_500)) rfl (by rw [hml]; exact hl.1) rfl d_S_init_1 (Nat.le_of_ble_eq_true rfl) (Nat.le_of_ble_eq_true rfl) ?_
  refine W.eq (g2 := F0 m 4 ls []) rfl ?_
  refine lv_aload_n hx hb d_S_init_4 rfl (lv_at hl 0 rfl) ?_
  refine lv_aload_n hx hb d_S_init_5 rfl (lv_at hl 1 rfl) ?_
  refine va_putF (D := (dC, dI)) (ci := 1) (v := .ref tr) (ty := .array .char) (C := R_S) (T := F_S) (N := 4) hx hb hts (fun w h => List.mem_cons_of_mem _ (in_S w h)) t_S tk_S n_S hown hK hP hD hS 0 rfl rfl 0 (by decide) (hts _ (List.mem_cons_of_mem _ lk_501)) (fun _ h9 => h9) rfl hin rfl (by decide +kernel) rfl rfl (Nat.le_of_ble_eq_true rfl) d_S_init_6 (fun H locs hP hD hS => ?_)
  have hP : va_P (dC, dI) vwCl (sw_W h (.ref tr) I) H := hP
  have hD : va_D B9 (sw_W h (.ref tr) I) := hD
  refine lv_aload_n hx hb d_S_init_9 rfl (lv_at hl 0 rfl) ?_
  refine lv_iload_n hx hb d_S_init_10 rfl (lv_at hl 2 rfl) ?_
  refine va_put (D := (dC, dI)) (ci := 1) (v := .int k2) (ty := .int) (C := R_S) (T := F_S) (N := 4) hx hb hts (fun w h => List.mem_cons_of_mem _ (in_S w h)) t_S tk_S n_S hown hK hP hD hS 0 rfl rfl 2 (by decide) (hts _ (List.mem_cons_of_mem _ lk_502)) (fun _ h9 => h9) rfl (by decide +kernel) rfl rfl (Nat.le_of_ble_eq_true rfl) d_S_init_11 (fun H locs hP hD hS => ?_)
  obtain ⟨I1, hI1, hf⟩ := wk_letE hf
  have hP : va_P (dC, dI) vwCl (sw_W h (.ref tr) I1) H := by rw [hI1]; exact hP
  have hD : va_D B9 (sw_W h (.ref tr) I1) := by rw [hI1]; exact hD
  clear hI1
  refine lv_aload_n hx hb d_S_init_14 rfl (lv_at hl 0 rfl) ?_
  refine lv_iload_n hx hb d_S_init_15 rfl (lv_at hl 3 rfl) ?_
  refine va_putF (D := (dC, dI)) (ci := 1) (v := .int k3) (ty := .int) (C := R_S) (T := F_S) (N := 4) hx hb hts (fun w h => List.mem_cons_of_mem _ (in_S w h)) t_S tk_S n_S hown hK hP hD hS 0 rfl rfl 1 (by decide) (hts _ (List.mem_cons_of_mem _ lk_503)) (fun _ h9 => h9) rfl hin rfl (by decide +kernel) rfl rfl (Nat.le_of_ble_eq_true rfl) d_S_init_16 (fun H locs hP hD hS => ?_)
  obtain ⟨I2, hI2, hf⟩ := wk_letE hf
  have hP : va_P (dC, dI) vwCl (sw_W h (.ref tr) I2) H := by rw [hI2]; exact hP
  have hD : va_D B9 (sw_W h (.ref tr) I2) := by rw [hI2]; exact hD
  clear hI2
  refine lv_aload_n hx hb d_S_init_19 rfl (lv_at hl 0 rfl) ?_
  refine lv_iconst (v := (-1)) hx hb d_S_init_20 (by decide) ?_
  refine va_put (D := (dC, dI)) (ci := 1) (v := .int (-1)) (ty := .int) (C := R_S) (T := F_S) (N := 4) hx hb hts (fun w h => List.mem_cons_of_mem _ (in_S w h)) t_S tk_S n_S hown hK hP hD hS 0 rfl rfl 3 (by decide) (hts _ (List.mem_cons_of_mem _ lk_504)) (fun _ h9 => h9) rfl (by decide +kernel) rfl rfl (Nat.le_of_ble_eq_true rfl) d_S_init_21 (fun H locs hP hD hS => ?_)
  obtain ⟨I3, hI3, hf⟩ := wk_letE hf
  have hP : va_P (dC, dI) vwCl (sw_W h (.ref tr) I3) H := by rw [hI3]; exact hP
  have hD : va_D B9 (sw_W h (.ref tr) I3) := by rw [hI3]; exact hD
  clear hI3
  obtain ⟨e0, e1⟩ := wk_inj1 hf
  subst e0
  subst e1
  exact W.vret hx hb hr (fun t ht hW => ⟨⟨(), rfl, rfl, by rw [ht]; exact hP, va_K.moved hW.alike hK, hD⟩, hS.F ht⟩) hS.2.2 d_S_init_24


/-! The states in numbers alone: what the predicates speak of. -/
/-- a line: its numbers and rows (0: counters, pace, beats, tickets; 1 places, 2 linked, 3 spilled, 4 digits, 5 waiting, 6 ticket counters, 7 ticket numbers, 8 ticket beats), and the tickets' excesses -/
abbrev LnS : Type := (Nat → Nat → Int32) × (Nat → Int64)
def zs2 (f : Nat → Nat → Int32) (k j : Nat) (v : Int32) : Nat → Nat → Int32 := fun a => if a = k then upd (f a) j v else f a
def zr2 (f : Nat → Nat → Int32) (k : Nat) (g : Nat → Int32) : Nat → Nat → Int32 := fun a => if a = k then g else f a
def lsS (L : LnS) (k j : Nat) (v : Int32) : LnS := (zs2 L.1 k j v, L.2)
def lsR (L : LnS) (k : Nat) (g : Nat → Int32) : LnS := (zr2 L.1 k g, L.2)
def lsE (L : LnS) (j : Nat) (v : Int64) : LnS := (L.1, vp_updL L.2 j v)
def lsX (L : LnS) (g : Nat → Int64) : LnS := (L.1, g)
/-- the text: its length and its signs -/
abbrev TS : Type := Int32 × (Nat → Int32)
def txL (t : TS) (v : Int32) : TS := (v, t.2)
def txS (t : TS) (j : Nat) (v : Int32) : TS := (t.1, upd t.2 j v)
/-- the reference: 0: refusal, size, acts; 1 text, 2 now, 3 trial, 4 diary, 5 kept, 6 isKept, 7 takes, 8 passes -/
abbrev MS : Type := Nat → Nat → Int32
abbrev HS : Type := Int32 × Int32
abbrev XO : Type := (Nat → Int32) × (Nat → Int32)
abbrev eISE : String := "java/lang/IllegalStateException"
abbrev eIAE : String := "java/lang/IllegalArgumentException"
abbrev eIOB : String := "java/lang/IndexOutOfBoundsException"
def zL0 : LnS := (fun _ _ => 0, fun _ => 0)
def zT0 : TS := (0, fun _ => 0)
def zM0 : MS := fun _ _ => 0
def zL1 : LnS := lsR (lsR (lsR (lsS (lsS zL0 0 0 (3 : Int32)) 0 1 (1 : Int32)) 1 (upd ((lsS (lsS zL0 0 0 (3 : Int32)) 0 1 (1 : Int32)).1 1) (0 : Int32).toNatClampNeg (4 : Int32))) 1 (upd ((lsR (lsS (lsS zL0 0 0 (3 : Int32)) 0 1 (1 : Int32)) 1 (upd ((lsS (lsS zL0 0 0 (3 : Int32)) 0 1 (1 : Int32)).1 1) (0 : Int32).toNatClampNeg (4 : Int32))).1 1) ((0 : Int32) + 1).toNatClampNeg (4 : Int32))) 1 (upd ((lsR (lsR (lsS (lsS zL0 0 0 (3 : Int32)) 0 1 (1 : Int32)) 1 (upd ((lsS (lsS zL0 0 0 (3 : Int32)) 0 1 (1 : Int32)).1 1) (0 : Int32).toNatClampNeg (4 : Int32))) 1 (upd ((lsR (lsS (lsS zL0 0 0 (3 : Int32)) 0 1 (1 : Int32)) 1 (upd ((lsS (lsS zL0 0 0 (3 : Int32)) 0 1 (1 : Int32)).1 1) (0 : Int32).toNatClampNeg (4 : Int32))).1 1) ((0 : Int32) + 1).toNatClampNeg (4 : Int32))).1 1) ((0 : Int32) + 1 + 1).toNatClampNeg (4 : Int32))
def zX0 : XO := (fun _ => 0, fun _ => 0)

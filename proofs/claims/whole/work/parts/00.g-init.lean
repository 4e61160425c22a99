set_option maxRecDepth 100000 in
def wp_X2_init (tx : TS) (Q : TS → Prop) : Prop := (Q tx)
set_option maxRecDepth 100000 in
def wl_X1_init_88 (Q : LnS → Prop) : Nat → LnS → Int32 → Prop
  | 0, _, _ => False
  | n + 1, L, x1 => ((((3 : Int32) ≤ x1) → (Q L)) ∧ (¬ ((3 : Int32) ≤ x1) → (vp_in x1 6 ∧ (wl_X1_init_88 Q n (lsR L 1 (upd (L.1 1) x1.toNatClampNeg (4 : Int32))) (x1 + 1)))))
set_option maxRecDepth 100000 in
def wp_X1_init (L : LnS) (Q : LnS → Prop) : Prop := (∃ n3 : Nat, wl_X1_init_88 Q  n3 (lsS (lsS L 0 0 (3 : Int32)) 0 1 (1 : Int32)) (0 : Int32))
set_option maxRecDepth 100000 in
def wl_X4_init_87 (Q : MS → Prop) : Nat → MS → Int32 → Prop
  | 0, _, _ => False
  | n + 1, M, x1 => ((((3 : Int32) ≤ x1) → (Q M)) ∧ (¬ ((3 : Int32) ≤ x1) → (wp_X4_at x1 (fun (r4 : Int32) => (vp_in (r4 + (0 : Int32)) 336 ∧ (wl_X4_init_87 Q n (zr2 M 2 (upd (M 2) (r4 + (0 : Int32)).toNatClampNeg (4 : Int32))) (x1 + 1)))))))
set_option maxRecDepth 100000 in
def wp_X4_init (M : MS) (Q : MS → Prop) : Prop := (wp_X4_begin (M 2) (fun (u1 : (Nat → Int32)) => (∀ M2 : MS, M2 = (zr2 M 2 u1) → (∃ n6 : Nat, wl_X4_init_87 Q  n6 (zr2 M2 2 (upd (M2 2) (0 : Int32).toNatClampNeg (3 : Int32))) (0 : Int32)))))

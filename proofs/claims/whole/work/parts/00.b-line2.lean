set_option maxRecDepth 100000 in
def wl_X1_clear_22 (Q : LnS → Prop) (E55 : LnS → Prop) : Nat → LnS → Int32 → Prop
  | 0, _, _ => False
  | n + 1, L, x1 => ((((6 : Int32) ≤ x1) → (E55 L)) ∧ (¬ ((6 : Int32) ≤ x1) → (vp_in x1 6 ∧ (∀ L3 : LnS, L3 = (lsR L 1 (upd (L.1 1) x1.toNatClampNeg (0 : Int32))) → (vp_in x1 6 ∧ (∀ L5 : LnS, L5 = (lsR L3 2 (upd (L3.1 2) x1.toNatClampNeg (vp_nar .boolean (0 : Int32)))) → (vp_in x1 6 ∧ (wl_X1_clear_22 Q E55 n (lsR L5 3 (upd (L5.1 3) x1.toNatClampNeg (0 : Int32))) (x1 + 1)))))))))
set_option maxRecDepth 100000 in
def wl_X1_clear_57 (Q : LnS → Prop) : Nat → LnS → Int32 → Prop
  | 0, _, _ => False
  | n + 1, L, x1 => ((((54 : Int32) ≤ x1) → (Q L)) ∧ (¬ ((54 : Int32) ≤ x1) → (vp_in x1 54 ∧ (∀ L10 : LnS, L10 = (lsR L 4 (upd (L.1 4) x1.toNatClampNeg (0 : Int32))) → (vp_in x1 54 ∧ (wl_X1_clear_57 Q n (lsR L10 5 (upd (L10.1 5) x1.toNatClampNeg (0 : Int32))) (x1 + 1)))))))
set_option maxRecDepth 100000 in
def wp_X1_clear (L : LnS) (Q : LnS → Prop) : Prop := (∃ n13 : Nat, wl_X1_clear_22 Q (fun (v7 : LnS) => (∃ n12 : Nat, wl_X1_clear_57 Q  n12 v7 (0 : Int32))) n13 (lsS (lsS (lsS (lsS L 0 0 (0 : Int32)) 0 1 (1 : Int32)) 0 2 (0 : Int32)) 0 3 (0 : Int32)) (0 : Int32))
set_option maxRecDepth 100000 in
def wp_X1_copyFrom (L : LnS) (K : LnS) (Q : LnS → Prop) : Prop := ((∀ i : Nat, i < (6 : Int32).toNatClampNeg → K.1 2 i = 0 ∨ K.1 2 i = 1) ∧ (¬ (K.1 0 3) < 0 ∧ (K.1 0 3).toNatClampNeg ≤ 49 ∧ (¬ (K.1 0 3) < 0 ∧ (K.1 0 3).toNatClampNeg ≤ 49 ∧ (¬ (K.1 0 3) < 0 ∧ (K.1 0 3).toNatClampNeg ≤ 49 ∧ (¬ (K.1 0 3) < 0 ∧ (K.1 0 3).toNatClampNeg ≤ 49 ∧ (Q (lsX (lsR (lsR (lsR (lsR (lsR (lsR (lsR (lsR (lsS (lsS (lsS (lsS L 0 0 (K.1 0 0)) 0 1 (K.1 0 1)) 0 2 (K.1 0 2)) 0 3 (K.1 0 3)) 1 (va_cpy (K.1 1) (L.1 1) (0 : Int32).toNatClampNeg (0 : Int32).toNatClampNeg (6 : Int32).toNatClampNeg)) 2 (va_cpy (K.1 2) (L.1 2) (0 : Int32).toNatClampNeg (0 : Int32).toNatClampNeg (6 : Int32).toNatClampNeg)) 3 (va_cpy (K.1 3) (L.1 3) (0 : Int32).toNatClampNeg (0 : Int32).toNatClampNeg (6 : Int32).toNatClampNeg)) 4 (va_cpy (K.1 4) (L.1 4) (0 : Int32).toNatClampNeg (0 : Int32).toNatClampNeg (54 : Int32).toNatClampNeg)) 5 (va_cpy (K.1 5) (L.1 5) (0 : Int32).toNatClampNeg (0 : Int32).toNatClampNeg (54 : Int32).toNatClampNeg)) 6 (va_cpy (K.1 6) (L.1 6) (0 : Int32).toNatClampNeg (0 : Int32).toNatClampNeg (K.1 0 3).toNatClampNeg)) 7 (va_cpy (K.1 7) (L.1 7) (0 : Int32).toNatClampNeg (0 : Int32).toNatClampNeg (K.1 0 3).toNatClampNeg)) 8 (va_cpy (K.1 8) (L.1 8) (0 : Int32).toNatClampNeg (0 : Int32).toNatClampNeg (K.1 0 3).toNatClampNeg)) (va_cpy K.2 L.2 (0 : Int32).toNatClampNeg (0 : Int32).toNatClampNeg (K.1 0 3).toNatClampNeg))))))))
set_option maxRecDepth 100000 in
def wl_X1_putDigits_22 (x1 : Int32) (x3 : Int32) (Q : Int32 → LnS → Prop) : Nat → LnS → Int32 → Int32 → Int32 → Prop
  | 0, _, _, _, _ => False
  | n + 1, L, x4, x5, x6 => (vp_in x1 6 ∧ ((((L.1 1 x1.toNatClampNeg) ≤ x6) → (Q x5 L)) ∧ (¬ ((L.1 1 x1.toNatClampNeg) ≤ x6) → (wp_X3_cellOf x1 x6 (fun (r4 : Int32) => (vp_in r4 54 ∧ (vp_in r4 54 ∧ (∀ y7 : Int32, y7 = (x5 + (x4 - x4 / (3 : Int32) * (3 : Int32))) → (wl_X1_putDigits_22 x1 x3 Q n (lsR L 5 (upd (L.1 5) r4.toNatClampNeg ((L.1 5 r4.toNatClampNeg) + (x3 * (x4 - x4 / (3 : Int32) * (3 : Int32)))))) (x4 / (3 : Int32)) y7 (x6 + 1))))))))))
set_option maxRecDepth 100000 in
def wp_X1_putDigits (L : LnS) (x1 : Int32) (x2 : Int32) (Q : Int32 → LnS → Prop) : Prop := (((0 ≤ x2) → (∃ n8 : Nat, wl_X1_putDigits_22 x1 (1 : Int32) Q  n8 L (if 0 ≤ x2 then x2 else 0 - x2) (0 : Int32) (0 : Int32))) ∧ (¬ (0 ≤ x2) → (∃ n9 : Nat, wl_X1_putDigits_22 x1 (-1 : Int32) Q  n9 L (if 0 ≤ x2 then x2 else 0 - x2) (0 : Int32) (0 : Int32))))
set_option maxRecDepth 100000 in
def wp_X1_tryPutDigits (L : LnS) (x1 : Int32) (x2 : Int32) (Q : Int32 → LnS → Prop) : Prop := (wp_X1_hasCounter L x1 (fun (r1 : Int32) => (((r1 = 0) → (Q (0 : Int32) L)) ∧ (¬ (r1 = 0) → (wp_X1_hasPlacesFor L x1 x2 (fun (r3 : Int32) => (((r3 = 0) → (Q (0 : Int32) L)) ∧ (¬ (r3 = 0) → (wp_X1_putDigits L x1 x2 (fun (r5 : Int32) (u5 : LnS) => (Q (1 : Int32) u5)))))))))))
set_option maxRecDepth 100000 in
def wp_X1_drawFrom (L : LnS) (x1 : Int32) (Q : Int32 → LnS → Prop) : Prop := (wp_X1_reading L x1 (fun (r1 : Int32) => ((((49 : Int32) ≤ (L.1 0 3)) → (wp_X3_cellOf x1 (0 : Int32) (fun (r3 : Int32) => (vp_in r3 54 ∧ (vp_in r3 54 ∧ (Q r1 (lsR L 5 (upd (L.1 5) r3.toNatClampNeg ((L.1 5 r3.toNatClampNeg) + (1 : Int32)))))))))) ∧ (¬ ((49 : Int32) ≤ (L.1 0 3)) → (vp_in (L.1 0 3) 49 ∧ (∀ L7 : LnS, L7 = (lsR L 6 (upd (L.1 6) (L.1 0 3).toNatClampNeg x1)) → (vp_in (L.1 0 3) 49 ∧ (∀ L9 : LnS, L9 = (lsR L7 7 (upd (L7.1 7) (L.1 0 3).toNatClampNeg r1)) → (vp_in (L7.1 0 3) 49 ∧ (wp_X1_fullReading (lsR L9 8 (upd (L9.1 8) (L7.1 0 3).toNatClampNeg (L7.1 0 2))) x1 (fun (r11 : Int64) => (∀ L12 : LnS, L12 = (lsR L9 8 (upd (L9.1 8) (L7.1 0 3).toNatClampNeg (L7.1 0 2))) → (vp_in (L9.1 0 3) 49 ∧ (wp_X3_cellOf x1 (0 : Int32) (fun (r14 : Int32) => (vp_in r14 54 ∧ (∀ L16 : LnS, L16 = (lsS (lsX L12 (vp_updL L12.2 (L9.1 0 3).toNatClampNeg (r11 - r1.toInt64))) 0 3 ((L12.1 0 3) + (1 : Int32))) → (vp_in r14 54 ∧ (Q r1 (lsR L16 5 (upd (L16.1 5) r14.toNatClampNeg ((L12.1 5 r14.toNatClampNeg) + (1 : Int32)))))))))))))))))))))))
set_option maxRecDepth 100000 in
def wp_X1_tryDraw (L : LnS) (x1 : Int32) (Q : Int32 → LnS → Prop) : Prop := (wp_X1_hasCounter L x1 (fun (r1 : Int32) => (((r1 = 0) → (Q (0 : Int32) L)) ∧ (¬ (r1 = 0) → ((((L.1 0 3) < (40 : Int32)) → (wp_X1_drawFrom L x1 (fun (r4 : Int32) (u4 : LnS) => (Q (1 : Int32) u4)))) ∧ (¬ ((L.1 0 3) < (40 : Int32)) → (Q (0 : Int32) L)))))))
set_option maxRecDepth 100000 in
def wl_X1_changePlaces_2 (x1 : Int32) (x2 : Int32) (Q : LnS → Prop) : Nat → LnS → Int32 → Prop
  | 0, _, _ => False
  | n + 1, L, x3 => (vp_in x1 6 ∧ ((((L.1 1 x1.toNatClampNeg) ≤ x3) → (vp_in x1 6 ∧ (Q (lsR L 1 (upd (L.1 1) x1.toNatClampNeg x2))))) ∧ (¬ ((L.1 1 x1.toNatClampNeg) ≤ x3) → (wp_X3_cellOf x1 x3 (fun (r4 : Int32) => (vp_in r4 54 ∧ (wp_X3_cellOf x1 x3 (fun (r6 : Int32) => (∀ L7 : LnS, L7 = (lsR L 4 (upd (L.1 4) r4.toNatClampNeg (0 : Int32))) → (vp_in r6 54 ∧ (wl_X1_changePlaces_2 x1 x2 Q n (lsR L7 5 (upd (L7.1 5) r6.toNatClampNeg (0 : Int32))) (x3 + 1))))))))))))
set_option maxRecDepth 100000 in
def wp_X1_changePlaces (L : LnS) (x1 : Int32) (x2 : Int32) (Q : LnS → Prop) : Prop := (∃ n9 : Nat, wl_X1_changePlaces_2 x1 x2 Q  n9 L x2)
set_option maxRecDepth 100000 in
def wl_X1_pourInto_2 (x1 : Int32) (x2 : Int32) (Q : LnS → Prop) : Nat → LnS → Int32 → Prop
  | 0, _, _ => False
  | n + 1, L, x3 => (vp_in x1 6 ∧ ((((L.1 1 x1.toNatClampNeg) ≤ x3) → (Q L)) ∧ (¬ ((L.1 1 x1.toNatClampNeg) ≤ x3) → (wp_X3_cellOf x1 x3 (fun (r3 : Int32) => (vp_in r3 54 ∧ (vp_in r3 54 ∧ (∀ y6 : Int32, y6 = ((L.1 4 r3.toNatClampNeg) + (L.1 5 r3.toNatClampNeg)) → (vp_in r3 54 ∧ (∀ L8 : LnS, L8 = (lsR L 4 (upd (L.1 4) r3.toNatClampNeg (0 : Int32))) → (vp_in r3 54 ∧ (vp_in x2 6 ∧ ((((L8.1 1 x2.toNatClampNeg) ≤ x3) → (vp_in x2 6 ∧ (∀ L13 : LnS, L13 = (lsR L8 5 (upd (L8.1 5) r3.toNatClampNeg (0 : Int32))) → (vp_in x2 6 ∧ (wl_X1_pourInto_2 x1 x2 Q n (lsR L13 3 (upd (L13.1 3) x2.toNatClampNeg ((L8.1 3 x2.toNatClampNeg) + y6))) (x3 + 1)))))) ∧ (¬ ((L8.1 1 x2.toNatClampNeg) ≤ x3) → (wp_X3_cellOf x2 x3 (fun (r15 : Int32) => (vp_in r15 54 ∧ (∀ L17 : LnS, L17 = (lsR L8 5 (upd (L8.1 5) r3.toNatClampNeg (0 : Int32))) → (vp_in r15 54 ∧ (wl_X1_pourInto_2 x1 x2 Q n (lsR L17 5 (upd (L17.1 5) r15.toNatClampNeg ((upd (L8.1 5) r3.toNatClampNeg (0 : Int32) r15.toNatClampNeg) + y6))) (x3 + 1)))))))))))))))))))))
set_option maxRecDepth 100000 in
def wp_X1_pourInto (L : LnS) (x1 : Int32) (x2 : Int32) (Q : LnS → Prop) : Prop := (∃ n19 : Nat, wl_X1_pourInto_2 x1 x2 Q  n19 L (0 : Int32))
set_option maxRecDepth 100000 in
def wp_X1_tryPour (L : LnS) (x1 : Int32) (x2 : Int32) (Q : LnS → Prop) : Prop := (wp_X1_hasCounter L x1 (fun (r1 : Int32) => (((r1 = 0) → (Q L)) ∧ (¬ (r1 = 0) → (wp_X1_hasCounter L x2 (fun (r3 : Int32) => (((r3 = 0) → (Q L)) ∧ (¬ (r3 = 0) → (((x1 = x2) → (Q L)) ∧ (¬ (x1 = x2) → (wp_X1_pourInto L x1 x2 (fun (u6 : LnS) => (Q u6)))))))))))))
set_option maxRecDepth 100000 in
def wp_X1_handOn (L : LnS) (x1 : Int32) (x2 : Int32) (x3 : Int32) (Q : LnS → Prop) : Prop := (vp_in x1 6 ∧ ((((L.1 1 x1.toNatClampNeg) ≤ (x2 + (1 : Int32))) → (vp_in x1 6 ∧ ((((L.1 2 x1.toNatClampNeg) = 0) → (vp_in x1 6 ∧ (vp_in x1 6 ∧ (Q (lsR L 3 (upd (L.1 3) x1.toNatClampNeg ((L.1 3 x1.toNatClampNeg) + x3))))))) ∧ (¬ ((L.1 2 x1.toNatClampNeg) = 0) → (wp_X1_canLink L x1 (fun (r7 : Int32) => (((r7 = 0) → (vp_in x1 6 ∧ (vp_in x1 6 ∧ (Q (lsR L 3 (upd (L.1 3) x1.toNatClampNeg ((L.1 3 x1.toNatClampNeg) + x3))))))) ∧ (¬ (r7 = 0) → (wp_X3_cellOf (x1 + (1 : Int32)) (0 : Int32) (fun (r11 : Int32) => (vp_in r11 54 ∧ (vp_in r11 54 ∧ (Q (lsR L 5 (upd (L.1 5) r11.toNatClampNeg ((L.1 5 r11.toNatClampNeg) + x3)))))))))))))))) ∧ (¬ ((L.1 1 x1.toNatClampNeg) ≤ (x2 + (1 : Int32))) → (wp_X3_cellOf x1 (x2 + (1 : Int32)) (fun (r14 : Int32) => (vp_in r14 54 ∧ (vp_in r14 54 ∧ (Q (lsR L 5 (upd (L.1 5) r14.toNatClampNeg ((L.1 5 r14.toNatClampNeg) + x3)))))))))))
set_option maxRecDepth 100000 in
def wp_X1_takeUp (L : LnS) (x1 : Int32) (x2 : Int32) (Q : LnS → Prop) : Prop := (wp_X3_cellOf x1 x2 (fun (r1 : Int32) => (vp_in r1 54 ∧ (∀ y3 : Int32, y3 = (if (-(L.1 0 1)) < (if (L.1 5 r1.toNatClampNeg) < (L.1 0 1) then L.1 5 r1.toNatClampNeg else L.1 0 1) then if (L.1 5 r1.toNatClampNeg) < (L.1 0 1) then L.1 5 r1.toNatClampNeg else L.1 0 1 else -(L.1 0 1)) → (vp_in r1 54 ∧ (vp_in r1 54 ∧ (vp_in r1 54 ∧ (wp_J9_floorMod_7cf53 ((L.1 4 r1.toNatClampNeg) + y3) (3 : Int32) (fun (r7 : Int32) => (∀ L8 : LnS, L8 = (lsR L 5 (upd (L.1 5) r1.toNatClampNeg ((L.1 5 r1.toNatClampNeg) - y3))) → (vp_in r1 54 ∧ (wp_J9_floorDiv_7cf53 ((L.1 4 r1.toNatClampNeg) + y3) (3 : Int32) (fun (r10 : Int32) => (wp_X1_handOn (lsR L8 4 (upd (L8.1 4) r1.toNatClampNeg r7)) x1 x2 r10 (fun (u11 : LnS) => (Q u11))))))))))))))))
set_option maxRecDepth 100000 in
def wl_X1_passBeat_17 (x1 : Int32) (x3 : Int32) (Q : LnS → Prop) (E49 : LnS → Prop) : Nat → LnS → Int32 → Prop
  | 0, _, _ => False
  | n + 1, L, x4 => (((x4 < 0) → (E49 L)) ∧ (¬ (x4 < 0) → (wp_X3_cellOf x3 x4 (fun (r4 : Int32) => (vp_in r4 54 ∧ ((((L.1 5 r4.toNatClampNeg) = 0) → (wl_X1_passBeat_17 x1 x3 Q E49 n L (x4 + (-1)))) ∧ (¬ ((L.1 5 r4.toNatClampNeg) = 0) → (wp_X1_takeUp L x3 x4 (fun (u7 : LnS) => (wl_X1_passBeat_17 x1 x3 Q E49 n u7 (x4 + (-1))))))))))))
set_option maxRecDepth 100000 in
def wl_X1_passBeat_2 (x1 : Int32) (Q : LnS → Prop) : Nat → LnS → Int32 → Prop
  | 0, _, _ => False
  | n + 1, L, x3 => (((x3 < x1) → (Q L)) ∧ (¬ (x3 < x1) → (vp_in x3 6 ∧ (∃ n9 : Nat, wl_X1_passBeat_17 x1 x3 Q (fun (v8 : LnS) => (wl_X1_passBeat_2 x1 Q n v8 (x3 + (-1)))) n9 L ((L.1 1 x3.toNatClampNeg) - (1 : Int32))))))
set_option maxRecDepth 100000 in
def wp_X1_passBeat (L : LnS) (x1 : Int32) (x2 : Int32) (Q : LnS → Prop) : Prop := (∃ n10 : Nat, wl_X1_passBeat_2 x1 Q  n10 L x2)
set_option maxRecDepth 100000 in
def wl_X1_passBeats_2 (x1 : Int32) (Q : LnS → Prop) : Nat → LnS → Int32 → Prop
  | 0, _, _ => False
  | n + 1, L, x2 => (((x1 ≤ x2) → (Q L)) ∧ (¬ (x1 ≤ x2) → (wp_X1_passBeat L (0 : Int32) ((L.1 0 0) - (1 : Int32)) (fun (u2 : LnS) => (wl_X1_passBeats_2 x1 Q n (lsS u2 0 2 ((u2.1 0 2) + (1 : Int32))) (x2 + 1))))))
set_option maxRecDepth 100000 in
def wp_X1_passBeats (L : LnS) (x1 : Int32) (Q : LnS → Prop) : Prop := (∃ n3 : Nat, wl_X1_passBeats_2 x1 Q  n3 L (0 : Int32))
set_option maxRecDepth 100000 in
def wl_X1_runToRest_13 (x1 : Int32) (Q : Int32 → LnS → Prop) : Nat → LnS → Int32 → Int32 → Prop
  | 0, _, _, _ => False
  | n + 1, L, x2, x3 => (((x1 < x2) → (Q x3 L)) ∧ (¬ (x1 < x2) → ((((1000000 : Int32) ≤ x3) → (Q x3 L)) ∧ (¬ ((1000000 : Int32) ≤ x3) → (wp_X1_passBeat L x2 x1 (fun (u5 : LnS) => (wp_X1_firstAtWork u5 x2 x1 (fun (r6 : Int32) => (wl_X1_runToRest_13 x1 Q n u5 r6 (x3 + 1))))))))))
set_option maxRecDepth 100000 in
def wp_X1_runToRest (L : LnS) (x1 : Int32) (Q : Int32 → LnS → Prop) : Prop := (wp_X1_chainStart L x1 (fun (r1 : Int32) => (wp_X1_firstAtWork L r1 x1 (fun (r2 : Int32) => (∃ n7 : Nat, wl_X1_runToRest_13 x1 Q  n7 L r2 (0 : Int32))))))
set_option maxRecDepth 100000 in
def wl_X1_runToReading_9 (x1 : Int32) (x2 : Int32) (Q : Int32 → LnS → Prop) : Nat → LnS → Int32 → Int32 → Prop
  | 0, _, _, _ => False
  | n + 1, L, x3, x4 => ((((1000000 : Int32) ≤ x4) → (Q (-1 : Int32) L)) ∧ (¬ ((1000000 : Int32) ≤ x4) → (wp_X1_reading L x1 (fun (r3 : Int32) => (((r3 = x2) → (Q x4 L)) ∧ (¬ (r3 = x2) → (wp_X1_firstAtWork L x3 x1 (fun (r5 : Int32) => (((r5 ≤ x1) → (wp_X1_passBeat L r5 x1 (fun (u7 : LnS) => (wl_X1_runToReading_9 x1 x2 Q n u7 r5 (x4 + 1))))) ∧ (¬ (r5 ≤ x1) → (Q (-1 : Int32) L)))))))))))
set_option maxRecDepth 100000 in
def wp_X1_runToReading (L : LnS) (x1 : Int32) (x2 : Int32) (Q : Int32 → LnS → Prop) : Prop := (wp_X1_chainStart L x1 (fun (r1 : Int32) => (∃ n8 : Nat, wl_X1_runToReading_9 x1 x2 Q  n8 L r1 (0 : Int32))))

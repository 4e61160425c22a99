def wp_J9_floorMod_7cf53 (x0 : Int32) (x1 : Int32) (Q : Int32 → Prop) : Prop := (¬ x1 = 0 ∧ (((0 ≤ (x0 ^^^ x1)) → (Q (x0 - x0 / x1 * x1))) ∧ (¬ (0 ≤ (x0 ^^^ x1)) → ((((x0 - x0 / x1 * x1) = 0) → (Q (x0 - x0 / x1 * x1))) ∧ (¬ ((x0 - x0 / x1 * x1) = 0) → (Q ((x0 - x0 / x1 * x1) + x1)))))))
def wp_J9_floorDiv_7cf53 (x0 : Int32) (x1 : Int32) (Q : Int32 → Prop) : Prop := (¬ x1 = 0 ∧ (((0 ≤ (x0 ^^^ x1)) → (Q (x0 / x1))) ∧ (¬ (0 ≤ (x0 ^^^ x1)) → (((((x0 / x1) * x1) = x0) → (Q (x0 / x1))) ∧ (¬ (((x0 / x1) * x1) = x0) → (Q ((x0 / x1) - (1 : Int32))))))))
def wp_X3_cellOf (x0 : Int32) (x1 : Int32) (Q : Int32 → Prop) : Prop := (Q ((x0 * (9 : Int32)) + x1))
def wp_X1_hasCounter (L : LS) (x1 : Int32) (Q : Int32 → Prop) : Prop := (((x1 < 0) → (Q (0 : Int32))) ∧ (¬ (x1 < 0) → ((((L.1 0 0) ≤ x1) → (Q (0 : Int32))) ∧ (¬ ((L.1 0 0) ≤ x1) → (Q (1 : Int32))))))
def wp_X1_canLink (L : LS) (x1 : Int32) (Q : Int32 → Prop) : Prop := (((x1 < 0) → (Q (0 : Int32))) ∧ (¬ (x1 < 0) → (((((L.1 0 0) - (1 : Int32)) ≤ x1) → (Q (0 : Int32))) ∧ (¬ (((L.1 0 0) - (1 : Int32)) ≤ x1) → (Q (1 : Int32))))))
def wl_X1_hasPlacesFor_8 (L : LS) (x1 : Int32) (Q : Int32 → Prop) : Nat → Int32 → Int32 → Prop
  | 0, _, _ => False
  | n + 1, x3, x4 => (vp_in x1 6 ∧ ((((L.1 1 x1.toNatClampNeg) ≤ x4) → (((x3 = 0) → (Q (1 : Int32))) ∧ (¬ (x3 = 0) → (Q (0 : Int32))))) ∧ (¬ ((L.1 1 x1.toNatClampNeg) ≤ x4) → (wl_X1_hasPlacesFor_8 L x1 Q n (x3 / (3 : Int32)) (x4 + 1)))))
def wp_X1_hasPlacesFor (L : LS) (x1 : Int32) (x2 : Int32) (Q : Int32 → Prop) : Prop := (∃ n : Nat, wl_X1_hasPlacesFor_8 L x1 Q  n (if 0 ≤ x2 then x2 else 0 - x2) (0 : Int32))
def wl_X1_reading_11 (L : LS) (x1 : Int32) (Q : Int32 → Prop) : Nat → Int32 → Int32 → Prop
  | 0, _, _ => False
  | n + 1, x2, x3 => (((x3 < 0) → (Q x2)) ∧ (¬ (x3 < 0) → (wp_X3_cellOf x1 x3 (fun (r3 : Int32) => (vp_in r3 54 ∧ (∀ y5 : Int32, y5 = (x2 * (3 : Int32)) + (L.1 4 r3.toNatClampNeg) → (wl_X1_reading_11 L x1 Q n y5 (x3 + (-1)))))))))
def wp_X1_reading (L : LS) (x1 : Int32) (Q : Int32 → Prop) : Prop := (vp_in x1 6 ∧ (∃ n : Nat, wl_X1_reading_11 L x1 Q  n (0 : Int32) ((L.1 1 x1.toNatClampNeg) - (1 : Int32))))
def wl_X1_fullReading_12 (L : LS) (x1 : Int32) (Q : Int64 → Prop) : Nat → Int64 → Int32 → Prop
  | 0, _, _ => False
  | n + 1, x2, x4 => (((x4 < 0) → (Q x2)) ∧ (¬ (x4 < 0) → (wp_X3_cellOf x1 x4 (fun (r3 : Int32) => (vp_in r3 54 ∧ (vp_in r3 54 ∧ (∀ y6 : Int64, y6 = ((x2 * (3 : Int64)) + ((L.1 4 r3.toNatClampNeg).toInt64)) + ((L.1 5 r3.toNatClampNeg).toInt64) → (wl_X1_fullReading_12 L x1 Q n y6 (x4 + (-1))))))))))
def wp_X1_fullReading (L : LS) (x1 : Int32) (Q : Int64 → Prop) : Prop := (vp_in x1 6 ∧ (∃ n : Nat, wl_X1_fullReading_12 L x1 Q  n (0 : Int64) ((L.1 1 x1.toNatClampNeg) - (1 : Int32))))
def wl_X1_digitSum_4 (L : LS) (x1 : Int32) (Q : Int32 → Prop) : Nat → Int32 → Int32 → Prop
  | 0, _, _ => False
  | n + 1, x2, x3 => (vp_in x1 6 ∧ ((((L.1 1 x1.toNatClampNeg) ≤ x3) → (Q x2)) ∧ (¬ ((L.1 1 x1.toNatClampNeg) ≤ x3) → (wp_X3_cellOf x1 x3 (fun (r3 : Int32) => (vp_in r3 54 ∧ (wl_X1_digitSum_4 L x1 Q n (x2 + (L.1 4 r3.toNatClampNeg)) (x3 + 1))))))))
def wp_X1_digitSum (L : LS) (x1 : Int32) (Q : Int32 → Prop) : Prop := (∃ n : Nat, wl_X1_digitSum_4 L x1 Q  n (0 : Int32) (0 : Int32))
def wl_X1_waitingAt_4 (L : LS) (x1 : Int32) (Q : Int32 → Prop) : Nat → Int32 → Int32 → Prop
  | 0, _, _ => False
  | n + 1, x2, x3 => (vp_in x1 6 ∧ ((((L.1 1 x1.toNatClampNeg) ≤ x3) → (Q x2)) ∧ (¬ ((L.1 1 x1.toNatClampNeg) ≤ x3) → (wp_X3_cellOf x1 x3 (fun (r3 : Int32) => (vp_in r3 54 ∧ ((((L.1 5 r3.toNatClampNeg) = 0) → (wl_X1_waitingAt_4 L x1 Q n x2 (x3 + 1))) ∧ (¬ ((L.1 5 r3.toNatClampNeg) = 0) → (wl_X1_waitingAt_4 L x1 Q n (x2 + 1) (x3 + 1))))))))))
def wp_X1_waitingAt (L : LS) (x1 : Int32) (Q : Int32 → Prop) : Prop := (∃ n : Nat, wl_X1_waitingAt_4 L x1 Q  n (0 : Int32) (0 : Int32))
def wl_X1_waitingInAll_4 (L : LS) (Q : Int32 → Prop) : Nat → Int32 → Int32 → Prop
  | 0, _, _ => False
  | n + 1, x1, x2 => ((((L.1 0 0) ≤ x2) → (Q x1)) ∧ (¬ ((L.1 0 0) ≤ x2) → (wp_X1_waitingAt L x2 (fun (r2 : Int32) => (wl_X1_waitingInAll_4 L Q n (x1 + r2) (x2 + 1))))))
def wp_X1_waitingInAll (L : LS) (Q : Int32 → Prop) : Prop := (∃ n : Nat, wl_X1_waitingInAll_4 L Q  n (0 : Int32) (0 : Int32))
def wp_X1_isAtRest (L : LS) (x1 : Int32) (Q : Int32 → Prop) : Prop := (wp_X1_waitingAt L x1 (fun (r1 : Int32) => (((r1 = 0) → (Q (1 : Int32))) ∧ (¬ (r1 = 0) → (Q (0 : Int32))))))
def wl_X1_countersAtRest_4 (L : LS) (Q : Int32 → Prop) : Nat → Int32 → Int32 → Prop
  | 0, _, _ => False
  | n + 1, x1, x2 => ((((L.1 0 0) ≤ x2) → (Q x1)) ∧ (¬ ((L.1 0 0) ≤ x2) → (wp_X1_isAtRest L x2 (fun (r2 : Int32) => (((r2 = 0) → (wl_X1_countersAtRest_4 L Q n x1 (x2 + 1))) ∧ (¬ (r2 = 0) → (wl_X1_countersAtRest_4 L Q n (x1 + 1) (x2 + 1))))))))
def wp_X1_countersAtRest (L : LS) (Q : Int32 → Prop) : Prop := (∃ n : Nat, wl_X1_countersAtRest_4 L Q  n (0 : Int32) (0 : Int32))
def wl_X1_linkedCounters_4 (L : LS) (Q : Int32 → Prop) : Nat → Int32 → Int32 → Prop
  | 0, _, _ => False
  | n + 1, x1, x2 => ((((L.1 0 0) ≤ x2) → (Q x1)) ∧ (¬ ((L.1 0 0) ≤ x2) → (vp_in x2 6 ∧ ((((L.1 2 x2.toNatClampNeg) = 0) → (wl_X1_linkedCounters_4 L Q n x1 (x2 + 1))) ∧ (¬ ((L.1 2 x2.toNatClampNeg) = 0) → (wl_X1_linkedCounters_4 L Q n (x1 + 1) (x2 + 1)))))))
def wp_X1_linkedCounters (L : LS) (Q : Int32 → Prop) : Prop := (∃ n : Nat, wl_X1_linkedCounters_4 L Q  n (0 : Int32) (0 : Int32))
def wl_X1_countersAheadOf_25 (L : LS) (x1 : Int32) (x2 : Int32) (x3 : Int64) (Q : Int32 → Prop) : Nat → Int32 → Int32 → Prop
  | 0, _, _ => False
  | n + 1, x5, x6 => ((((L.1 0 0) ≤ x6) → (Q x5)) ∧ (¬ ((L.1 0 0) ≤ x6) → (((x2 = 0) → (wp_X1_reading L x6 (fun (r5 : Int32) => (((0 < (lg_cmp r5.toInt64 x3)) → (wl_X1_countersAheadOf_25 L x1 x2 x3 Q n (x5 + 1) (x6 + 1))) ∧ (¬ (0 < (lg_cmp r5.toInt64 x3)) → ((((lg_cmp r5.toInt64 x3) = 0) → (((x1 ≤ x6) → (wl_X1_countersAheadOf_25 L x1 x2 x3 Q n x5 (x6 + 1))) ∧ (¬ (x1 ≤ x6) → (wl_X1_countersAheadOf_25 L x1 x2 x3 Q n (x5 + 1) (x6 + 1))))) ∧ (¬ ((lg_cmp r5.toInt64 x3) = 0) → (wl_X1_countersAheadOf_25 L x1 x2 x3 Q n x5 (x6 + 1))))))))) ∧ (¬ (x2 = 0) → (wp_X1_fullReading L x6 (fun (r9 : Int64) => (((0 < (lg_cmp r9 x3)) → (wl_X1_countersAheadOf_25 L x1 x2 x3 Q n (x5 + 1) (x6 + 1))) ∧ (¬ (0 < (lg_cmp r9 x3)) → ((((lg_cmp r9 x3) = 0) → (((x1 ≤ x6) → (wl_X1_countersAheadOf_25 L x1 x2 x3 Q n x5 (x6 + 1))) ∧ (¬ (x1 ≤ x6) → (wl_X1_countersAheadOf_25 L x1 x2 x3 Q n (x5 + 1) (x6 + 1))))) ∧ (¬ ((lg_cmp r9 x3) = 0) → (wl_X1_countersAheadOf_25 L x1 x2 x3 Q n x5 (x6 + 1))))))))))))
def wp_X1_countersAheadOf (L : LS) (x1 : Int32) (x2 : Int32) (Q : Int32 → Prop) : Prop := (((x2 = 0) → (wp_X1_reading L x1 (fun (r2 : Int32) => (∃ n : Nat, wl_X1_countersAheadOf_25 L x1 x2 r2.toInt64 Q  n (0 : Int32) (0 : Int32))))) ∧ (¬ (x2 = 0) → (wp_X1_fullReading L x1 (fun (r14 : Int64) => (∃ n : Nat, wl_X1_countersAheadOf_25 L x1 x2 r14 Q  n (0 : Int32) (0 : Int32))))))
def wl_X1_ticketsOf_4 (L : LS) (x1 : Int32) (Q : Int32 → Prop) : Nat → Int32 → Int32 → Prop
  | 0, _, _ => False
  | n + 1, x2, x3 => ((((L.1 0 3) ≤ x3) → (Q x2)) ∧ (¬ ((L.1 0 3) ≤ x3) → (vp_in x3 49 ∧ ((((L.1 6 x3.toNatClampNeg) = x1) → (wl_X1_ticketsOf_4 L x1 Q n (x2 + 1) (x3 + 1))) ∧ (¬ ((L.1 6 x3.toNatClampNeg) = x1) → (wl_X1_ticketsOf_4 L x1 Q n x2 (x3 + 1)))))))
def wp_X1_ticketsOf (L : LS) (x1 : Int32) (Q : Int32 → Prop) : Prop := (∃ n : Nat, wl_X1_ticketsOf_4 L x1 Q  n (0 : Int32) (0 : Int32))
def wp_X1_arePair (L : LS) (x1 : Int32) (x2 : Int32) (Q : Int32 → Prop) : Prop := (vp_in x1 49 ∧ (vp_in x2 49 ∧ ((((L.1 6 x1.toNatClampNeg) = (L.1 6 x2.toNatClampNeg)) → (vp_in x1 49 ∧ (vp_in x2 49 ∧ ((((L.1 7 x1.toNatClampNeg) = (L.1 7 x2.toNatClampNeg)) → (Q (1 : Int32))) ∧ (¬ ((L.1 7 x1.toNatClampNeg) = (L.1 7 x2.toNatClampNeg)) → (Q (0 : Int32))))))) ∧ (¬ ((L.1 6 x1.toNatClampNeg) = (L.1 6 x2.toNatClampNeg)) → (Q (0 : Int32))))))
def wl_X1_partners_4 (L : LS) (x1 : Int32) (Q : Int32 → Prop) : Nat → Int32 → Int32 → Prop
  | 0, _, _ => False
  | n + 1, x2, x3 => ((((L.1 0 3) ≤ x3) → (Q x2)) ∧ (¬ ((L.1 0 3) ≤ x3) → (((x3 = x1) → (wl_X1_partners_4 L x1 Q n x2 (x3 + 1))) ∧ (¬ (x3 = x1) → (wp_X1_arePair L x3 x1 (fun (r3 : Int32) => (((r3 = 0) → (wl_X1_partners_4 L x1 Q n x2 (x3 + 1))) ∧ (¬ (r3 = 0) → (wl_X1_partners_4 L x1 Q n (x2 + 1) (x3 + 1))))))))))
def wp_X1_partners (L : LS) (x1 : Int32) (Q : Int32 → Prop) : Prop := (∃ n : Nat, wl_X1_partners_4 L x1 Q  n (0 : Int32) (0 : Int32))
def wl_X1_pairs_4 (L : LS) (Q : Int32 → Prop) : Nat → Int32 → Int32 → Prop
  | 0, _, _ => False
  | n + 1, x1, x2 => ((((L.1 0 3) ≤ x2) → (Q (x1 / (2 : Int32)))) ∧ (¬ ((L.1 0 3) ≤ x2) → (wp_X1_partners L x2 (fun (r2 : Int32) => (wl_X1_pairs_4 L Q n (x1 + r2) (x2 + 1))))))
def wp_X1_pairs (L : LS) (Q : Int32 → Prop) : Prop := (∃ n : Nat, wl_X1_pairs_4 L Q  n (0 : Int32) (0 : Int32))
def wp_X1_isTicketAhead (L : LS) (x1 : Int32) (x2 : Int32) (Q : Int32 → Prop) : Prop := (vp_in x1 49 ∧ (vp_in x2 49 ∧ ((((L.1 7 x1.toNatClampNeg) = (L.1 7 x2.toNatClampNeg)) → (vp_in x1 49 ∧ (vp_in x2 49 ∧ ((((L.1 6 x1.toNatClampNeg) = (L.1 6 x2.toNatClampNeg)) → (((x2 ≤ x1) → (Q (0 : Int32))) ∧ (¬ (x2 ≤ x1) → (Q (1 : Int32))))) ∧ (¬ ((L.1 6 x1.toNatClampNeg) = (L.1 6 x2.toNatClampNeg)) → (vp_in x1 49 ∧ (vp_in x2 49 ∧ ((((L.1 6 x2.toNatClampNeg) ≤ (L.1 6 x1.toNatClampNeg)) → (Q (0 : Int32))) ∧ (¬ ((L.1 6 x2.toNatClampNeg) ≤ (L.1 6 x1.toNatClampNeg)) → (Q (1 : Int32))))))))))) ∧ (¬ ((L.1 7 x1.toNatClampNeg) = (L.1 7 x2.toNatClampNeg)) → (vp_in x1 49 ∧ (vp_in x2 49 ∧ ((((L.1 7 x2.toNatClampNeg) ≤ (L.1 7 x1.toNatClampNeg)) → (Q (0 : Int32))) ∧ (¬ ((L.1 7 x2.toNatClampNeg) ≤ (L.1 7 x1.toNatClampNeg)) → (Q (1 : Int32))))))))))
def wl_X1_ticketsAheadOf_4 (L : LS) (x1 : Int32) (Q : Int32 → Prop) : Nat → Int32 → Int32 → Prop
  | 0, _, _ => False
  | n + 1, x2, x3 => ((((L.1 0 3) ≤ x3) → (Q x2)) ∧ (¬ ((L.1 0 3) ≤ x3) → (wp_X1_isTicketAhead L x3 x1 (fun (r2 : Int32) => (((r2 = 0) → (wl_X1_ticketsAheadOf_4 L x1 Q n x2 (x3 + 1))) ∧ (¬ (r2 = 0) → (wl_X1_ticketsAheadOf_4 L x1 Q n (x2 + 1) (x3 + 1))))))))
def wp_X1_ticketsAheadOf (L : LS) (x1 : Int32) (Q : Int32 → Prop) : Prop := (∃ n : Nat, wl_X1_ticketsAheadOf_4 L x1 Q  n (0 : Int32) (0 : Int32))

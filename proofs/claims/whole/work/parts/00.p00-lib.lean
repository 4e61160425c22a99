/-! Numbers. -/
theorem i_cl {n : Nat} (h : n < 1000) : (nI n).toNatClampNeg = n := nI_clamp (by omega)
theorem i_in {n N : Nat} (h : n < N) (hN : N < 1000) : vp_in (nI n) N := vp_in_nI h (by omega)
theorem i_m1 (a : Int32) : a + (-1) = a - 1 := by rw [Int32.sub_eq_add_neg]
theorem i_p1 (n : Nat) : nI n + 1 = nI (n + 1) := nI_1 n
theorem i_s1 (n : Nat) : nI (n + 1) - 1 = nI n := nI_pred n
theorem i_lt {a b : Nat} (ha : a < 100000) (hb : b < 100000) : nI a < nI b ↔ a < b := nI_ltI (by omega) (by omega)
theorem i_le {a b : Nat} (ha : a < 100000) (hb : b < 100000) : nI a ≤ nI b ↔ a ≤ b := nI_leI (by omega) (by omega)
theorem i_eq {a b : Nat} (ha : a < 100000) (hb : b < 100000) : nI a = nI b ↔ a = b := nI_eq (by omega) (by omega)
theorem i_neg (n : Nat) (h : n < 100000) : ¬ nI n < 0 := nI_pos (by omega)
theorem i_m1neg : (nI 0 - 1 : Int32) < 0 := by decide
/-- a number of a parameter: below 0, not below n, or one of those below n -/
theorem i_cases (x : Int32) {n : Nat} (hn : n < 100000) : x < 0 ∨ (¬ x < 0 ∧ nI n ≤ x) ∨ ∃ j, j < n ∧ x = nI j := by
  rcases pk_ix x (n := n) (by omega) with h | h | h
  · exact Or.inl h
  · by_cases h0 : x < 0
    · exact Or.inl h0
    · exact Or.inr (Or.inl ⟨h0, h⟩)
  · exact Or.inr (Or.inr h)
/-! A line, as it is meant: counters, pace, beats, tickets; places, links, spilled, digits, waiting numbers; the tickets. -/
abbrev AL : Type := (Nat × Nat × Int32 × Nat) × (Nat → Nat) × (Nat → Bool) × (Nat → Int32) × (Nat → Nat → Nat) × (Nat → Nat → Int32) × (Nat → Nat × Nat × Int32 × Int64)
def aC (A : AL) : Nat := A.1.1
def aG (A : AL) : Nat := A.1.2.1
def aB (A : AL) : Int32 := A.1.2.2.1
def aT (A : AL) : Nat := A.1.2.2.2
def aP (A : AL) : Nat → Nat := A.2.1
def aK (A : AL) : Nat → Bool := A.2.2.1
def aS (A : AL) : Nat → Int32 := A.2.2.2.1
def aD (A : AL) : Nat → Nat → Nat := A.2.2.2.2.1
def aW (A : AL) : Nat → Nat → Int32 := A.2.2.2.2.2.1
def aX (A : AL) : Nat → Nat × Nat × Int32 × Int64 := A.2.2.2.2.2.2
def RepL (L : LnS) (A : AL) : Prop :=
  (L.1 0 0 = nI (aC A) ∧ L.1 0 1 = nI (aG A) ∧ L.1 0 2 = aB A ∧ L.1 0 3 = nI (aT A)) ∧ (∀ c, c < 6 → L.1 1 c = nI (aP A c)) ∧ (∀ c, c < 6 → L.1 2 c = if aK A c = true then 1 else 0) ∧ (∀ c, c < 6 → L.1 3 c = aS A c)
  ∧ (∀ c p, c < 6 → p < 9 → L.1 4 (9 * c + p) = nI (aD A c p)) ∧ (∀ c p, c < 6 → p < 9 → L.1 5 (9 * c + p) = aW A c p)
  ∧ (∀ k, k < aT A → L.1 6 k = nI (aX A k).1 ∧ L.1 7 k = nI (aX A k).2.1 ∧ L.1 8 k = (aX A k).2.2.1 ∧ L.2 k = (aX A k).2.2.2)
/-- how many tickets of the first n were drawn from c -/
def aN (X : Nat → Nat × Nat × Int32 × Int64) (c : Nat) : Nat → Nat
  | 0 => 0
  | n + 1 => aN X c n + (if (X n).1 = c then 1 else 0)
def RepR (r : Nat → Int32) (A : AL) : Prop :=
  (r 0 = nI (aC A) ∧ r 1 = nI (aG A) ∧ r 2 = aB A ∧ r 3 = nI (aT A)) ∧ (∀ c, c < 6 → r (4 + 22 * c) = nI (aP A c)) ∧ (∀ c, c < 6 → r (5 + 22 * c) = if aK A c = true then 1 else 0) ∧ (∀ c, c < 6 → r (6 + 22 * c) = aS A c)
  ∧ (∀ c p, c < 6 → p < 9 → r (8 + 22 * c + p) = nI (aD A c p)) ∧ (∀ c p, c < 6 → p < 9 → r (17 + 22 * c + p) = aW A c p)
  ∧ (∀ k, k < aT A → r (136 + 4 * k) = nI (aX A k).1 ∧ r (137 + 4 * k) = nI (aX A k).2.1 ∧ r (138 + 4 * k) = (aX A k).2.2.1 ∧ r (139 + 4 * k) = ((aX A k).2.2.2).toInt32)
  ∧ (∀ c, c < 6 → r (7 + 22 * c) = nI (aN (aX A) c (aT A)))
/-- what holds of every line -/
def Ok (A : AL) : Prop :=
  (1 ≤ aC A ∧ aC A ≤ 6) ∧ (1 ≤ aG A ∧ aG A ≤ 9) ∧ aT A ≤ 49 ∧ (∀ c, aP A c ≤ 9) ∧ (∀ c, (c < aC A → 1 ≤ aP A c) ∧ (aC A ≤ c → aP A c = 0)) ∧ (∀ c, aK A c = true → c + 1 < aC A) ∧ (∀ c p, aD A c p ≤ 2) ∧ (∀ c p, aP A c ≤ p → aD A c p = 0 ∧ aW A c p = 0) ∧ (∀ k, k < aT A → (aX A k).1 < 6 ∧ (aX A k).2.1 < 19683)
theorem Ok.c6 {A : AL} (h : Ok A) {c : Nat} (hc : c < aC A) : c < 6 := Nat.lt_of_lt_of_le hc h.1.2
theorem Ok.p9 {A : AL} (h : Ok A) (c : Nat) : aP A c ≤ 9 := h.2.2.2.1 c
/-! What is read of a line. -/
/-- the number that digits make -/
def rdv (d : Nat → Nat) : Nat → Nat
  | 0 => 0
  | n + 1 => rdv d n + d n * 3 ^ n
def aR (A : AL) (c : Nat) : Nat := rdv (aD A c) (aP A c)
theorem rdv_lt {d : Nat → Nat} (hd : ∀ p, d p ≤ 2) : ∀ n, rdv d n < 3 ^ n
  | 0 => Nat.one_pos
  | n + 1 => by
    have h1 := rdv_lt hd n
    have h2 := hd n
    have h3 : d n * 3 ^ n ≤ 2 * 3 ^ n := Nat.mul_le_mul_right _ h2
    show rdv d n + d n * 3 ^ n < 3 ^ (n + 1)
    rw [Nat.pow_succ]
    omega
theorem aR_lt {A : AL} (h : Ok A) (c : Nat) : aR A c < 19683 :=
  Nat.lt_of_lt_of_le (rdv_lt (fun p => h.2.2.2.2.2.2.1 c p) _) (by
    have h9 := Nat.pow_le_pow_right (n := 3) (by decide) (h.p9 c)
    exact h9)
/-- the worth, as both compute it from the highest place on -/
def whor (d : Nat → Nat) (w : Nat → Int32) : Nat → Int64 → Int64
  | 0, acc => acc
  | n + 1, acc => whor d w n (acc * 3 + (nI (d n)).toInt64 + (w n).toInt64)
def aV (A : AL) (c : Nat) : Int64 := whor (aD A c) (aW A c) (aP A c) 0
/-- how many of the first n are so -/
def cnt (f : Nat → Bool) : Nat → Nat
  | 0 => 0
  | n + 1 => cnt f n + (if f n = true then 1 else 0)
theorem cnt_le (f : Nat → Bool) : ∀ n, cnt f n ≤ n
  | 0 => Nat.le_refl 0
  | n + 1 => by
    have := cnt_le f n
    show cnt f n + (if f n = true then 1 else 0) ≤ n + 1
    split <;> omega
/-- the places of c at which something waits -/
def aQ (A : AL) (c : Nat) : Nat := cnt (fun p => decide (¬ aW A c p = 0)) (aP A c)
def sm (f : Nat → Nat) : Nat → Nat
  | 0 => 0
  | n + 1 => sm f n + f n
theorem cnt_t {f : Nat → Bool} {k : Nat} (h : f k = true) : cnt f (k + 1) = cnt f k + 1 := by
  show cnt f k + (if f k = true then 1 else 0) = _
  rw [if_pos h]
theorem cnt_f {f : Nat → Bool} {k : Nat} (h : ¬ f k = true) : cnt f (k + 1) = cnt f k := by
  show cnt f k + (if f k = true then 1 else 0) = _
  rw [if_neg h, Nat.add_zero]
/-- fuel: there is one more -/
theorem fuel1 {n m : Nat} (h : m < n) : ∃ k, n = k + 1 ∧ m ≤ k := ⟨n - 1, by omega, by omega⟩
def aI (A : AL) : Nat := sm (aQ A) (aC A)
def aE (A : AL) : Nat := cnt (fun c => decide (aQ A c = 0)) (aC A)
def aKn (A : AL) : Nat := cnt (aK A) (aC A)
/-- two tickets with one counter and one number -/
def aPr (A : AL) (i j : Nat) : Bool := decide ((aX A i).1 = (aX A j).1 ∧ (aX A i).2.1 = (aX A j).2.1)
def aPn (A : AL) (k : Nat) : Nat := cnt (fun t => decide (¬ t = k) && aPr A t k) (aT A)
def aDb (A : AL) : Nat := sm (aPn A) (aT A) / 2
/-- a ticket stands ahead of another one -/
def aAh (A : AL) (i j : Nat) : Bool := decide (if (aX A i).2.1 = (aX A j).2.1 then (if (aX A i).1 = (aX A j).1 then i < j else (aX A i).1 < (aX A j).1) else (aX A i).2.1 < (aX A j).2.1)
def aAn (A : AL) (k : Nat) : Nat := cnt (fun t => aAh A t k) (aT A)
/-- the first counter of the chain that leads to c -/
def chn (K : Nat → Bool) : Nat → Nat
  | 0 => 0
  | c + 1 => if K c = true then chn K c else c + 1
/-- the first counter from f on, of m of them, at which something waits; f + m if there is none -/
def faw (A : AL) (f : Nat) : Nat → Nat
  | 0 => f
  | m + 1 => if aQ A f = 0 then faw A (f + 1) m else f
theorem sm_le {f : Nat → Nat} {b : Nat} (h : ∀ k, f k ≤ b) : ∀ n, sm f n ≤ n * b
  | 0 => Nat.zero_le _
  | n + 1 => by
    have h1 := sm_le h n
    have h2 := h n
    show sm f n + f n ≤ (n + 1) * b
    rw [Nat.add_mul, Nat.one_mul]
    omega
theorem aQ_le {A : AL} (hO : Ok A) (c : Nat) : aQ A c ≤ 9 := Nat.le_trans (cnt_le _ _) (hO.p9 c)
theorem bool_ite (b : Bool) : ((if b = true then 1 else 0 : Int32) = 0) ↔ ¬ b = true := by cases b <;> decide

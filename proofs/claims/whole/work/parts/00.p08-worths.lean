/-! A chain comes to rest. -/
theorem inn_0s {A : AL} {s x : Nat} (hs : s = 0 ∨ ¬ aK A (s - 1) = true) (hx : s ≤ x) (y : Nat) : inn A 0 x y = inn A s x y := by
  unfold inn
  by_cases hy : 0 < y
  · rw [if_pos hy, if_pos hy]
  · rw [if_neg hy, if_neg hy]
    by_cases hx2 : s < x
    · by_cases hk : aK A (x - 1) = true
      · rw [if_pos ⟨by omega, hk⟩, if_pos ⟨hx2, hk⟩]
      · rw [if_neg (fun h => hk h.2), if_neg (fun h => hk h.2)]
    · have ex : x = s := by omega
      subst ex
      have h0 : ¬ (0 < x ∧ aK A (x - 1) = true) := fun h => by
        rcases hs with hs | hs
        · omega
        · exact hs h.2
      rw [if_neg h0, if_neg (fun h => hx2 h.1)]
theorem rest_ex {s c : Nat} (hsc : s ≤ c) : ∀ (n : Nat) (A : AL), Ok A → c < aC A → (s = 0 ∨ ¬ aK A (s - 1) = true) → gs hh A s (c + 1 - s) ≤ n → ∃ N, N ≤ n ∧ grest (bts N A) s c ∧ ∀ k, k < N → ¬ grest (bts k A) s c := by
  intro n
  induction n with
  | zero =>
    intro A hO hc hs hn
    refine ⟨0, Nat.le_refl _, ?_, fun k hk => absurd hk (by omega)⟩
    refine Classical.byContradiction (fun h => ?_)
    have h2 : ∃ x, s ≤ x ∧ x < s + (c + 1 - s) ∧ ¬ aQ A x = 0 := Classical.byContradiction (fun h3 => h (fun x h4 h5 => Classical.byContradiction (fun h6 => h3 ⟨x, h4, by omega, h6⟩)))
    have h4 := phi_dec (A := A) (B := bt A) hO (s := s) (m := c + 1 - s) (by omega) rfl (fun x y h4 h5 => congrArg (fun z => aW A x y - tv A x y + z) (inn_0s hs h4 y)) h2
    omega
  | succ n ih =>
    intro A hO hc hs hn
    by_cases h : grest A s c
    · exact ⟨0, Nat.zero_le _, h, fun k hk => absurd hk (by omega)⟩
    · have h2 : ∃ x, s ≤ x ∧ x < s + (c + 1 - s) ∧ ¬ aQ A x = 0 := Classical.byContradiction (fun h3 => h (fun x h4 h5 => Classical.byContradiction (fun h6 => h3 ⟨x, h4, by omega, h6⟩)))
      have h4 := phi_dec (A := A) (B := bt A) hO (s := s) (m := c + 1 - s) (by omega) rfl (fun x y h4 h5 => congrArg (fun z => aW A x y - tv A x y + z) (inn_0s hs h4 y)) h2
      obtain ⟨N, h5, h6, h7⟩ := ih (bt A) (bt_ok hO) hc hs (by omega)
      refine ⟨N + 1, by omega, h6, fun k hk => ?_⟩
      cases k with
      | zero => exact h
      | succ k => exact h7 k (by omega)
/-- it comes to rest long before the limit -/
theorem rest_ex' {A : AL} (hO : Ok A) {s c : Nat} (hsc : s ≤ c) (hc : c < aC A) (hs : s = 0 ∨ ¬ aK A (s - 1) = true) (hb : tot A ≤ 18000) : ∃ N, N < 1000000 ∧ grest (bts N A) s c ∧ ∀ k, k < N → ¬ grest (bts k A) s c := by
  have h := phi_le (A := A) (s := s) (m := c + 1 - s) (by omega)
  obtain ⟨N, h1, h2, h3⟩ := rest_ex hsc _ A hO hc hs (Nat.le_refl _)
  exact ⟨N, by omega, h2, h3⟩
/-! Whole numbers of 64 bits. -/
theorem lc_gt (x y : Int64) : (0 < lg_cmp x y) ↔ y.toInt < x.toInt := by
  rw [← Int64.lt_iff_toInt_lt]
  unfold lg_cmp
  by_cases h : x > y
  · rw [if_pos h]
    exact ⟨fun _ => h, fun _ => by decide⟩
  · rw [if_neg h]
    by_cases h2 : x = y
    · rw [if_pos h2]
      exact ⟨fun h3 => absurd h3 (by decide), fun h3 => absurd h3 h⟩
    · rw [if_neg h2]
      exact ⟨fun h3 => absurd h3 (by decide), fun h3 => absurd h3 h⟩
theorem lc_eq (x y : Int64) : (lg_cmp x y = 0) ↔ x.toInt = y.toInt := by
  rw [Int64.toInt_inj]
  unfold lg_cmp
  by_cases h : x > y
  · rw [if_pos h]
    refine ⟨fun h3 => absurd h3 (by decide), fun h3 => ?_⟩
    rw [h3] at h
    have h4 := Int64.lt_iff_toInt_lt.mp h
    omega
  · rw [if_neg h]
    by_cases h2 : x = y
    · rw [if_pos h2]
      exact ⟨fun _ => h2, fun _ => rfl⟩
    · rw [if_neg h2]
      exact ⟨fun h3 => absurd h3 (by decide), fun h3 => absurd h3 h2⟩
theorem lc_lt (x y : Int64) : (lg_cmp x y < 0) ↔ x.toInt < y.toInt := by
  have h1 := lc_gt x y
  have h2 := lc_eq x y
  unfold lg_cmp at h1 h2 ⊢
  by_cases h : x > y
  · rw [if_pos h] at h1 h2 ⊢
    have h3 := h1.mp (by decide)
    exact ⟨fun h4 => absurd h4 (by decide), fun h4 => by omega⟩
  · rw [if_neg h] at h1 h2 ⊢
    by_cases h5 : x = y
    · rw [if_pos h5] at h1 h2 ⊢
      have h3 := h2.mp rfl
      exact ⟨fun h4 => absurd h4 (by decide), fun h4 => by omega⟩
    · rw [if_neg h5] at h1 h2 ⊢
      have h6 : ¬ y.toInt < x.toInt := fun h7 => absurd (h1.mpr h7) (by decide)
      have h8 : ¬ x.toInt = y.toInt := fun h7 => absurd (h2.mpr h7) (by decide)
      exact ⟨fun _ => by omega, fun _ => by decide⟩
theorem lc_le (x y : Int64) : (lg_cmp x y ≤ 0) ↔ x.toInt ≤ y.toInt := by
  rw [lg_cmp_le, Int64.le_iff_toInt_le]
theorem oI64 {x : Int} (h : -2 ^ 62 ≤ x) (h' : x < 2 ^ 62) : (Int64.ofInt x).toInt = x := Int64.toInt_ofInt_of_le (by omega) (by omega)
theorem i32_64 (x : Int32) : x.toInt64 = Int64.ofInt x.toInt := by
  have h1 := x.toInt_lt
  have h2 := x.le_toInt
  apply Int64.toInt_inj.mp
  rw [Int32.toInt_toInt64, Int64.toInt_ofInt_of_le (by omega) (by omega)]
theorem nI64 {n : Nat} (h : n < 100000) : (nI n).toInt64 = Int64.ofInt (n : Int) := by
  rw [i32_64, nI_toInt (by omega)]
/-! The worth, as a whole number. -/
def wsum (w : Nat → Int) : Nat → Int
  | 0 => 0
  | n + 1 => wsum w n + w n * 3 ^ n
theorem whor_i (d : Nat → Nat) (w : Nat → Int32) (hd : ∀ p, d p ≤ 2) : ∀ (n : Nat) (a : Int), whor d w n (Int64.ofInt a) = Int64.ofInt (a * 3 ^ n + rdv d n + wsum (fun p => (w p).toInt) n)
  | 0, a => by
    show Int64.ofInt a = Int64.ofInt (a * 1 + 0 + 0)
    rw [Int.mul_one, Int.add_zero, Int.add_zero]
  | n + 1, a => by
    have h2 := hd n
    show whor d w n (Int64.ofInt a * 3 + (nI (d n)).toInt64 + (w n).toInt64) = _
    rw [nI64 (by omega), i32_64, show (3 : Int64) = Int64.ofInt 3 from rfl, ← Int64.ofInt_mul, ← Int64.ofInt_add, ← Int64.ofInt_add, whor_i d w hd n]
    congr 1
    show (a * 3 + (d n : Int) + (w n).toInt) * 3 ^ n + rdv d n + wsum (fun p => (w p).toInt) n = a * 3 ^ (n + 1) + ((rdv d n + d n * 3 ^ n : Nat) : Int) + (wsum (fun p => (w p).toInt) n + (w n).toInt * 3 ^ n)
    rw [Int.add_mul, Int.add_mul, Int.pow_succ, Int.natCast_add, Int.natCast_mul, Int.natCast_pow, Int.mul_assoc, Int.mul_comm 3]
    have e3 : ((3 : Nat) : Int) = 3 := rfl
    rw [e3]
    omega
def aVi (A : AL) (c : Nat) : Int := (aR A c : Int) + wsum (fun p => (aW A c p).toInt) (aP A c)
theorem aV_i {A : AL} (hO : Ok A) (c : Nat) : aV A c = Int64.ofInt (aVi A c) := by
  have h := whor_i (aD A c) (aW A c) (fun p => hO.2.2.2.2.2.2.1 c p) (aP A c) 0
  rw [show Int64.ofInt 0 = (0 : Int64) from rfl, Int.zero_mul, Int.zero_add] at h
  exact h
theorem wsum_b (w : Nat → Int) {b : Nat} (hw : ∀ p, (w p).natAbs ≤ b) : ∀ n, (wsum w n).natAbs ≤ b * 3 ^ n
  | 0 => Nat.zero_le _
  | n + 1 => by
    have h1 := wsum_b w hw n
    have h2 : (w n * 3 ^ n).natAbs ≤ b * 3 ^ n := by
      rw [Int.natAbs_mul, Int.natAbs_pow]
      exact Nat.mul_le_mul_right _ (hw n)
    have h3 : (wsum w n + w n * 3 ^ n).natAbs ≤ (wsum w n).natAbs + (w n * 3 ^ n).natAbs := Int.natAbs_add_le _ _
    show (wsum w n + w n * 3 ^ n).natAbs ≤ b * 3 ^ (n + 1)
    rw [Nat.pow_succ, ← Nat.mul_assoc]
    omega
theorem wsum_s (w : Nat → Int) : ∀ n, n ≤ 9 → (wsum w n).natAbs ≤ sm (fun p => (w p).natAbs) n * 6561
  | 0, _ => Nat.zero_le _
  | n + 1, h => by
    have h1 := wsum_s w n (by omega)
    have h4 : 3 ^ n ≤ 6561 := Nat.pow_le_pow_right (n := 3) (by decide) (show n ≤ 8 by omega)
    have h2 : (w n * 3 ^ n).natAbs ≤ (w n).natAbs * 6561 := by
      rw [Int.natAbs_mul, Int.natAbs_pow]
      exact Nat.mul_le_mul_left _ h4
    have h3 : (wsum w n + w n * 3 ^ n).natAbs ≤ (wsum w n).natAbs + (w n * 3 ^ n).natAbs := Int.natAbs_add_le _ _
    show (wsum w n + w n * 3 ^ n).natAbs ≤ (sm (fun p => (w p).natAbs) n + (w n).natAbs) * 6561
    rw [Nat.add_mul]
    omega
theorem aVi_b {A : AL} (hO : Ok A) (c : Nat) : -2 ^ 50 ≤ aVi A c ∧ aVi A c ≤ 2 ^ 50 := by
  have h1 := aR_lt hO c
  have h2 := wsum_b (fun p => (aW A c p).toInt) (b := 2 ^ 31) (fun p => by
    have h3 := (aW A c p).toInt_lt
    have h4 := (aW A c p).le_toInt
    show (aW A c p).toInt.natAbs ≤ 2 ^ 31
    omega) (aP A c)
  have h9 : 3 ^ aP A c ≤ 19683 := Nat.pow_le_pow_right (n := 3) (by decide) (hO.p9 c)
  have h5 : 2 ^ 31 * 3 ^ aP A c ≤ 2 ^ 31 * 19683 := Nat.mul_le_mul_left _ h9
  unfold aVi
  omega
theorem aV_toInt {A : AL} (hO : Ok A) (c : Nat) : (aV A c).toInt = aVi A c := by
  have h := aVi_b hO c
  rw [aV_i hO]
  exact oI64 (by omega) (by omega)
/-- the excess of a ticket that is drawn now -/
theorem aV_exc {A : AL} (hO : Ok A) {c : Nat} (hc : c < aC A) (hb : tot A ≤ 18000) : ((aV A c - (nI (aR A c)).toInt64).toInt32).toInt64 = aV A c - (nI (aR A c)).toInt64 := by
  have h1 := aR_lt hO c
  have h2 := wsum_s (fun p => (aW A c p).toInt) (aP A c) (hO.p9 c)
  have e0 : tot A = sm (pt (fun _ _ => 1) A) (aC A) := by
    unfold tot gs
    congr 1
    funext i
    rw [Nat.zero_add]
  have h3 : sm (fun p => ((aW A c p).toInt).natAbs) (aP A c) ≤ tot A := by
    have h4 : sm (fun p => ((aW A c p).toInt).natAbs) (aP A c) = pt (fun _ _ => 1) A c := by
      unfold pt
      congr 1
      funext y
      rw [Nat.mul_one]
      rfl
    rw [h4, e0, show aC A = c + (1 + (aC A - c - 1)) by omega, sm_split, sm_split]
    show _ ≤ sm (pt (fun _ _ => 1) A) c + ((0 + pt (fun _ _ => 1) A (c + 0)) + _)
    rw [Nat.add_zero]
    omega
  have h5 : sm (fun p => ((aW A c p).toInt).natAbs) (aP A c) * 6561 ≤ 18000 * 6561 := Nat.mul_le_mul_right _ (by omega)
  have e1 : aV A c - (nI (aR A c)).toInt64 = Int64.ofInt (wsum (fun p => (aW A c p).toInt) (aP A c)) := by
    rw [aV_i hO, nI64 (by omega), ← Int64.ofInt_sub]
    congr 1
    unfold aVi
    omega
  rw [e1]
  apply Int64.toInt_inj.mp
  rw [Int32.toInt_toInt64, oI64 (by omega) (by omega)]
  have e2 : (Int64.ofInt (wsum (fun p => (aW A c p).toInt) (aP A c))).toInt32.toInt = (Int64.ofInt (wsum (fun p => (aW A c p).toInt) (aP A c))).toInt.bmod (2 ^ 32) := Int64.toInt_toInt32 _
  rw [e2, oI64 (by omega) (by omega), Int.bmod_def]
  have : (2 : Int) ^ 32 = 4294967296 := by decide
  split <;> omega
/-! Which counters stand ahead of another one. -/
def vI (A : AL) (w : Int32) (c : Nat) : Int := if w = 0 then (aR A c : Int) else aVi A c
def aho (A : AL) (w : Int32) (d c : Nat) : Bool := decide (vI A w c < vI A w d ∨ (vI A w d = vI A w c ∧ d < c))
def aHo (A : AL) (w : Int32) (c : Nat) : Nat := cnt (fun d => aho A w d c) (aC A)
theorem ca_loop {L : LnS} {A : AL} (hR : RepL L A) (hO : Ok A) {c : Nat} (hc : c < 6) {w : Int32} {z : Int64} (hz : z.toInt = vI A w c) {Q : Int32 → Prop} : ∀ (m k n : Nat), k + m = aC A → m < n → Q (nI (aHo A w c)) → wl_X1_countersAheadOf_25 L (nI c) w z Q n (nI (cnt (fun d => aho A w d c) k)) (nI k) := by
  have hC := hO.1.2
  intro m
  induction m with
  | zero =>
    intro k n hk hn h
    obtain ⟨n, rfl, -⟩ := fuel1 hn
    refine ⟨fun _ => ?_, fun h0 => absurd ?_ h0⟩
    · rw [show k = aC A by omega]
      exact h
    · rw [hR.1.1, i_le (by omega) (by omega)]
      omega
  | succ m ih =>
    intro k n hk hn h
    obtain ⟨n, rfl, hn⟩ := fuel1 hn
    refine ⟨fun h0 => ?_, fun _ => ?_⟩
    · rw [hR.1.1, i_le (by omega) (by omega)] at h0
      omega
    · have h1 := ih (k + 1) n (by omega) (by omega) h
      have ht : aho A w k c = true → wl_X1_countersAheadOf_25 L (nI c) w z Q n (nI (cnt (fun d => aho A w d c) k) + 1) (nI k + 1) := fun e => by
        rw [i_p1, i_p1]
        rwa [cnt_t (f := fun d => aho A w d c) e] at h1
      have hf : ¬ aho A w k c = true → wl_X1_countersAheadOf_25 L (nI c) w z Q n (nI (cnt (fun d => aho A w d c) k)) (nI k + 1) := fun e => by
        rw [i_p1]
        rwa [cnt_f (f := fun d => aho A w d c) e] at h1
      unfold aho at ht hf
      simp only [decide_eq_true_eq] at ht hf
      have hr := aR_lt hO k
      rw [i_le (by omega) (by omega)]
      refine ⟨fun hw => ok_reading hR hO (by omega) ?_, fun hw => ok_fullReading hR hO (by omega) ?_⟩
      · have ev : (nI (aR A k)).toInt64.toInt = vI A w k := by
          unfold vI
          rw [if_pos hw, Int32.toInt_toInt64, nI_toInt (by omega)]
        rw [lc_gt, lc_eq, hz, ev]
        exact ⟨fun e => ht (Or.inl e), fun e => ⟨fun e2 => ⟨fun e3 => hf (by omega), fun e3 => ht (by omega)⟩, fun e2 => hf (by omega)⟩⟩
      · have ev : (aV A k).toInt = vI A w k := by
          unfold vI
          rw [if_neg hw, aV_toInt hO]
        rw [lc_gt, lc_eq, hz, ev]
        exact ⟨fun e => ht (Or.inl e), fun e => ⟨fun e2 => ⟨fun e3 => hf (by omega), fun e3 => ht (by omega)⟩, fun e2 => hf (by omega)⟩⟩
theorem ok_countersAheadOf {L : LnS} {A : AL} (hR : RepL L A) (hO : Ok A) {c : Nat} (hc : c < 6) {w : Int32} {Q : Int32 → Prop} (h : Q (nI (aHo A w c))) : wp_X1_countersAheadOf L (nI c) w Q := by
  have hC := hO.1.2
  have hr := aR_lt hO c
  refine ⟨fun hw => ok_reading hR hO hc ⟨7, ca_loop hR hO hc ?_ (aC A) 0 7 (by omega) (by omega) h⟩, fun hw => ok_fullReading hR hO hc ⟨7, ca_loop hR hO hc ?_ (aC A) 0 7 (by omega) (by omega) h⟩⟩
  · unfold vI
    rw [if_pos hw, Int32.toInt_toInt64, nI_toInt (by omega)]
  · unfold vI
    rw [if_neg hw, aV_toInt hO]

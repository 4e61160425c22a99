/-! The line's reads. -/
theorem ok_cellOf {c p : Nat} {Q : Int32 → Prop} (h : Q (nI (9 * c + p))) : wp_X3_cellOf (nI c) (nI p) Q := by
  unfold wp_X3_cellOf
  have e : nI c * (9 : Int32) + nI p = nI (9 * c + p) := by
    rw [show (9 : Int32) = nI 9 from rfl, pk_mul, nI_add, Nat.mul_comm]
  rw [e]
  exact h
theorem ok_hasCounter {L : LnS} {A : AL} (hR : RepL L A) (hO : Ok A) {x : Int32} {Q : Int32 → Prop} (h1 : (x < 0 ∨ nI (aC A) ≤ x) → Q 0) (h2 : ∀ c, c < aC A → x = nI c → Q 1) : wp_X1_hasCounter L x Q := by
  unfold wp_X1_hasCounter
  rw [hR.1.1]
  have hC := hO.1.2
  refine ⟨fun h => h1 (Or.inl h), fun h => ⟨fun h3 => h1 (Or.inr h3), fun h3 => ?_⟩⟩
  rcases i_cases x (n := aC A) (by omega) with h4 | h4 | ⟨j, h4, h5⟩
  · exact absurd h4 h
  · exact absurd h4.2 h3
  · exact h2 j h4 h5
theorem rd_loop {L : LnS} {A : AL} (hR : RepL L A) (hO : Ok A) {c : Nat} (hc : c < 6) {Q : Int32 → Prop} : ∀ (k acc n : Nat), k ≤ aP A c → k < n → Q (nI (acc * 3 ^ k + rdv (aD A c) k)) → wl_X1_reading_11 L (nI c) Q n (nI acc) (nI k - 1) := by
  intro k
  induction k with
  | zero =>
    intro acc n hk hn h
    obtain ⟨n, rfl⟩ : ∃ m, n = m + 1 := ⟨n - 1, by omega⟩
    refine ⟨fun _ => ?_, fun h0 => absurd i_m1neg h0⟩
    simpa [rdv] using h
  | succ k ih =>
    intro acc n hk hn h
    obtain ⟨n, rfl⟩ : ∃ m, n = m + 1 := ⟨n - 1, by omega⟩
    have h9 := hO.p9 c
    rw [i_s1]
    refine ⟨fun h0 => absurd h0 (i_neg k (by omega)), fun _ => ?_⟩
    refine ok_cellOf ⟨i_in (by omega) (by decide), ?_⟩
    intro y hy
    rw [i_cl (by omega), hR.2.2.2.2.1 c k hc (by omega)] at hy
    subst hy
    rw [show (3 : Int32) = nI 3 from rfl, pk_mul, nI_add, i_m1]
    refine ih (acc * 3 + aD A c k) n (by omega) (by omega) ?_
    have e : (acc * 3 + aD A c k) * 3 ^ k + rdv (aD A c) k = acc * 3 ^ (k + 1) + rdv (aD A c) (k + 1) := by
      show _ = acc * 3 ^ (k + 1) + (rdv (aD A c) k + aD A c k * 3 ^ k)
      rw [Nat.pow_succ, Nat.add_mul, Nat.mul_assoc, Nat.mul_comm 3 (3 ^ k)]
      omega
    rw [e]
    exact h
theorem ok_reading {L : LnS} {A : AL} (hR : RepL L A) (hO : Ok A) {c : Nat} (hc : c < 6) {Q : Int32 → Prop} (h : Q (nI (aR A c))) : wp_X1_reading L (nI c) Q := by
  refine ⟨i_in hc (by decide), 10, ?_⟩
  rw [i_cl (by omega), hR.2.1 c hc]
  have h9 := hO.p9 c
  refine rd_loop hR hO hc (aP A c) 0 10 (Nat.le_refl _) (by omega) ?_
  rw [Nat.zero_mul, Nat.zero_add]
  exact h

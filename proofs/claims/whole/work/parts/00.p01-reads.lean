/-! The line's reads. -/
theorem ok_cellOf {c p : Nat} {Q : Int32 → Prop} (h : Q (nI (9 * c + p))) : wp_X3_cellOf (nI c) (nI p) Q := by
  unfold wp_X3_cellOf
  have e : nI c * (9 : Int32) + nI p = nI (9 * c + p) := by
    rw [show (9 : Int32) = nI 9 from rfl, pk_mul, nI_add, Nat.mul_comm]
  rw [e]
  exact h
theorem ok_hasCounter {L : LnS} {A : AL} (hR : RepL L A) (hO : Ok A) {x : Int32} {Q : Int32 → Prop} (h1 : (x < 0 ∨ nI (aC A) ≤ x) → Q 0) (h2 : ∀ c, c < aC A → x = nI c → Q 1) : wp_X1_hasCounter L x Q := by
  unfold wp_X1_hasCounter
  rw [hR.1.1]
  have hC := hO.1.2
  refine ⟨fun h => h1 (Or.inl h), fun h => ⟨fun h3 => h1 (Or.inr h3), fun h3 => ?_⟩⟩
  rcases i_cases x (n := aC A) (by omega) with h4 | h4 | ⟨j, h4, h5⟩
  · exact absurd h4 h
  · exact absurd h4.2 h3
  · exact h2 j h4 h5
theorem rd_loop {L : LnS} {A : AL} (hR : RepL L A) (hO : Ok A) {c : Nat} (hc : c < 6) {Q : Int32 → Prop} : ∀ (k acc n : Nat), k ≤ aP A c → k < n → Q (nI (acc * 3 ^ k + rdv (aD A c) k)) → wl_X1_reading_11 L (nI c) Q n (nI acc) (nI k - 1) := by
  intro k
  induction k with
  | zero =>
    intro acc n hk hn h
    obtain ⟨n, rfl⟩ : ∃ m, n = m + 1 := ⟨n - 1, by omega⟩
    refine ⟨fun _ => ?_, fun h0 => absurd i_m1neg h0⟩
    simpa [rdv] using h
  | succ k ih =>
    intro acc n hk hn h
    obtain ⟨n, rfl⟩ : ∃ m, n = m + 1 := ⟨n - 1, by omega⟩
    have h9 := hO.p9 c
    rw [i_s1]
    refine ⟨fun h0 => absurd h0 (i_neg k (by omega)), fun _ => ?_⟩
    refine ok_cellOf ⟨i_in (by omega) (by decide), ?_⟩
    intro y hy
    rw [i_cl (by omega), hR.2.2.2.2.1 c k hc (by omega)] at hy
    subst hy
    rw [show (3 : Int32) = nI 3 from rfl, pk_mul, nI_add, i_m1]
    refine ih (acc * 3 + aD A c k) n (by omega) (by omega) ?_
    have e : (acc * 3 + aD A c k) * 3 ^ k + rdv (aD A c) k = acc * 3 ^ (k + 1) + rdv (aD A c) (k + 1) := by
      show _ = acc * 3 ^ (k + 1) + (rdv (aD A c) k + aD A c k * 3 ^ k)
      rw [Nat.pow_succ, Nat.add_mul, Nat.mul_assoc, Nat.mul_comm 3 (3 ^ k)]
      omega
    rw [e]
    exact h
theorem ok_reading {L : LnS} {A : AL} (hR : RepL L A) (hO : Ok A) {c : Nat} (hc : c < 6) {Q : Int32 → Prop} (h : Q (nI (aR A c))) : wp_X1_reading L (nI c) Q := by
  refine ⟨i_in hc (by decide), 10, ?_⟩
  rw [i_cl (by omega), hR.2.1 c hc]
  have h9 := hO.p9 c
  refine rd_loop hR hO hc (aP A c) 0 10 (Nat.le_refl _) (by omega) ?_
  rw [Nat.zero_mul, Nat.zero_add]
  exact h
theorem wq_loop {L : LnS} {A : AL} (hR : RepL L A) (hO : Ok A) {c : Nat} (hc : c < 6) {Q : Int32 → Prop} : ∀ (m k n : Nat), k + m = aP A c → m < n → Q (nI (aQ A c)) → wl_X1_waitingAt_4 L (nI c) Q n (nI (cnt (fun p => decide (¬ aW A c p = 0)) k)) (nI k) := by
  have h9 := hO.p9 c
  have hp := hR.2.1 c hc
  intro m
  induction m with
  | zero =>
    intro k n hk hn h
    obtain ⟨n, rfl, -⟩ := fuel1 hn
    refine ⟨i_in hc (by decide), ?_⟩
    rw [i_cl (by omega), hp, i_le (by omega) (by omega)]
    refine ⟨fun _ => ?_, fun h0 => absurd (by omega) h0⟩
    rw [show k = aP A c by omega]
    exact h
  | succ m ih =>
    intro k n hk hn h
    obtain ⟨n, rfl, hn⟩ := fuel1 hn
    refine ⟨i_in hc (by decide), ?_⟩
    rw [i_cl (by omega), hp, i_le (by omega) (by omega)]
    refine ⟨fun h0 => absurd h0 (by omega), fun _ => ok_cellOf ⟨i_in (by omega) (by decide), ?_⟩⟩
    rw [i_cl (by omega), hR.2.2.2.2.2.1 c k hc (by omega), i_p1, i_p1]
    refine ⟨fun hz => ?_, fun hz => ?_⟩
    · have := ih (k + 1) n (by omega) (by omega) h
      rwa [cnt_f (by simp [hz])] at this
    · have := ih (k + 1) n (by omega) (by omega) h
      rwa [cnt_t (by simp [hz])] at this
theorem ok_waitingAt {L : LnS} {A : AL} (hR : RepL L A) (hO : Ok A) {c : Nat} (hc : c < 6) {Q : Int32 → Prop} (h : Q (nI (aQ A c))) : wp_X1_waitingAt L (nI c) Q := by
  have h9 := hO.p9 c
  exact ⟨10, wq_loop hR hO hc (aP A c) 0 10 (by omega) (by omega) h⟩
theorem ok_isAtRest {L : LnS} {A : AL} (hR : RepL L A) (hO : Ok A) {c : Nat} (hc : c < 6) {Q : Int32 → Prop} (h : Q (if aQ A c = 0 then 1 else 0)) : wp_X1_isAtRest L (nI c) Q := by
  refine ok_waitingAt hR hO hc ?_
  have h1 := aQ_le hO c
  rw [show (nI (aQ A c) = 0) ↔ aQ A c = 0 from i_eq (b := 0) (by omega) (by omega)]
  by_cases hz : aQ A c = 0
  · rw [if_pos hz] at h
    exact ⟨fun _ => h, fun h0 => absurd hz h0⟩
  · rw [if_neg hz] at h
    exact ⟨fun h0 => absurd h0 hz, fun _ => h⟩
theorem wia_loop {L : LnS} {A : AL} (hR : RepL L A) (hO : Ok A) {Q : Int32 → Prop} : ∀ (m k n : Nat), k + m = aC A → m < n → Q (nI (aI A)) → wl_X1_waitingInAll_4 L Q n (nI (sm (aQ A) k)) (nI k) := by
  have hC := hO.1.2
  intro m
  induction m with
  | zero =>
    intro k n hk hn h
    obtain ⟨n, rfl, -⟩ := fuel1 hn
    refine ⟨fun _ => ?_, fun h0 => absurd ?_ h0⟩
    · rw [show k = aC A by omega]
      exact h
    · rw [hR.1.1, i_le (by omega) (by omega)]
      omega
  | succ m ih =>
    intro k n hk hn h
    obtain ⟨n, rfl, hn⟩ := fuel1 hn
    refine ⟨fun h0 => ?_, fun _ => ok_waitingAt hR hO (by omega) ?_⟩
    · rw [hR.1.1, i_le (by omega) (by omega)] at h0
      omega
    · rw [nI_add, i_p1]
      exact ih (k + 1) n (by omega) (by omega) h
theorem ok_waitingInAll {L : LnS} {A : AL} (hR : RepL L A) (hO : Ok A) {Q : Int32 → Prop} (h : Q (nI (aI A))) : wp_X1_waitingInAll L Q := by
  have hC := hO.1.2
  exact ⟨7, wia_loop hR hO (aC A) 0 7 (by omega) (by omega) h⟩
theorem car_loop {L : LnS} {A : AL} (hR : RepL L A) (hO : Ok A) {Q : Int32 → Prop} : ∀ (m k n : Nat), k + m = aC A → m < n → Q (nI (aE A)) → wl_X1_countersAtRest_4 L Q n (nI (cnt (fun c => decide (aQ A c = 0)) k)) (nI k) := by
  have hC := hO.1.2
  intro m
  induction m with
  | zero =>
    intro k n hk hn h
    obtain ⟨n, rfl, -⟩ := fuel1 hn
    refine ⟨fun _ => ?_, fun h0 => absurd ?_ h0⟩
    · rw [show k = aC A by omega]
      exact h
    · rw [hR.1.1, i_le (by omega) (by omega)]
      omega
  | succ m ih =>
    intro k n hk hn h
    obtain ⟨n, rfl, hn⟩ := fuel1 hn
    refine ⟨fun h0 => ?_, fun _ => ok_isAtRest hR hO (by omega) ?_⟩
    · rw [hR.1.1, i_le (by omega) (by omega)] at h0
      omega
    · have h1 := ih (k + 1) n (by omega) (by omega) h
      rw [i_p1, i_p1]
      by_cases hz : aQ A k = 0
      · rw [if_pos hz]
        rw [cnt_t (by simp [hz])] at h1
        exact ⟨fun h0 => absurd h0 (by decide), fun _ => h1⟩
      · rw [if_neg hz]
        rw [cnt_f (by simp [hz])] at h1
        exact ⟨fun _ => h1, fun h0 => absurd rfl h0⟩
theorem ok_countersAtRest {L : LnS} {A : AL} (hR : RepL L A) (hO : Ok A) {Q : Int32 → Prop} (h : Q (nI (aE A))) : wp_X1_countersAtRest L Q := by
  have hC := hO.1.2
  exact ⟨7, car_loop hR hO (aC A) 0 7 (by omega) (by omega) h⟩
theorem lk_loop {L : LnS} {A : AL} (hR : RepL L A) (hO : Ok A) {Q : Int32 → Prop} : ∀ (m k n : Nat), k + m = aC A → m < n → Q (nI (aKn A)) → wl_X1_linkedCounters_4 L Q n (nI (cnt (aK A) k)) (nI k) := by
  have hC := hO.1.2
  intro m
  induction m with
  | zero =>
    intro k n hk hn h
    obtain ⟨n, rfl, -⟩ := fuel1 hn
    refine ⟨fun _ => ?_, fun h0 => absurd ?_ h0⟩
    · rw [show k = aC A by omega]
      exact h
    · rw [hR.1.1, i_le (by omega) (by omega)]
      omega
  | succ m ih =>
    intro k n hk hn h
    obtain ⟨n, rfl, hn⟩ := fuel1 hn
    refine ⟨fun h0 => ?_, fun _ => ⟨i_in (by omega) (by decide), ?_⟩⟩
    · rw [hR.1.1, i_le (by omega) (by omega)] at h0
      omega
    · rw [i_cl (by omega), hR.2.2.1 k (by omega), bool_ite, i_p1, i_p1]
      have h1 := ih (k + 1) n (by omega) (by omega) h
      refine ⟨fun hz => ?_, fun hz => ?_⟩
      · rwa [cnt_f hz] at h1
      · rwa [cnt_t (Classical.not_not.mp hz)] at h1
theorem ok_linkedCounters {L : LnS} {A : AL} (hR : RepL L A) (hO : Ok A) {Q : Int32 → Prop} (h : Q (nI (aKn A))) : wp_X1_linkedCounters L Q := by
  have hC := hO.1.2
  exact ⟨7, lk_loop hR hO (aC A) 0 7 (by omega) (by omega) h⟩
theorem ds_loop {L : LnS} {A : AL} (hR : RepL L A) (hO : Ok A) {c : Nat} (hc : c < 6) {Q : Int32 → Prop} : ∀ (m k n : Nat), k + m = aP A c → m < n → Q (nI (sm (aD A c) (aP A c))) → wl_X1_digitSum_4 L (nI c) Q n (nI (sm (aD A c) k)) (nI k) := by
  have h9 := hO.p9 c
  have hp := hR.2.1 c hc
  intro m
  induction m with
  | zero =>
    intro k n hk hn h
    obtain ⟨n, rfl, -⟩ := fuel1 hn
    refine ⟨i_in hc (by decide), ?_⟩
    rw [i_cl (by omega), hp, i_le (by omega) (by omega)]
    refine ⟨fun _ => ?_, fun h0 => absurd (by omega) h0⟩
    rw [show k = aP A c by omega]
    exact h
  | succ m ih =>
    intro k n hk hn h
    obtain ⟨n, rfl, hn⟩ := fuel1 hn
    refine ⟨i_in hc (by decide), ?_⟩
    rw [i_cl (by omega), hp, i_le (by omega) (by omega)]
    refine ⟨fun h0 => absurd h0 (by omega), fun _ => ok_cellOf ⟨i_in (by omega) (by decide), ?_⟩⟩
    rw [i_cl (by omega), hR.2.2.2.2.1 c k hc (by omega), nI_add, i_p1]
    exact ih (k + 1) n (by omega) (by omega) h
theorem ok_digitSum {L : LnS} {A : AL} (hR : RepL L A) (hO : Ok A) {c : Nat} (hc : c < 6) {Q : Int32 → Prop} (h : Q (nI (sm (aD A c) (aP A c)))) : wp_X1_digitSum L (nI c) Q := by
  have h9 := hO.p9 c
  exact ⟨10, ds_loop hR hO hc (aP A c) 0 10 (by omega) (by omega) h⟩
theorem fr_loop {L : LnS} {A : AL} (hR : RepL L A) (hO : Ok A) {c : Nat} (hc : c < 6) {Q : Int64 → Prop} : ∀ (k : Nat) (acc : Int64) (n : Nat), k ≤ aP A c → k < n → Q (whor (aD A c) (aW A c) k acc) → wl_X1_fullReading_12 L (nI c) Q n acc (nI k - 1) := by
  intro k
  induction k with
  | zero =>
    intro acc n hk hn h
    obtain ⟨n, rfl, -⟩ := fuel1 hn
    exact ⟨fun _ => h, fun h0 => absurd i_m1neg h0⟩
  | succ k ih =>
    intro acc n hk hn h
    obtain ⟨n, rfl, hn⟩ := fuel1 hn
    have h9 := hO.p9 c
    rw [i_s1]
    refine ⟨fun h0 => absurd h0 (i_neg k (by omega)), fun _ => ?_⟩
    refine ok_cellOf ⟨i_in (by omega) (by decide), i_in (by omega) (by decide), ?_⟩
    intro y hy
    rw [i_cl (by omega), hR.2.2.2.2.1 c k hc (by omega), hR.2.2.2.2.2.1 c k hc (by omega)] at hy
    subst hy
    rw [i_m1]
    exact ih _ n (by omega) (by omega) h
theorem ok_fullReading {L : LnS} {A : AL} (hR : RepL L A) (hO : Ok A) {c : Nat} (hc : c < 6) {Q : Int64 → Prop} (h : Q (aV A c)) : wp_X1_fullReading L (nI c) Q := by
  refine ⟨i_in hc (by decide), 10, ?_⟩
  rw [i_cl (by omega), hR.2.1 c hc]
  have h9 := hO.p9 c
  exact fr_loop hR hO hc (aP A c) 0 10 (Nat.le_refl _) (by omega) h

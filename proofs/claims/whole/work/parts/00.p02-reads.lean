/-! The line's reads, second half. -/
theorem ok_canLink {L : LnS} {A : AL} (hR : RepL L A) (hO : Ok A) {x : Int32} {Q : Int32 → Prop} (h1 : (x < 0 ∨ (¬ x < 0 ∧ nI (aC A) - 1 ≤ x)) → Q 0) (h2 : ∀ c, c + 1 < aC A → x = nI c → Q 1) : wp_X1_canLink L x Q := by
  unfold wp_X1_canLink
  rw [hR.1.1]
  have hC := hO.1.2
  refine ⟨fun h => h1 (Or.inl h), fun h => ⟨fun h3 => h1 (Or.inr ⟨h, h3⟩), fun h3 => ?_⟩⟩
  rcases i_cases x (n := aC A - 1) (by omega) with h4 | h4 | ⟨j, h4, h5⟩
  · exact absurd h4 h
  · obtain ⟨k, hk⟩ : ∃ k, aC A = k + 1 := ⟨aC A - 1, by have := hO.1.1; omega⟩
    rw [hk] at h3 h4
    rw [show (1 : Int32) = nI 1 from rfl] at h3
    rw [show nI (k + 1) - nI 1 = nI k from i_s1 k] at h3
    exact absurd h4.2 h3
  · exact h2 j (by omega) h5
/-- a number with a sign -/
def sv (s : Bool) (a : Nat) : Int32 := if s = true then -nI a else nI a
theorem sv_neg {a : Nat} (h : a < 100000) : -nI a = Int32.ofInt (-(a : Int)) := by
  apply Int32.toInt_inj.mp
  rw [Int32.toInt_neg, nI_toInt (by omega), Int32.toInt_ofInt]
theorem sv_toInt {s : Bool} {a : Nat} (h : a < 100000) : (sv s a).toInt = if s = true then -(a : Int) else a := by
  unfold sv
  cases s
  · simp [nI_toInt (show a < 2 ^ 31 by omega)]
  · simp only [if_true]
    rw [Int32.toInt_neg, nI_toInt (by omega)]
    rw [Int.bmod_def]
    have : (2 : Int) ^ 32 = 4294967296 := by decide
    split <;> omega
theorem sv_abs {s : Bool} {a : Nat} (h : a < 100000) : (if 0 ≤ sv s a then sv s a else 0 - sv s a) = nI a := by
  apply Int32.toInt_inj.mp
  have h1 := sv_toInt (s := s) h
  have h2 : (0 ≤ sv s a) ↔ 0 ≤ (sv s a).toInt := Int32.le_iff_toInt_le
  rw [nI_toInt (by omega)]
  by_cases h3 : 0 ≤ sv s a
  · rw [if_pos h3, h1]
    rw [h2, h1] at h3
    split at h3 <;> simp_all <;> omega
  · rw [if_neg h3, Int32.toInt_sub, h1]
    rw [h2, h1] at h3
    rw [Int.bmod_def]
    have : (2 : Int) ^ 32 = 4294967296 := by decide
    have e0 : (0 : Int32).toInt = 0 := by decide
    rw [e0]
    split at h3
    · simp_all
      split <;> omega
    · omega
def fitN (A : AL) (c a : Nat) : Bool := decide (a / 3 ^ aP A c = 0)
theorem hp_loop {L : LnS} {A : AL} (hR : RepL L A) (hO : Ok A) {c : Nat} (hc : c < 6) {a : Nat} (ha : a < 100000) {Q : Int32 → Prop} : ∀ (m k n : Nat), k + m = aP A c → m < n → Q (if fitN A c a = true then 1 else 0) → wl_X1_hasPlacesFor_8 L (nI c) Q n (nI (a / 3 ^ k)) (nI k) := by
  have h9 := hO.p9 c
  have hp := hR.2.1 c hc
  have hl : ∀ k, a / 3 ^ k < 100000 := fun k => Nat.lt_of_le_of_lt (Nat.div_le_self _ _) ha
  intro m
  induction m with
  | zero =>
    intro k n hk hn h
    obtain ⟨n, rfl, -⟩ := fuel1 hn
    refine ⟨i_in hc (by decide), ?_⟩
    rw [i_cl (by omega), hp, i_le (by omega) (by omega)]
    refine ⟨fun _ => ?_, fun h0 => absurd (by omega) h0⟩
    rw [show k = aP A c by omega]
    rw [show (nI (a / 3 ^ aP A c) = 0) ↔ a / 3 ^ aP A c = 0 from i_eq (b := 0) (hl _) (by omega)]
    unfold fitN at h
    by_cases hz : a / 3 ^ aP A c = 0
    · rw [if_pos (by simp [hz])] at h
      exact ⟨fun _ => h, fun h0 => absurd hz h0⟩
    · rw [if_neg (by simp only [decide_eq_true_eq]; exact hz)] at h
      exact ⟨fun h0 => absurd h0 hz, fun _ => h⟩
  | succ m ih =>
    intro k n hk hn h
    obtain ⟨n, rfl, hn⟩ := fuel1 hn
    refine ⟨i_in hc (by decide), ?_⟩
    rw [i_cl (by omega), hp, i_le (by omega) (by omega)]
    refine ⟨fun h0 => absurd h0 (by omega), fun _ => ?_⟩
    have hk2 := hl k
    rw [show (3 : Int32) = nI 3 from rfl, pk_div (by omega) (by decide) (by decide), i_p1, Nat.div_div_eq_div_mul, ← Nat.pow_succ]
    exact ih (k + 1) n (by omega) (by omega) h
theorem ok_hasPlacesFor {L : LnS} {A : AL} (hR : RepL L A) (hO : Ok A) {c : Nat} (hc : c < 6) {s : Bool} {a : Nat} (ha : a < 100000) {Q : Int32 → Prop} (h : Q (if fitN A c a = true then 1 else 0)) : wp_X1_hasPlacesFor L (nI c) (sv s a) Q := by
  have h9 := hO.p9 c
  refine ⟨10, ?_⟩
  rw [sv_abs ha]
  have := hp_loop hR hO hc ha (aP A c) 0 10 (by omega) (by omega) h
  rwa [Nat.pow_zero, Nat.div_one] at this
theorem to_loop {L : LnS} {A : AL} (hR : RepL L A) (hO : Ok A) {c : Nat} (hc : c < 6) {Q : Int32 → Prop} : ∀ (m k n : Nat), k + m = aT A → m < n → Q (nI (aN (aX A) c (aT A))) → wl_X1_ticketsOf_4 L (nI c) Q n (nI (aN (aX A) c k)) (nI k) := by
  have hT := hO.2.2.1
  intro m
  induction m with
  | zero =>
    intro k n hk hn h
    obtain ⟨n, rfl, -⟩ := fuel1 hn
    refine ⟨fun _ => ?_, fun h0 => absurd ?_ h0⟩
    · rw [show k = aT A by omega]
      exact h
    · rw [hR.1.2.2.2, i_le (by omega) (by omega)]
      omega
  | succ m ih =>
    intro k n hk hn h
    obtain ⟨n, rfl, hn⟩ := fuel1 hn
    refine ⟨fun h0 => ?_, fun _ => ⟨i_in (by omega) (by decide), ?_⟩⟩
    · rw [hR.1.2.2.2, i_le (by omega) (by omega)] at h0
      omega
    · have hx := hO.2.2.2.2.2.2.2.2 k (by omega)
      rw [i_cl (by omega), (hR.2.2.2.2.2.2 k (by omega)).1, i_eq (by omega) (by omega), i_p1, i_p1]
      have h1 := ih (k + 1) n (by omega) (by omega) h
      unfold aN at h1
      refine ⟨fun hz => ?_, fun hz => ?_⟩
      · rwa [if_pos hz] at h1
      · rwa [if_neg hz, Nat.add_zero] at h1
theorem ok_ticketsOf {L : LnS} {A : AL} (hR : RepL L A) (hO : Ok A) {c : Nat} (hc : c < 6) {Q : Int32 → Prop} (h : Q (nI (aN (aX A) c (aT A)))) : wp_X1_ticketsOf L (nI c) Q := by
  have hT := hO.2.2.1
  exact ⟨50, to_loop hR hO hc (aT A) 0 50 (by omega) (by omega) h⟩
theorem ok_arePair {L : LnS} {A : AL} (hR : RepL L A) (hO : Ok A) {i j : Nat} (hi : i < aT A) (hj : j < aT A) {Q : Int32 → Prop} (h : Q (if aPr A i j = true then 1 else 0)) : wp_X1_arePair L (nI i) (nI j) Q := by
  have hT := hO.2.2.1
  have xi := hO.2.2.2.2.2.2.2.2 i hi
  have xj := hO.2.2.2.2.2.2.2.2 j hj
  have ri := hR.2.2.2.2.2.2 i hi
  have rj := hR.2.2.2.2.2.2 j hj
  unfold wp_X1_arePair
  unfold aPr at h
  rw [i_cl (by omega), i_cl (by omega), ri.1, rj.1, ri.2.1, rj.2.1, i_eq (by omega) (by omega), i_eq (by omega) (by omega)]
  have vi : vp_in (nI i) 49 := i_in (by omega) (by decide)
  have vj : vp_in (nI j) 49 := i_in (by omega) (by decide)
  refine ⟨vi, vj, fun h1 => ⟨vi, vj, fun h2 => ?_, fun h2 => ?_⟩, fun h1 => ?_⟩
  · rwa [if_pos (by simp [h1, h2])] at h
  · rwa [if_neg (by simp [h2])] at h
  · rwa [if_neg (by simp [h1])] at h
theorem pn_loop {L : LnS} {A : AL} (hR : RepL L A) (hO : Ok A) {j : Nat} (hj : j < aT A) {Q : Int32 → Prop} : ∀ (m k n : Nat), k + m = aT A → m < n → Q (nI (aPn A j)) → wl_X1_partners_4 L (nI j) Q n (nI (cnt (fun t => decide (¬ t = j) && aPr A t j) k)) (nI k) := by
  have hT := hO.2.2.1
  intro m
  induction m with
  | zero =>
    intro k n hk hn h
    obtain ⟨n, rfl, -⟩ := fuel1 hn
    refine ⟨fun _ => ?_, fun h0 => absurd ?_ h0⟩
    · rw [show k = aT A by omega]
      exact h
    · rw [hR.1.2.2.2, i_le (by omega) (by omega)]
      omega
  | succ m ih =>
    intro k n hk hn h
    obtain ⟨n, rfl, hn⟩ := fuel1 hn
    refine ⟨fun h0 => ?_, fun _ => ?_⟩
    · rw [hR.1.2.2.2, i_le (by omega) (by omega)] at h0
      omega
    · have h1 := ih (k + 1) n (by omega) (by omega) h
      rw [i_eq (by omega) (by omega), i_p1, i_p1]
      refine ⟨fun hz => ?_, fun hz => ok_arePair hR hO (by omega) hj ?_⟩
      · rwa [cnt_f (by simp [hz])] at h1
      · rw [bool_ite]
        refine ⟨fun hb => ?_, fun hb => ?_⟩
        · rwa [cnt_f (by simp [hb])] at h1
        · rwa [cnt_t (by simp [hz, Classical.not_not.mp hb])] at h1
theorem ok_partners {L : LnS} {A : AL} (hR : RepL L A) (hO : Ok A) {j : Nat} (hj : j < aT A) {Q : Int32 → Prop} (h : Q (nI (aPn A j))) : wp_X1_partners L (nI j) Q := by
  have hT := hO.2.2.1
  exact ⟨50, pn_loop hR hO hj (aT A) 0 50 (by omega) (by omega) h⟩
theorem db_loop {L : LnS} {A : AL} (hR : RepL L A) (hO : Ok A) {Q : Int32 → Prop} : ∀ (m k n : Nat), k + m = aT A → m < n → Q (nI (aDb A)) → wl_X1_pairs_4 L Q n (nI (sm (aPn A) k)) (nI k) := by
  have hT := hO.2.2.1
  intro m
  induction m with
  | zero =>
    intro k n hk hn h
    obtain ⟨n, rfl, -⟩ := fuel1 hn
    refine ⟨fun _ => ?_, fun h0 => absurd ?_ h0⟩
    · rw [show k = aT A by omega]
      have hb : sm (aPn A) (aT A) ≤ aT A * 49 := sm_le (fun k => Nat.le_trans (cnt_le _ _) hT) _
      have hb2 : aT A * 49 ≤ 49 * 49 := Nat.mul_le_mul_right _ hT
      rw [show (2 : Int32) = nI 2 from rfl, pk_div (by omega) (by decide) (by decide)]
      exact h
    · rw [hR.1.2.2.2, i_le (by omega) (by omega)]
      omega
  | succ m ih =>
    intro k n hk hn h
    obtain ⟨n, rfl, hn⟩ := fuel1 hn
    refine ⟨fun h0 => ?_, fun _ => ok_partners hR hO (by omega) ?_⟩
    · rw [hR.1.2.2.2, i_le (by omega) (by omega)] at h0
      omega
    · rw [nI_add, i_p1]
      exact ih (k + 1) n (by omega) (by omega) h
theorem ok_pairs {L : LnS} {A : AL} (hR : RepL L A) (hO : Ok A) {Q : Int32 → Prop} (h : Q (nI (aDb A))) : wp_X1_pairs L Q := by
  have hT := hO.2.2.1
  exact ⟨50, db_loop hR hO (aT A) 0 50 (by omega) (by omega) h⟩
theorem ok_isTicketAhead {L : LnS} {A : AL} (hR : RepL L A) (hO : Ok A) {i j : Nat} (hi : i < aT A) (hj : j < aT A) {Q : Int32 → Prop} (h : Q (if aAh A i j = true then 1 else 0)) : wp_X1_isTicketAhead L (nI i) (nI j) Q := by
  have hT := hO.2.2.1
  have xi := hO.2.2.2.2.2.2.2.2 i hi
  have xj := hO.2.2.2.2.2.2.2.2 j hj
  have ri := hR.2.2.2.2.2.2 i hi
  have rj := hR.2.2.2.2.2.2 j hj
  unfold wp_X1_isTicketAhead
  rw [i_cl (by omega), i_cl (by omega), ri.1, rj.1, ri.2.1, rj.2.1, i_eq (by omega) (by omega), i_eq (by omega) (by omega), i_le (by omega) (by omega), i_le (by omega) (by omega), i_le (by omega) (by omega)]
  have vi : vp_in (nI i) 49 := i_in (by omega) (by decide)
  have vj : vp_in (nI j) 49 := i_in (by omega) (by decide)
  have ht : aAh A i j = true → Q 1 := fun e => by rwa [if_pos e] at h
  have hf : ¬ aAh A i j = true → Q 0 := fun e => by rwa [if_neg e] at h
  unfold aAh at ht hf
  refine ⟨vi, vj, fun h1 => ⟨vi, vj, fun h2 => ⟨fun h3 => hf ?_, fun h3 => ht ?_⟩, fun h2 => ⟨vi, vj, fun h3 => hf ?_, fun h3 => ht ?_⟩⟩, fun h1 => ⟨vi, vj, fun h3 => hf ?_, fun h3 => ht ?_⟩⟩
  · simp [h1, h2]; omega
  · simp [h1, h2]; omega
  · simp [h1, h2]; omega
  · simp [h1, h2]; omega
  · simp [h1]; omega
  · simp [h1]; omega
theorem ah_loop {L : LnS} {A : AL} (hR : RepL L A) (hO : Ok A) {j : Nat} (hj : j < aT A) {Q : Int32 → Prop} : ∀ (m k n : Nat), k + m = aT A → m < n → Q (nI (aAn A j)) → wl_X1_ticketsAheadOf_4 L (nI j) Q n (nI (cnt (fun t => aAh A t j) k)) (nI k) := by
  have hT := hO.2.2.1
  intro m
  induction m with
  | zero =>
    intro k n hk hn h
    obtain ⟨n, rfl, -⟩ := fuel1 hn
    refine ⟨fun _ => ?_, fun h0 => absurd ?_ h0⟩
    · rw [show k = aT A by omega]
      exact h
    · rw [hR.1.2.2.2, i_le (by omega) (by omega)]
      omega
  | succ m ih =>
    intro k n hk hn h
    obtain ⟨n, rfl, hn⟩ := fuel1 hn
    refine ⟨fun h0 => ?_, fun _ => ok_isTicketAhead hR hO (by omega) hj ?_⟩
    · rw [hR.1.2.2.2, i_le (by omega) (by omega)] at h0
      omega
    · have h1 := ih (k + 1) n (by omega) (by omega) h
      rw [bool_ite, i_p1, i_p1]
      refine ⟨fun hb => ?_, fun hb => ?_⟩
      · rwa [cnt_f (f := fun t => aAh A t j) hb] at h1
      · rwa [cnt_t (f := fun t => aAh A t j) (Classical.not_not.mp hb)] at h1
theorem ok_ticketsAheadOf {L : LnS} {A : AL} (hR : RepL L A) (hO : Ok A) {j : Nat} (hj : j < aT A) {Q : Int32 → Prop} (h : Q (nI (aAn A j))) : wp_X1_ticketsAheadOf L (nI j) Q := by
  have hT := hO.2.2.1
  exact ⟨50, ah_loop hR hO hj (aT A) 0 50 (by omega) (by omega) h⟩

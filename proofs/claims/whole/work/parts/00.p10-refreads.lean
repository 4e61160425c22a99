/-! The reference's reads. -/
theorem z0 : (0 : Int32).toNatClampNeg = 0 := by decide
theorem z1 : (1 : Int32).toNatClampNeg = 1 := by decide
theorem z2 : (2 : Int32).toNatClampNeg = 2 := by decide
theorem z3 : (3 : Int32).toNatClampNeg = 3 := by decide
theorem ok_in {x lo hi : Int64} {Q : Int32 → Prop} (h0 : (x.toInt < lo.toInt ∨ hi.toInt < x.toInt) → Q 0) (h1 : (lo.toInt ≤ x.toInt ∧ x.toInt ≤ hi.toInt) → Q 1) : wp_X4_in x lo hi Q := by
  unfold wp_X4_in
  rw [lc_lt, lc_gt]
  exact ⟨fun h => h0 (Or.inl h), fun h => ⟨fun h2 => h0 (Or.inr h2), fun h2 => h1 (by omega)⟩⟩
theorem i_toInt {n : Nat} (h : n < 100000) : (nI n).toInt = n := nI_toInt (by omega)
theorem i_toInt1 {n : Nat} (h : n < 100000) : (nI n - 1).toInt = (n : Int) - 1 := by
  cases n with
  | zero => decide
  | succ k =>
    rw [i_s1, i_toInt (by omega)]
    omega
theorem out_iff {x : Int32} {n : Nat} (hn : n < 100000) : (x < 0 ∨ nI n ≤ x) ↔ (x.toInt < 0 ∨ (n : Int) ≤ x.toInt) := by
  rw [Int32.lt_iff_toInt_lt, Int32.le_iff_toInt_le, i_toInt hn]
  exact Iff.rfl
theorem ok_isCounter {r : Nat → Int32} {A : AL} (hR : RepR r A) (hO : Ok A) {x : Int32} {Q : Int32 → Prop} (h0 : (x < 0 ∨ nI (aC A) ≤ x) → Q 0) (h1 : ∀ c, c < aC A → x = nI c → Q 1) : wp_X4_isCounter r x Q := by
  have hC := hO.1.2
  unfold wp_X4_isCounter
  rw [z0, hR.1.1]
  refine ok_in (fun h => h0 ?_) (fun h => ?_)
  · rw [Int32.toInt_toInt64, Int32.toInt_toInt64, i_toInt1 (by omega)] at h
    rw [out_iff (by omega)]
    have : (0 : Int64).toInt = 0 := by decide
    omega
  · rw [Int32.toInt_toInt64, Int32.toInt_toInt64, i_toInt1 (by omega)] at h
    have : (0 : Int64).toInt = 0 := by decide
    refine h1 x.toInt.toNat (by omega) ?_
    apply Int32.toInt_inj.mp
    rw [i_toInt (by omega)]
    omega
theorem ok_isCounter_in {r : Nat → Int32} {A : AL} (hR : RepR r A) (hO : Ok A) {c : Nat} (hc : c < aC A) {Q : Int32 → Prop} (h : Q 1) : wp_X4_isCounter r (nI c) Q := by
  have hC := hO.1.2
  refine ok_isCounter hR hO (fun h2 => ?_) (fun _ _ _ => h)
  rw [out_iff (by omega), i_toInt (by omega)] at h2
  omega
theorem ok_isCounter_out {r : Nat → Int32} {A : AL} (hR : RepR r A) (hO : Ok A) {x : Int32} (hx : x < 0 ∨ nI (aC A) ≤ x) {Q : Int32 → Prop} (h : Q 0) : wp_X4_isCounter r x Q := by
  have hC := hO.1.2
  refine ok_isCounter hR hO (fun _ => h) (fun c hc e => ?_)
  rw [e, out_iff (by omega), i_toInt (by omega)] at hx
  omega
theorem ok_hasCounter_in {L : LnS} {A : AL} (hR : RepL L A) (hO : Ok A) {c : Nat} (hc : c < aC A) {Q : Int32 → Prop} (h : Q 1) : wp_X1_hasCounter L (nI c) Q := by
  have hC := hO.1.2
  refine ok_hasCounter hR hO (fun h2 => ?_) (fun _ _ _ => h)
  rw [out_iff (by omega), i_toInt (by omega)] at h2
  omega
theorem ok_hasCounter_out {L : LnS} {A : AL} (hR : RepL L A) (hO : Ok A) {x : Int32} (hx : x < 0 ∨ nI (aC A) ≤ x) {Q : Int32 → Prop} (h : Q 0) : wp_X1_hasCounter L x Q := by
  have hC := hO.1.2
  refine ok_hasCounter hR hO (fun _ => h) (fun c hc e => ?_)
  rw [e, out_iff (by omega), i_toInt (by omega)] at hx
  omega
/-- a parameter that is a counter, or is not -/
theorem ctr (x : Int32) {A : AL} (hO : Ok A) : (x < 0 ∨ nI (aC A) ≤ x) ∨ ∃ c, c < aC A ∧ x = nI c := by
  have hC := hO.1.2
  rcases i_cases x (n := aC A) (by omega) with h | h | h
  · exact Or.inl (Or.inl h)
  · exact Or.inl (Or.inr h.2)
  · exact Or.inr h
theorem ok_at {c : Nat} {Q : Int32 → Prop} (h : Q (nI (4 + 22 * c))) : wp_X4_at (nI c) Q := by
  unfold wp_X4_at
  rw [show (22 : Int32) = nI 22 from rfl, pk_mul, show (4 : Int32) = nI 4 from rfl, nI_add]
  exact h
theorem ix_z (n : Nat) : nI n + (0 : Int32) = nI n := Int32.add_zero _
theorem ix_d (c p : Nat) : nI (4 + 22 * c) + (4 : Int32) + nI p = nI (8 + 22 * c + p) := by
  rw [show (4 : Int32) = nI 4 from rfl, nI_add, nI_add]
  congr 1
  omega
theorem ix_w (c p : Nat) : nI (4 + 22 * c) + (13 : Int32) + nI p = nI (17 + 22 * c + p) := by
  rw [show (13 : Int32) = nI 13 from rfl, nI_add, nI_add]
  congr 1
  omega
theorem ix_w0 (c : Nat) : nI (4 + 22 * c) + (13 : Int32) = nI (17 + 22 * c + 0) := by
  rw [show (13 : Int32) = nI 13 from rfl, nI_add]
  congr 1
  omega
theorem ix_k (c : Nat) : nI (4 + 22 * c) + (1 : Int32) = nI (5 + 22 * c) := by
  rw [i_p1]
  congr 1
  omega
theorem ix_s (c : Nat) : nI (4 + 22 * c) + (2 : Int32) = nI (6 + 22 * c) := by
  rw [show (2 : Int32) = nI 2 from rfl, nI_add]
  congr 1
  omega
theorem ix_e (c : Nat) : nI (4 + 22 * c) + (3 : Int32) = nI (7 + 22 * c) := by
  rw [show (3 : Int32) = nI 3 from rfl, nI_add]
  congr 1
  omega
theorem ix_t (k : Nat) : (136 : Int32) + (4 : Int32) * nI k = nI (136 + 4 * k) := by
  rw [show (4 : Int32) = nI 4 from rfl, pk_mul, show (136 : Int32) = nI 136 from rfl, nI_add]
theorem ix_t1 (k : Nat) : nI (136 + 4 * k) + 1 = nI (137 + 4 * k) := by
  rw [i_p1]
  congr 1
  omega
theorem ix_t2 (k : Nat) : nI (136 + 4 * k) + 2 = nI (138 + 4 * k) := by
  rw [show (2 : Int32) = nI 2 from rfl, nI_add]
  congr 1
  omega
theorem ix_t3 (k : Nat) : nI (136 + 4 * k) + 3 = nI (139 + 4 * k) := by
  rw [show (3 : Int32) = nI 3 from rfl, nI_add]
  congr 1
  omega
theorem so_loop {r : Nat → Int32} {A : AL} (hR : RepR r A) (hO : Ok A) {c : Nat} (hc : c < 6) {Q : Int32 → Prop} : ∀ (k acc n : Nat), k ≤ aP A c → k < n → Q (nI (acc * 3 ^ k + rdv (aD A c) k)) → wl_X4_shownOn_13 r (nI c) Q n (nI acc) (nI k - 1) := by
  intro k
  induction k with
  | zero =>
    intro acc n hk hn h
    obtain ⟨n, rfl, -⟩ := fuel1 hn
    refine ⟨fun _ => ?_, fun h0 => absurd i_m1neg h0⟩
    simpa [rdv] using h
  | succ k ih =>
    intro acc n hk hn h
    obtain ⟨n, rfl, -⟩ := fuel1 hn
    have h9 := hO.p9 c
    rw [i_s1]
    refine ⟨fun h0 => absurd h0 (i_neg k (by omega)), fun _ => ok_at ?_⟩
    rw [ix_d]
    refine ⟨i_in (by omega) (by decide), ?_⟩
    intro y hy
    rw [i_cl (by omega), hR.2.2.2.2.1 c k hc (by omega)] at hy
    subst hy
    rw [show (3 : Int32) = nI 3 from rfl, pk_mul, nI_add, i_m1]
    refine ih (3 * acc + aD A c k) n (by omega) (by omega) ?_
    have e : (3 * acc + aD A c k) * 3 ^ k + rdv (aD A c) k = acc * 3 ^ (k + 1) + rdv (aD A c) (k + 1) := by
      show _ = acc * 3 ^ (k + 1) + (rdv (aD A c) k + aD A c k * 3 ^ k)
      rw [Nat.pow_succ, Nat.add_mul, Nat.mul_comm 3 acc, Nat.mul_assoc, Nat.mul_comm 3 (3 ^ k)]
      omega
    rw [e]
    exact h
theorem ok_shownOn {r : Nat → Int32} {A : AL} (hR : RepR r A) (hO : Ok A) {c : Nat} (hc : c < 6) {Q : Int32 → Prop} (h : Q (nI (aR A c))) : wp_X4_shownOn r (nI c) Q := by
  refine ok_at ?_
  rw [ix_z]
  refine ⟨i_in (by omega) (by decide), ?_⟩
  intro y hy
  rw [i_cl (by omega), hR.2.1 c hc] at hy
  subst hy
  have h9 := hO.p9 c
  refine ⟨10, so_loop hR hO hc (aP A c) 0 10 (Nat.le_refl _) (by omega) ?_⟩
  rw [Nat.zero_mul, Nat.zero_add]
  exact h
theorem i64_mul_comm3 (a : Int64) : (3 : Int64) * a = a * 3 := Int64.mul_comm _ _
theorem wo_loop {r : Nat → Int32} {A : AL} (hR : RepR r A) (hO : Ok A) {c : Nat} (hc : c < 6) {Q : Int64 → Prop} : ∀ (k : Nat) (acc : Int64) (n : Nat), k ≤ aP A c → k < n → Q (whor (aD A c) (aW A c) k acc) → wl_X4_worthOn_14 r (nI c) Q n acc (nI k - 1) := by
  intro k
  induction k with
  | zero =>
    intro acc n hk hn h
    obtain ⟨n, rfl, -⟩ := fuel1 hn
    exact ⟨fun _ => h, fun h0 => absurd i_m1neg h0⟩
  | succ k ih =>
    intro acc n hk hn h
    obtain ⟨n, rfl, hn⟩ := fuel1 hn
    have h9 := hO.p9 c
    rw [i_s1]
    refine ⟨fun h0 => absurd h0 (i_neg k (by omega)), fun _ => ok_at ?_⟩
    rw [ix_d]
    refine ⟨i_in (by omega) (by decide), ok_at ?_⟩
    rw [ix_w]
    refine ⟨i_in (by omega) (by decide), ?_⟩
    intro y hy
    rw [i_cl (by omega), i_cl (by omega), hR.2.2.2.2.1 c k hc (by omega), hR.2.2.2.2.2.1 c k hc (by omega), i64_mul_comm3] at hy
    subst hy
    rw [i_m1]
    exact ih _ n (by omega) (by omega) h
theorem ok_worthOn {r : Nat → Int32} {A : AL} (hR : RepR r A) (hO : Ok A) {c : Nat} (hc : c < 6) {Q : Int64 → Prop} (h : Q (aV A c)) : wp_X4_worthOn r (nI c) Q := by
  refine ok_at ?_
  rw [ix_z]
  refine ⟨i_in (by omega) (by decide), ?_⟩
  intro y hy
  rw [i_cl (by omega), hR.2.1 c hc] at hy
  subst hy
  have h9 := hO.p9 c
  exact ⟨10, wo_loop hR hO hc (aP A c) 0 10 (Nat.le_refl _) (by omega) h⟩
theorem wn_loop {r : Nat → Int32} {A : AL} (hR : RepR r A) (hO : Ok A) {c : Nat} (hc : c < 6) {Q : Int32 → Prop} : ∀ (m k n : Nat), k + m = aP A c → m < n → Q (nI (aQ A c)) → wl_X4_waitsOn_4 r (nI c) Q n (nI (cnt (fun p => decide (¬ aW A c p = 0)) k)) (nI k) := by
  have h9 := hO.p9 c
  have hp := hR.2.1 c hc
  intro m
  induction m with
  | zero =>
    intro k n hk hn h
    obtain ⟨n, rfl, -⟩ := fuel1 hn
    refine ok_at ?_
    rw [ix_z]
    refine ⟨i_in (by omega) (by decide), ?_⟩
    rw [i_cl (by omega), hp, i_le (by omega) (by omega)]
    refine ⟨fun _ => ?_, fun h0 => absurd (by omega) h0⟩
    rw [show k = aP A c by omega]
    exact h
  | succ m ih =>
    intro k n hk hn h
    obtain ⟨n, rfl, hn⟩ := fuel1 hn
    refine ok_at ?_
    rw [ix_z]
    refine ⟨i_in (by omega) (by decide), ?_⟩
    rw [i_cl (by omega), hp, i_le (by omega) (by omega)]
    refine ⟨fun h0 => absurd h0 (by omega), fun _ => ok_at ?_⟩
    rw [ix_w]
    refine ⟨i_in (by omega) (by decide), ?_⟩
    rw [i_cl (by omega), hR.2.2.2.2.2.1 c k hc (by omega), i_p1, i_p1, ix_z]
    refine ⟨fun hz => ?_, fun hz => ?_⟩
    · have := ih (k + 1) n (by omega) (by omega) h
      rwa [cnt_f (by simp [hz])] at this
    · have := ih (k + 1) n (by omega) (by omega) h
      rwa [cnt_t (by simp [hz])] at this
theorem ok_waitsOn {r : Nat → Int32} {A : AL} (hR : RepR r A) (hO : Ok A) {c : Nat} (hc : c < 6) {Q : Int32 → Prop} (h : Q (nI (aQ A c))) : wp_X4_waitsOn r (nI c) Q := by
  have h9 := hO.p9 c
  exact ⟨10, wn_loop hR hO hc (aP A c) 0 10 (by omega) (by omega) h⟩
theorem wi_loop {r : Nat → Int32} {A : AL} (hR : RepR r A) (hO : Ok A) {Q : Int32 → Prop} : ∀ (m k n : Nat), k + m = aC A → m < n → Q (nI (aI A)) → wl_X4_waitsInAll_4 r Q n (nI (sm (aQ A) k)) (nI k) := by
  have hC := hO.1.2
  intro m
  induction m with
  | zero =>
    intro k n hk hn h
    obtain ⟨n, rfl, -⟩ := fuel1 hn
    refine ⟨fun _ => ?_, fun h0 => absurd ?_ h0⟩
    · rw [show k = aC A by omega]
      exact h
    · rw [z0, hR.1.1, i_le (by omega) (by omega)]
      omega
  | succ m ih =>
    intro k n hk hn h
    obtain ⟨n, rfl, hn⟩ := fuel1 hn
    refine ⟨fun h0 => ?_, fun _ => ok_waitsOn hR hO (by omega) ?_⟩
    · rw [z0, hR.1.1, i_le (by omega) (by omega)] at h0
      omega
    · rw [nI_add, i_p1]
      exact ih (k + 1) n (by omega) (by omega) h
theorem ok_waitsInAll {r : Nat → Int32} {A : AL} (hR : RepR r A) (hO : Ok A) {Q : Int32 → Prop} (h : Q (nI (aI A))) : wp_X4_waitsInAll r Q := by
  have hC := hO.1.2
  exact ⟨7, wi_loop hR hO (aC A) 0 7 (by omega) (by omega) h⟩
theorem se_loop {r : Nat → Int32} {A : AL} (hR : RepR r A) (hO : Ok A) {Q : Int32 → Prop} : ∀ (m k n : Nat), k + m = aC A → m < n → Q (nI (aE A)) → wl_X4_settledOn_4 r Q n (nI (cnt (fun c => decide (aQ A c = 0)) k)) (nI k) := by
  have hC := hO.1.2
  intro m
  induction m with
  | zero =>
    intro k n hk hn h
    obtain ⟨n, rfl, -⟩ := fuel1 hn
    refine ⟨fun _ => ?_, fun h0 => absurd ?_ h0⟩
    · rw [show k = aC A by omega]
      exact h
    · rw [z0, hR.1.1, i_le (by omega) (by omega)]
      omega
  | succ m ih =>
    intro k n hk hn h
    obtain ⟨n, rfl, hn⟩ := fuel1 hn
    refine ⟨fun h0 => ?_, fun _ => ok_waitsOn hR hO (by omega) ?_⟩
    · rw [z0, hR.1.1, i_le (by omega) (by omega)] at h0
      omega
    · have h1 := ih (k + 1) n (by omega) (by omega) h
      have hq := aQ_le hO k
      rw [i_p1, i_p1, ix_z, show (nI (aQ A k) = 0) ↔ aQ A k = 0 from i_eq (b := 0) (by omega) (by omega)]
      refine ⟨fun hz => ?_, fun hz => ?_⟩
      · rwa [cnt_t (by simp [hz])] at h1
      · rwa [cnt_f (by simp [hz])] at h1
theorem ok_settledOn {r : Nat → Int32} {A : AL} (hR : RepR r A) (hO : Ok A) {Q : Int32 → Prop} (h : Q (nI (aE A))) : wp_X4_settledOn r Q := by
  have hC := hO.1.2
  exact ⟨7, se_loop hR hO (aC A) 0 7 (by omega) (by omega) h⟩
theorem ok_allSettled {r : Nat → Int32} {A : AL} (hR : RepR r A) (hO : Ok A) {Q : Int32 → Prop} (h1 : aE A = aC A → Q 1) (h0 : ¬ aE A = aC A → Q 0) : wp_X4_allSettled r Q := by
  have hC := hO.1.2
  have hE : aE A ≤ aC A := cnt_le _ _
  refine ok_settledOn hR hO ?_
  rw [z0, hR.1.1, i_eq (by omega) (by omega)]
  exact ⟨h1, h0⟩
theorem ok_areDouble {r : Nat → Int32} {A : AL} (hR : RepR r A) (hO : Ok A) {i j : Nat} (hi : i < aT A) (hj : j < aT A) {Q : Int32 → Prop} (h : Q (if aPr A i j = true then 1 else 0)) : wp_X4_areDouble r (nI i) (nI j) Q := by
  have hT := hO.2.2.1
  have xi := hO.2.2.2.2.2.2.2.2 i hi
  have xj := hO.2.2.2.2.2.2.2.2 j hj
  have ri := hR.2.2.2.2.2.2.1 i hi
  have rj := hR.2.2.2.2.2.2.1 j hj
  unfold wp_X4_areDouble
  unfold aPr at h
  rw [ix_t, ix_t, ix_t1, ix_t1, i_cl (by omega), i_cl (by omega), i_cl (by omega), i_cl (by omega), ri.1, rj.1, ri.2.1, rj.2.1, i_eq (by omega) (by omega), i_eq (by omega) (by omega)]
  refine ⟨i_in (by omega) (by decide), i_in (by omega) (by decide), fun h1 => ⟨i_in (by omega) (by decide), i_in (by omega) (by decide), fun h2 => ?_, fun h2 => ?_⟩, fun h1 => ?_⟩
  · rwa [if_pos (by simp [h1, h2])] at h
  · rwa [if_neg (by simp [h2])] at h
  · rwa [if_neg (by simp [h1])] at h
theorem aPr_sym (A : AL) (i j : Nat) : aPr A i j = aPr A j i := by
  unfold aPr
  rw [decide_eq_decide]
  constructor <;> (intro h; exact ⟨h.1.symm, h.2.symm⟩)
theorem do_loop {r : Nat → Int32} {A : AL} (hR : RepR r A) (hO : Ok A) {j : Nat} (hj : j < aT A) {Q : Int32 → Prop} : ∀ (m k n : Nat), k + m = aT A → m < n → Q (nI (aPn A j)) → wl_X4_doublesOf_4 r (nI j) Q n (nI (cnt (fun t => decide (¬ t = j) && aPr A t j) k)) (nI k) := by
  have hT := hO.2.2.1
  intro m
  induction m with
  | zero =>
    intro k n hk hn h
    obtain ⟨n, rfl, -⟩ := fuel1 hn
    refine ⟨fun _ => ?_, fun h0 => absurd ?_ h0⟩
    · rw [show k = aT A by omega]
      exact h
    · rw [z3, hR.1.2.2.2, i_le (by omega) (by omega)]
      omega
  | succ m ih =>
    intro k n hk hn h
    obtain ⟨n, rfl, hn⟩ := fuel1 hn
    refine ⟨fun h0 => ?_, fun _ => ?_⟩
    · rw [z3, hR.1.2.2.2, i_le (by omega) (by omega)] at h0
      omega
    · have h1 := ih (k + 1) n (by omega) (by omega) h
      rw [i_eq (by omega) (by omega), i_p1, ix_z, i_p1]
      refine ⟨fun hz => ?_, fun hz => ok_areDouble hR hO hj (by omega) ?_⟩
      · rwa [cnt_f (by simp [hz])] at h1
      · rw [bool_ite, aPr_sym]
        refine ⟨fun hb => ?_, fun hb => ?_⟩
        · rwa [cnt_f (by simp [hb])] at h1
        · rwa [cnt_t (by simp [hz, Classical.not_not.mp hb])] at h1
theorem ok_doublesOf {r : Nat → Int32} {A : AL} (hR : RepR r A) (hO : Ok A) {j : Nat} (hj : j < aT A) {Q : Int32 → Prop} (h : Q (nI (aPn A j))) : wp_X4_doublesOf r (nI j) Q := by
  have hT := hO.2.2.1
  exact ⟨50, do_loop hR hO hj (aT A) 0 50 (by omega) (by omega) h⟩
theorem dn_loop {r : Nat → Int32} {A : AL} (hR : RepR r A) (hO : Ok A) {Q : Int32 → Prop} : ∀ (m k n : Nat), k + m = aT A → m < n → Q (nI (aDb A)) → wl_X4_doublesOn_4 r Q n (nI (sm (aPn A) k)) (nI k) := by
  have hT := hO.2.2.1
  intro m
  induction m with
  | zero =>
    intro k n hk hn h
    obtain ⟨n, rfl, -⟩ := fuel1 hn
    refine ⟨fun _ => ?_, fun h0 => absurd ?_ h0⟩
    · rw [show k = aT A by omega]
      have hb : sm (aPn A) (aT A) ≤ aT A * 49 := sm_le (fun k => Nat.le_trans (cnt_le _ _) hT) _
      have hb2 : aT A * 49 ≤ 49 * 49 := Nat.mul_le_mul_right _ hT
      rw [show (2 : Int32) = nI 2 from rfl, pk_div (by omega) (by decide) (by decide)]
      exact h
    · rw [z3, hR.1.2.2.2, i_le (by omega) (by omega)]
      omega
  | succ m ih =>
    intro k n hk hn h
    obtain ⟨n, rfl, hn⟩ := fuel1 hn
    refine ⟨fun h0 => ?_, fun _ => ok_doublesOf hR hO (by omega) ?_⟩
    · rw [z3, hR.1.2.2.2, i_le (by omega) (by omega)] at h0
      omega
    · rw [nI_add, i_p1]
      exact ih (k + 1) n (by omega) (by omega) h
theorem ok_doublesOn {r : Nat → Int32} {A : AL} (hR : RepR r A) (hO : Ok A) {Q : Int32 → Prop} (h : Q (nI (aDb A))) : wp_X4_doublesOn r Q := by
  have hT := hO.2.2.1
  exact ⟨50, dn_loop hR hO (aT A) 0 50 (by omega) (by omega) h⟩
theorem ok_refreading {r : Nat → Int32} {A : AL} (hR : RepR r A) (hO : Ok A) {c : Nat} (hc : c < 6) {w : Int32} {Q : Int64 → Prop} (h : ∀ z : Int64, z.toInt = vI A w c → Q z) : wp_X4_reading r (nI c) w Q := by
  have hr := aR_lt hO c
  refine ⟨fun hw => ok_shownOn hR hO hc (h _ ?_), fun hw => ok_worthOn hR hO hc (h _ ?_)⟩
  · unfold vI
    rw [if_pos hw, Int32.toInt_toInt64, i_toInt (by omega)]
  · unfold vI
    rw [if_neg hw, aV_toInt hO]
theorem ft_loop {r : Nat → Int32} {A : AL} (hR : RepR r A) (hO : Ok A) {c : Nat} (hc : c < 6) {a : Nat} (ha : a < 100000) {Q : Int32 → Prop} : ∀ (m k n : Nat), k + m = aP A c → m < n → Q (if fitN A c a = true then 1 else 0) → wl_X4_fits_14 r (nI c) Q n (nI (a / 3 ^ k)) (nI k) := by
  have h9 := hO.p9 c
  have hp := hR.2.1 c hc
  have hl : ∀ k, a / 3 ^ k < 100000 := fun k => Nat.lt_of_le_of_lt (Nat.div_le_self _ _) ha
  intro m
  induction m with
  | zero =>
    intro k n hk hn h
    obtain ⟨n, rfl, -⟩ := fuel1 hn
    refine ok_at ?_
    rw [ix_z]
    refine ⟨i_in (by omega) (by decide), ?_⟩
    rw [i_cl (by omega), hp, i_le (by omega) (by omega)]
    refine ⟨fun _ => ?_, fun h0 => absurd (by omega) h0⟩
    rw [show k = aP A c by omega]
    rw [show (nI (a / 3 ^ aP A c) = 0) ↔ a / 3 ^ aP A c = 0 from i_eq (b := 0) (hl _) (by omega)]
    unfold fitN at h
    by_cases hz : a / 3 ^ aP A c = 0
    · rw [if_pos (by simp [hz])] at h
      exact ⟨fun _ => h, fun h0 => absurd hz h0⟩
    · rw [if_neg (by simp only [decide_eq_true_eq]; exact hz)] at h
      exact ⟨fun h0 => absurd h0 hz, fun _ => h⟩
  | succ m ih =>
    intro k n hk hn h
    obtain ⟨n, rfl, hn⟩ := fuel1 hn
    refine ok_at ?_
    rw [ix_z]
    refine ⟨i_in (by omega) (by decide), ?_⟩
    rw [i_cl (by omega), hp, i_le (by omega) (by omega)]
    refine ⟨fun h0 => absurd h0 (by omega), fun _ => ?_⟩
    have hk2 := hl k
    rw [show (3 : Int32) = nI 3 from rfl, pk_div (by omega) (by decide) (by decide), i_p1, Nat.div_div_eq_div_mul, ← Nat.pow_succ]
    exact ih (k + 1) n (by omega) (by omega) h
theorem sv_absN {s : Bool} {a : Nat} (ha : a < 100000) (h : ¬ 0 ≤ sv s a) : -(sv s a) = nI a := by
  rw [sv_ng ha h]
  show - (-nI a) = nI a
  exact Int32.neg_neg
theorem sv_absP {s : Bool} {a : Nat} (ha : a < 100000) (h : 0 ≤ sv s a) : sv s a = nI a := by
  rcases sv_nn ha h with rfl | rfl
  · rfl
  · cases s <;> decide
theorem ok_fits {r : Nat → Int32} {A : AL} (hR : RepR r A) (hO : Ok A) {c : Nat} (hc : c < 6) {s : Bool} {a : Nat} (ha : a < 100000) {Q : Int32 → Prop} (h : Q (if fitN A c a = true then 1 else 0)) : wp_X4_fits r (nI c) (sv s a) Q := by
  have h9 := hO.p9 c
  have := ft_loop hR hO hc ha (aP A c) 0 10 (by omega) (by omega) h
  rw [Nat.pow_zero, Nat.div_one] at this
  refine ⟨fun h0 => ⟨10, ?_⟩, fun h0 => ⟨10, ?_⟩⟩
  · rw [sv_absP ha h0]
    exact this
  · rw [sv_absN ha h0]
    exact this
theorem fc_loop {r : Nat → Int32} {A : AL} (hR : RepR r A) {Q : Int32 → Prop} : ∀ (c n : Nat), c < 6 → c < n → Q (nI (chn (aK A) c)) → wl_X4_firstOfChain_2 r Q n (nI c) := by
  intro c
  induction c with
  | zero =>
    intro n hc hn h
    obtain ⟨n, rfl, -⟩ := fuel1 hn
    exact ⟨fun _ => h, fun h0 => absurd (show nI 0 ≤ 0 by decide) h0⟩
  | succ c ih =>
    intro n hc hn h
    obtain ⟨n, rfl, hn⟩ := fuel1 hn
    refine ⟨fun h0 => absurd ((i_le (b := 0) (by omega) (by omega)).mp h0) (by omega), fun _ => ?_⟩
    rw [i_m1, i_s1]
    refine ok_at ?_
    rw [ix_k]
    refine ⟨i_in (by omega) (by decide), ?_⟩
    rw [i_cl (by omega), hR.2.2.1 c (by omega)]
    have h2 : Q (nI (if aK A c = true then chn (aK A) c else c + 1)) := h
    refine ⟨fun e => ?_, fun e => ?_⟩
    · by_cases hk : aK A c = true
      · rw [if_pos hk] at h2
        exact ih n (by omega) (by omega) h2
      · rw [if_neg hk] at e
        exact absurd e (by decide)
    · by_cases hk : aK A c = true
      · rw [if_pos hk] at e
        exact absurd rfl e
      · rwa [if_neg hk] at h2
theorem ok_firstOfChain {r : Nat → Int32} {A : AL} (hR : RepR r A) {c : Nat} (hc : c < 6) {Q : Int32 → Prop} (h : Q (nI (chn (aK A) c))) : wp_X4_firstOfChain r (nI c) Q := ⟨7, fc_loop hR c 7 hc (by omega) h⟩

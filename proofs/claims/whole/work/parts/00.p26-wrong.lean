/-! Where the text is wrong. -/
def isD (v : Nat) : Bool := decide (48 ≤ v ∧ v ≤ 50)
def isM (v : Nat) : Bool := decide (v = 43 ∨ v = 45)
def isB (v : Nat) : Bool := decide (v = 47 ∨ v = 62)
def wr (s : Nat → Nat) (n : Nat) : Nat → Nat → Nat → Nat → Nat → Int32
  | 0, _, _, P, _ => if P = 0 then nI n else -1
  | m + 1, i, C, P, K =>
    if isD (s i) = true then (if P = 9 then nI i else wr s n m (i + 1) C (P + 1) 0)
    else if isM (s i) = true then (if P = 0 ∨ K = 5 ∨ (0 < K ∧ ¬ s (i - 1) = s i) then nI i else wr s n m (i + 1) C P (K + 1))
    else if isB (s i) = true then (if P = 0 ∨ C = 6 then nI i else wr s n m (i + 1) (C + 1) 0 0)
    else nI i
theorem ok_isD {v : Nat} (hv : v < 256) {Q : Int32 → Prop} (h1 : isD v = true → Q 1) (h0 : ¬ isD v = true → Q 0) : wp_X2_isDigit (nI v) Q := by
  unfold isD at h1 h0
  simp only [decide_eq_true_eq] at h1 h0
  unfold wp_X2_isDigit
  rw [show (48 : Int32) = nI 48 from rfl, show (50 : Int32) = nI 50 from rfl, i_lt (by omega) (by omega), i_lt (by omega) (by omega)]
  exact ⟨fun e => h0 (by omega), fun e => ⟨fun e2 => h0 (by omega), fun e2 => h1 (by omega)⟩⟩
theorem ok_isM {v : Nat} (hv : v < 256) {Q : Int32 → Prop} (h1 : isM v = true → Q 1) (h0 : ¬ isM v = true → Q 0) : wp_X2_isMark (nI v) Q := by
  unfold isM at h1 h0
  simp only [decide_eq_true_eq] at h1 h0
  unfold wp_X2_isMark
  rw [show (43 : Int32) = nI 43 from rfl, show (45 : Int32) = nI 45 from rfl, i_eq (by omega) (by omega), i_eq (by omega) (by omega)]
  exact ⟨fun e => h1 (by omega), fun e => ⟨fun e2 => h1 (by omega), fun e2 => h0 (by omega)⟩⟩
theorem ok_isB {v : Nat} (hv : v < 256) {Q : Int32 → Prop} (h1 : isB v = true → Q 1) (h0 : ¬ isB v = true → Q 0) : wp_X2_isBetween (nI v) Q := by
  unfold isB at h1 h0
  simp only [decide_eq_true_eq] at h1 h0
  unfold wp_X2_isBetween
  rw [show (47 : Int32) = nI 47 from rfl, show (62 : Int32) = nI 62 from rfl, i_eq (by omega) (by omega), i_eq (by omega) (by omega)]
  exact ⟨fun e => h1 (by omega), fun e => ⟨fun e2 => h1 (by omega), fun e2 => h0 (by omega)⟩⟩
theorem ok_inD {v : Nat} (hv : v < 256) {Q : Int32 → Prop} (h1 : isD v = true → Q 1) (h0 : ¬ isD v = true → Q 0) : wp_X4_in ((nI v).toInt64) (48 : Int64) (50 : Int64) Q := by
  unfold isD at h1 h0
  simp only [decide_eq_true_eq] at h1 h0
  have ev := i_toInt (n := v) (by omega)
  by_cases h : 48 ≤ v ∧ v ≤ 50
  · exact in_yes (l := 48) (h := 50) (by decide) (by decide) (by omega) (h1 h)
  · exact in_no (l := 48) (h := 50) (by decide) (by decide) (by omega) (h0 h)
theorem i0 {n : Nat} (h : n < 100000) : (nI n = 0) ↔ n = 0 := i_eq (b := 0) h (by omega)
theorem i0l {n : Nat} (h : n < 100000) : (nI n ≤ 0) ↔ n = 0 := by
  rw [show (0 : Int32) = nI 0 from rfl, i_le h (by omega)]
  omega
theorem fw2_loop {tx : TS} {s : Nat → Nat} {N : Nat} (hN : N ≤ 100) (h1 : tx.1 = nI N) (h2 : ∀ j, j < N → tx.2 j = nI (s j)) (hs : ∀ j, j < N → s j < 256) {Q : Int32 → Prop} : ∀ (m i n C P K K' : Nat) (x4 : Int32), i + m = N → m < n → C ≤ 6 → P ≤ 9 → K ≤ 5 → K' ≤ 5 → (0 < P → K' = K) → (0 < K' → 0 < i ∧ x4 = nI (s (i - 1))) → Q (wr s N m i C P K) → wl_X2_firstWrong_12 tx Q n (nI C) (nI P) (nI K') x4 (nI i) := by
  intro m
  induction m with
  | zero =>
    intro i n C P K K' x4 hi hn hC hP hK hK' hk hx h
    obtain ⟨n, rfl, -⟩ := fuel1 hn
    have h : Q (if P = 0 then nI N else -1) := h
    refine ⟨fun _ => ?_, fun h0 => absurd ?_ h0⟩
    · rw [i0 (by omega), h1]
      by_cases e : P = 0
      · rw [if_pos e] at h
        exact tp e h
      · rw [if_neg e] at h
        exact tn e h
    · rw [h1, i_le (by omega) (by omega)]
      omega
  | succ m ih =>
    intro i n C P K K' x4 hi hn hC hP hK hK' hk hx h
    obtain ⟨n, rfl, hn⟩ := fuel1 hn
    have hsi := hs i (by omega)
    unfold wr at h
    refine ⟨fun h0 => ?_, fun _ => ?_⟩
    · rw [h1, i_le (by omega) (by omega)] at h0
      omega
    · refine ⟨i_in (by omega) (by decide), ?_⟩
      rw [i_cl (by omega), h2 i (by omega), i_p1 C, i_p1 P, i_p1 K', i_p1 i]
      rw [i0 (by omega), show (6 : Int32) = nI 6 from rfl, i_eq (a := C) (by omega) (by omega), show (5 : Int32) = nI 5 from rfl, i_eq (a := K') (by omega) (by omega), i0l (by omega), show (9 : Int32) = nI 9 from rfl, i_eq (a := P) (by omega) (by omega)]
      refine ok_isD hsi (fun hd => t1 ?_) (fun hd => t0 (ok_isM hsi (fun hm => t1 ?_) (fun hm => t0 (ok_isB hsi (fun hb => t1 ?_) (fun hb => t0 ?_)))))
      · rw [if_pos hd] at h
        refine ⟨fun e => ?_, fun e => ?_⟩
        · rwa [if_pos e] at h
        · rw [if_neg e] at h
          exact ih (i + 1) n C (P + 1) 0 0 _ (by omega) (by omega) hC (by omega) (by omega) (by omega) (fun _ => rfl) (fun h => absurd h (by omega)) h
      · rw [if_neg hd, if_pos hm] at h
        refine ⟨fun e => ?_, fun e => ?_⟩
        · rwa [if_pos (Or.inl e)] at h
        · have ek := hk (by omega)
          subst ek
          refine ⟨fun e2 => ?_, fun e2 => ?_⟩
          · rwa [if_pos (Or.inr (Or.inl e2))] at h
          · have go : (¬ (P = 0 ∨ K' = 5 ∨ (0 < K' ∧ ¬ s (i - 1) = s i))) → wl_X2_firstWrong_12 tx Q n (nI C) (nI P) (nI (K' + 1)) (nI (s i)) (nI (i + 1)) := fun e3 => by
              rw [if_neg e3] at h
              exact ih (i + 1) n C P (K' + 1) (K' + 1) _ (by omega) (by omega) hC hP (by omega) (by omega) (fun _ => rfl) (fun _ => ⟨by omega, by rw [Nat.add_sub_cancel]⟩) h
            refine ⟨fun e3 => go (by omega), fun e3 => ?_⟩
            have hx2 := hx (by omega)
            rw [hx2.2, i_eq (by omega) (by have := hs (i - 1) (by omega); omega)]
            refine ⟨fun e4 => go (by omega), fun e4 => ?_⟩
            rwa [if_pos (Or.inr (Or.inr ⟨by omega, fun e5 => e4 e5.symm⟩))] at h
      · rw [if_neg hd, if_neg hm, if_pos hb] at h
        refine ⟨fun e => ?_, fun e => ⟨fun e2 => ?_, fun e2 => ?_⟩⟩
        · rwa [if_pos (Or.inl e)] at h
        · rwa [if_pos (Or.inr e2)] at h
        · rw [if_neg (by omega)] at h
          exact ih (i + 1) n (C + 1) 0 0 K' _ (by omega) (by omega) (by omega) (by omega) (by omega) hK' (fun h => absurd h (by omega)) (fun _ => ⟨by omega, by rw [Nat.add_sub_cancel]⟩) h
      · rwa [if_neg hd, if_neg hm, if_neg hb] at h
theorem ok_firstWrong {tx : TS} {s : Nat → Nat} {N : Nat} (hN : N ≤ 100) (h1 : tx.1 = nI N) (h2 : ∀ j, j < N → tx.2 j = nI (s j)) (hs : ∀ j, j < N → s j < 256) {Q : Int32 → Prop} (h : Q (wr s N N 0 1 0 0)) : wp_X2_firstWrong tx Q :=
  ⟨N + 1, fw2_loop hN h1 h2 hs N 0 (N + 1) 1 0 0 0 _ (by omega) (by omega) (by omega) (by omega) (by omega) (by omega) (fun _ => rfl) (fun h => absurd h (by omega)) h⟩
/-- what the reference does with its three answers about a sign -/
theorem w134 {M : MS} {C P K i : Nat} (hC : C ≤ 6) (hP : P ≤ 9) (hK : K ≤ 5) (d m b : Bool) {Q : Int32 → Prop} {E : Int32 → Int32 → Int32 → Int32 → Prop} (h0 : d = false → m = false → b = false → Q (nI i)) (h1 : d = true ∨ m = true ∨ b = true → E (nI (C + if b = true then 1 else 0)) (nI (if b = true then 0 else if d = true then P + 1 else P)) (nI (if m = true then K + 1 else 0)) (nI (i + 1))) : wj_X4_wrong_134 M (nI C) (nI P) (nI K) (nI i) (if d = true then 1 else 0) (if m = true then 1 else 0) (if b = true then 1 else 0) Q E := by
  have h187 : ∀ (p : Nat), (E (nI (C + if b = true then 1 else 0)) (nI p) (nI (if m = true then K + 1 else 0)) (nI (i + 1))) → wj_X4_wrong_187 M (nI (C + if b = true then 1 else 0)) (nI p) (nI K) (nI i) (if m = true then 1 else 0) Q (fun a b c d => E a b c d) := by
    intro p h
    unfold wj_X4_wrong_187
    rw [i_p1, i_p1]
    refine tb (fun hm => ?_) (fun hm => ?_)
    · rw [if_neg hm] at h
      exact h
    · rw [if_pos hm] at h
      exact h
  have h152 : (d = true ∨ m = true ∨ b = true) → wj_X4_wrong_152 M (nI C) (nI P) (nI K) (nI i) (if d = true then 1 else 0) (if m = true then 1 else 0) (if b = true then 1 else 0) Q (fun a b c d => E a b c d) := by
    intro hh
    have h1 := h1 hh
    unfold wj_X4_wrong_152 wj_X4_wrong_165
    rw [ix_z, i_p1, i_p1]
    refine tb (fun hb => ?_) (fun hb => ?_)
    · rw [if_neg hb] at h1 h187 ⊢
      rw [if_neg hb] at h1
      refine tp rfl (tb (fun hd => ?_) (fun hd => ?_))
      · rw [if_neg hd] at h1
        exact h187 P h1
      · rw [if_pos hd] at h1
        exact h187 (P + 1) h1
    · rw [if_pos hb] at h1 h187 ⊢
      rw [if_pos hb] at h1
      exact tn (by decide) (h187 0 h1)
  unfold wj_X4_wrong_134
  refine tb (fun hd => tb (fun hm => tb (fun hb => ?_) (fun hb => h152 (Or.inr (Or.inr hb)))) (fun hm => h152 (Or.inr (Or.inl hm)))) (fun hd => h152 (Or.inl hd))
  exact h0 (by simpa using hd) (by simpa using hm) (by simpa using hb)
theorem ite1 {x : Int32} (b : Bool) (hb : b = true) (hx : x = 1) : x = if b = true then 1 else 0 := by rw [if_pos hb]; exact hx
theorem w103 {M : MS} {C P K i v : Nat} (hv : v < 256) (hC : C ≤ 6) (hP : P ≤ 9) (hK : K ≤ 5) (d m : Bool) {Q : Int32 → Prop} {E : Int32 → Int32 → Int32 → Int32 → Prop} {b : Bool} (hb : b = true ↔ ((v = 47 ∨ v = 62) ∧ 0 < P ∧ C < 6)) (h : wj_X4_wrong_134 M (nI C) (nI P) (nI K) (nI i) (if d = true then 1 else 0) (if m = true then 1 else 0) (if b = true then 1 else 0) Q (fun a b c d => E a b c d)) : wj_X4_wrong_103 M (nI C) (nI P) (nI K) (nI i) (nI v) (if d = true then 1 else 0) (if m = true then 1 else 0) Q E := by
  have y : b = true → wj_X4_wrong_134 M (nI C) (nI P) (nI K) (nI i) (if d = true then 1 else 0) (if m = true then 1 else 0) 1 Q (fun a b c d => E a b c d) := fun e => by rwa [if_pos e] at h
  have n : ¬ b = true → wj_X4_wrong_134 M (nI C) (nI P) (nI K) (nI i) (if d = true then 1 else 0) (if m = true then 1 else 0) 0 Q (fun a b c d => E a b c d) := fun e => by rwa [if_neg e] at h
  rw [hb] at y n
  unfold wj_X4_wrong_103
  rw [show (47 : Int32) = nI 47 from rfl, show (62 : Int32) = nI 62 from rfl, show (6 : Int32) = nI 6 from rfl, i_eq (by omega) (by omega), i_eq (by omega) (by omega), i0l (by omega), i_le (by omega) (by omega)]
  exact ⟨fun e => ⟨fun e2 => n (by omega), fun e2 => ⟨fun e3 => n (by omega), fun e3 => y (by omega)⟩⟩, fun e => ⟨fun e4 => ⟨fun e2 => n (by omega), fun e2 => ⟨fun e3 => n (by omega), fun e3 => y (by omega)⟩⟩, fun e4 => n (by omega)⟩⟩
theorem key55 {M : MS} {s : Nat → Nat} {P K i : Nat} (hv : s i < 256) (hv1 : 0 < i → s (i - 1) < 256) (hi : i < 100) (hM : 0 < i → M 1 (i - 1) = nI (s (i - 1))) (hKi : 0 < K → 0 < i) {W0 W1 : Prop} (y : ((s i = 43 ∨ s i = 45) ∧ 0 < P ∧ K < 5 ∧ (K = 0 ∨ s (i - 1) = s i)) → W1) (n : ¬ ((s i = 43 ∨ s i = 45) ∧ 0 < P ∧ K < 5 ∧ (K = 0 ∨ s (i - 1) = s i)) → W0) (hm2 : s i = 43 ∨ s i = 45) : (P = 0 → W0) ∧ (¬ P = 0 → ((5 ≤ K → W0) ∧ (¬ 5 ≤ K → ((K = 0 → W1) ∧ (¬ K = 0 → (vp_in (nI i - 1) 100 ∧ ((M 1 (nI i - 1).toNatClampNeg = nI (s i) → W1) ∧ (¬ M 1 (nI i - 1).toNatClampNeg = nI (s i) → W0)))))))) := by
  refine ⟨fun e => n (by omega), fun e => ⟨fun e2 => n (by omega), fun e2 => ⟨fun e3 => y (by omega), fun e3 => ?_⟩⟩⟩
  have hi0 := hKi (by omega)
  obtain ⟨q, rfl⟩ : ∃ q, i = q + 1 := ⟨i - 1, by omega⟩
  have h3 := hM hi0
  have h4 := hv1 hi0
  rw [Nat.add_sub_cancel] at h3 h4 y n
  rw [i_s1, i_cl (by omega), h3, i_eq (by omega) (by omega)]
  exact ⟨i_in (by omega) (by decide), fun e4 => y (by omega), fun e4 => n (by omega)⟩
theorem w55 {M : MS} {s : Nat → Nat} {C P K i : Nat} (hv : s i < 256) (hv1 : 0 < i → s (i - 1) < 256) (hi : i < 100) (hM : 0 < i → M 1 (i - 1) = nI (s (i - 1))) (hKi : 0 < K → 0 < i) (hC : C ≤ 6) (hP : P ≤ 9) (hK : K ≤ 5) (d : Bool) {Q : Int32 → Prop} {E : Int32 → Int32 → Int32 → Int32 → Prop} {m : Bool} (hm : m = true ↔ ((s i = 43 ∨ s i = 45) ∧ 0 < P ∧ K < 5 ∧ (K = 0 ∨ s (i - 1) = s i))) (h : wj_X4_wrong_103 M (nI C) (nI P) (nI K) (nI i) (nI (s i)) (if d = true then 1 else 0) (if m = true then 1 else 0) Q (fun a b c d => E a b c d)) : wj_X4_wrong_55 M (nI C) (nI P) (nI K) (nI i) (nI (s i)) (if d = true then 1 else 0) Q E := by
  have y : m = true → wj_X4_wrong_103 M (nI C) (nI P) (nI K) (nI i) (nI (s i)) (if d = true then 1 else 0) 1 Q (fun a b c d => E a b c d) := fun e => by rwa [if_pos e] at h
  have n : ¬ m = true → wj_X4_wrong_103 M (nI C) (nI P) (nI K) (nI i) (nI (s i)) (if d = true then 1 else 0) 0 Q (fun a b c d => E a b c d) := fun e => by rwa [if_neg e] at h
  rw [hm] at y n
  unfold wj_X4_wrong_55
  rw [show (43 : Int32) = nI 43 from rfl, show (45 : Int32) = nI 45 from rfl, show (5 : Int32) = nI 5 from rfl, i_eq (b := 43) (by omega) (by omega), i_eq (b := 45) (by omega) (by omega), i0l (by omega), i_le (by omega) (by omega), i0 (by omega)]
  have key := key55 (M := M) (s := s) hv hv1 hi hM hKi y n
  exact ⟨fun e => key (Or.inl e), fun e => ⟨fun e2 => key (Or.inr e2), fun e2 => n (by omega)⟩⟩
theorem wr_loop {M : MS} {s : Nat → Nat} {N : Nat} (hN : N ≤ 100) (h1 : M 0 1 = nI N) (h2 : ∀ j, j < N → M 1 j = nI (s j)) (hs : ∀ j, j < N → s j < 256) {Q : Int32 → Prop} : ∀ (m i n C P K : Nat), i + m = N → m < n → C ≤ 6 → P ≤ 9 → K ≤ 5 → (0 < K → 0 < i) → Q (wr s N m i C P K) → wl_X4_wrong_9 M Q n (nI C) (nI P) (nI K) (nI i) := by
  intro m
  induction m with
  | zero =>
    intro i n C P K hi hn hC hP hK hKi h
    obtain ⟨n, rfl, -⟩ := fuel1 hn
    have h : Q (if P = 0 then nI N else -1) := h
    refine ⟨fun _ => ?_, fun h0 => absurd ?_ h0⟩
    · rw [i0 (by omega), h1]
      by_cases e : P = 0
      · rw [if_pos e] at h
        exact tp e h
      · rw [if_neg e] at h
        exact tn e h
    · rw [h1, i_le (by omega) (by omega)]
      omega
  | succ m ih =>
    intro i n C P K hi hn hC hP hK hKi h
    obtain ⟨n, rfl, hn⟩ := fuel1 hn
    have hsi := hs i (by omega)
    unfold wr at h
    refine ⟨fun h0 => ?_, fun _ => ⟨i_in (by omega) (by decide), ?_⟩⟩
    · rw [h1, i_le (by omega) (by omega)] at h0
      omega
    rw [i_cl (by omega), h2 i (by omega), show (9 : Int32) = nI 9 from rfl, i_le (by omega) (by omega)]
    obtain ⟨d, hd⟩ : ∃ d : Bool, d = true ↔ (isD (s i) = true ∧ P < 9) := ⟨decide (isD (s i) = true ∧ P < 9), by simp⟩
    obtain ⟨mm, hm⟩ : ∃ m : Bool, m = true ↔ ((s i = 43 ∨ s i = 45) ∧ 0 < P ∧ K < 5 ∧ (K = 0 ∨ s (i - 1) = s i)) := ⟨decide ((s i = 43 ∨ s i = 45) ∧ 0 < P ∧ K < 5 ∧ (K = 0 ∨ s (i - 1) = s i)), by simp⟩
    obtain ⟨b, hb⟩ : ∃ b : Bool, b = true ↔ ((s i = 47 ∨ s i = 62) ∧ 0 < P ∧ C < 6) := ⟨decide ((s i = 47 ∨ s i = 62) ∧ 0 < P ∧ C < 6), by simp⟩
    have hdv : isD (s i) = true ↔ (48 ≤ s i ∧ s i ≤ 50) := by unfold isD; simp
    have hmv : isM (s i) = true ↔ (s i = 43 ∨ s i = 45) := by unfold isM; simp
    have hbv : isB (s i) = true ↔ (s i = 47 ∨ s i = 62) := by unfold isB; simp
    have fin : wj_X4_wrong_55 M (nI C) (nI P) (nI K) (nI i) (nI (s i)) (if d = true then 1 else 0) Q (fun a b c d => wl_X4_wrong_9 M Q n a b c d) := by
      refine w55 hsi (fun h => hs _ (by omega)) (by omega) (fun h => h2 _ (by omega)) hKi hC hP hK d hm (w103 hsi hC hP hK d mm hb (w134 hC hP hK d mm b (fun e1 e2 e3 => ?_) (fun e => ?_)))
      · have n1 : ¬ (isD (s i) = true ∧ P < 9) := fun h => by rw [hd.mpr h] at e1; exact absurd e1 (by decide)
        have n2 : ¬ ((s i = 43 ∨ s i = 45) ∧ 0 < P ∧ K < 5 ∧ (K = 0 ∨ s (i - 1) = s i)) := fun h => by rw [hm.mpr h] at e2; exact absurd e2 (by decide)
        have n3 : ¬ ((s i = 47 ∨ s i = 62) ∧ 0 < P ∧ C < 6) := fun h => by rw [hb.mpr h] at e3; exact absurd e3 (by decide)
        by_cases c1 : isD (s i) = true
        · rw [if_pos c1, if_pos (by have : ¬ P < 9 := fun h => n1 ⟨c1, h⟩; omega)] at h
          exact h
        · rw [if_neg c1] at h
          by_cases c2 : isM (s i) = true
          · rw [if_pos c2, if_pos (by rw [hmv] at c2; omega)] at h
            exact h
          · rw [if_neg c2] at h
            by_cases c3 : isB (s i) = true
            · rw [if_pos c3, if_pos (by rw [hbv] at c3; omega)] at h
              exact h
            · rw [if_neg c3] at h
              exact h
      · by_cases c1 : d = true
        · have c1' := hd.mp c1
          have a1 := hdv.mp c1'.1
          have nm : ¬ mm = true := fun h => by have := (hm.mp h).1; omega
          have nb : ¬ b = true := fun h => by have := (hb.mp h).1; omega
          rw [if_neg nb, if_neg nb, if_pos c1, if_neg nm]
          rw [if_pos c1'.1, if_neg (by omega)] at h
          exact ih (i + 1) n C (P + 1) 0 (by omega) (by omega) hC (by omega) (by omega) (fun h => absurd h (by omega)) h
        · by_cases c2 : mm = true
          · have c2' := hm.mp c2
            have nb : ¬ b = true := fun h => by have := (hb.mp h).1; omega
            rw [if_neg nb, if_neg nb, if_neg c1, if_pos c2]
            rw [if_neg (by rw [hdv]; omega), if_pos (hmv.mpr c2'.1), if_neg (by omega)] at h
            exact ih (i + 1) n C P (K + 1) (by omega) (by omega) hC hP (by omega) (fun _ => by omega) h
          · have c3 : b = true := by
              rcases e with e | e | e
              · exact absurd e c1
              · exact absurd e c2
              · exact e
            have c3' := hb.mp c3
            rw [if_pos c3, if_pos c3, if_neg c2]
            rw [if_neg (by rw [hdv]; omega), if_neg (by rw [hmv]; omega), if_pos (hbv.mpr c3'.1), if_neg (by omega)] at h
            exact ih (i + 1) n (C + 1) 0 0 (by omega) (by omega) (by omega) (by omega) (by omega) (fun h => absurd h (by omega)) h
    refine ok_inD hsi (fun c1 => t1 ⟨fun e => ?_, fun e => ?_⟩) (fun c1 => t0 ?_)
    · rw [if_neg (fun h => by have := (hd.mp h).2; omega)] at fin
      exact fin
    · rw [if_pos (hd.mpr ⟨c1, by omega⟩)] at fin
      exact fin
    · rw [if_neg (fun h => c1 (hd.mp h).1)] at fin
      exact fin
theorem ok_wrong {M : MS} {s : Nat → Nat} {N : Nat} (hN : N ≤ 100) (h1 : M 0 1 = nI N) (h2 : ∀ j, j < N → M 1 j = nI (s j)) (hs : ∀ j, j < N → s j < 256) {Q : Int32 → Prop} (h : Q (wr s N N 0 1 0 0)) : wp_X4_wrong M Q :=
  ⟨N + 1, wr_loop hN h1 h2 hs N 0 (N + 1) 1 0 0 (by omega) (by omega) (by omega) (by omega) (by omega) (fun h => absurd h (by omega)) h⟩
theorem sim_errorPosition {k : Nat} {M : MS} {S : XO} {tx : TS} {hs : HS} {Ls : Nat → LnS} (h : Rl k M S tx hs Ls) {f : Nat → Int64} {C : CT} {P : Int32 → Prop} (hC : NX k C) (hP : ∀ r, wp_X4_errorPosition M (fun r16 => ((r = r16 → C M f S tx hs Ls) ∧ (¬ r = r16 → False))) → P r) : wp_X3_errorPosition S tx hs Ls P := by
  obtain ⟨⟨⟨m, s⟩, rest⟩, hc, hr, hi⟩ := h
  refine ok_firstWrong (s := s) hi.1.1 hc.1.1 hc.1.2 hi.1.2 (hP _ ?_)
  exact ok_wrong (s := s) hi.1.1 hr.1.1 hr.1.2 hi.1.2 (tp rfl (hC.go hc hr hi))

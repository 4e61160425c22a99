/-! A text that is a line: sign after sign, as the reference reads it. -/
def A0 : AL := ((1, 1, 0, 0), fun _ => 0, fun _ => false, fun _ => 0, fun _ _ => 0, fun _ _ => 0, fun _ => (0, 0, 0, 0))
def sC (A : AL) (n : Nat) : AL := ((n, A.1.2), A.2)
def ldD (A : AL) (v : Nat) : AL := (A.1, va_up (aP A) (aC A - 1) (aP A (aC A - 1) + 1), aK A, aS A, (fun x y => if x = aC A - 1 then (if y = 0 then v else aD A x (y - 1)) else aD A x y), (fun x y => if x = aC A - 1 then (if y = 0 then 0 else aW A x (y - 1)) else aW A x y), aX A)
def ldB (A : AL) (b : Bool) : AL := sC (sK A (aC A - 1) b) (aC A + 1)
def ldM (A : AL) (w : Int32) : AL := sW A (aC A - 1) 0 (aW A (aC A - 1) 0 + w)
def ld (A : AL) (v : Nat) : AL := if isD v = true then ldD A (v - 48) else if isM v = true then ldM A (if v = 43 then 1 else -1) else ldB A (decide (v = 62))
def FL (s : Nat → Nat) : Nat → AL
  | 0 => A0
  | i + 1 => ld (FL s i) (s i)
def kk (s : Nat → Nat) : Nat → Nat
  | 0 => 0
  | i + 1 => if isM (s i) = true then kk s i + 1 else 0
def lP (A : AL) : Nat := aP A (aC A - 1)
def LdI (A : AL) (K : Nat) : Prop :=
  (aG A = 1 ∧ aB A = 0 ∧ aT A = 0 ∧ 1 ≤ aC A ∧ aC A ≤ 6) ∧ (∀ x, aP A x ≤ 9) ∧ (∀ x, x + 1 < aC A → 1 ≤ aP A x) ∧ (∀ x, aC A ≤ x → aP A x = 0) ∧ (∀ x, aK A x = true → x + 1 < aC A) ∧ (∀ x y, aD A x y ≤ 2) ∧ (∀ x y, aP A x ≤ y → aD A x y = 0 ∧ aW A x y = 0) ∧ (∀ x y, (aW A x y).toInt.natAbs ≤ 5) ∧ ((aW A (aC A - 1) 0).toInt.natAbs ≤ K) ∧ (∀ x, aS A x = 0)
def Vd (s : Nat → Nat) : Nat → Nat → Nat → Nat → Nat → Prop
  | 0, _, _, P, _ => 0 < P
  | m + 1, i, C, P, K => (isD (s i) = true ∧ P < 9 ∧ Vd s m (i + 1) C (P + 1) 0) ∨ (¬ isD (s i) = true ∧ isM (s i) = true ∧ 0 < P ∧ K < 5 ∧ Vd s m (i + 1) C P (K + 1)) ∨ (¬ isD (s i) = true ∧ ¬ isM (s i) = true ∧ isB (s i) = true ∧ 0 < P ∧ C < 6 ∧ Vd s m (i + 1) (C + 1) 0 0)
theorem nI_m1 {i : Nat} (h : i < 100000) : ¬ nI i = -1 := fun e => i_neg i h (by rw [e]; decide)
theorem wr_vd {s : Nat → Nat} {N : Nat} (hN : N ≤ 100) : ∀ (m i C P K : Nat), i + m = N → P ≤ 9 → K ≤ 5 → C ≤ 6 → wr s N m i C P K = -1 → Vd s m i C P K := by
  intro m
  induction m with
  | zero =>
    intro i C P K hi hP hK hC h
    have h : (if P = 0 then nI N else -1) = -1 := h
    show 0 < P
    by_cases e : P = 0
    · rw [if_pos e] at h
      exact absurd h (nI_m1 (by omega))
    · omega
  | succ m ih =>
    intro i C P K hi hP hK hC h
    unfold wr at h
    have hn := nI_m1 (i := i) (by omega)
    by_cases c1 : isD (s i) = true
    · rw [if_pos c1] at h
      by_cases e : P = 9
      · rw [if_pos e] at h
        exact absurd h hn
      · rw [if_neg e] at h
        exact Or.inl ⟨c1, by omega, ih (i + 1) C (P + 1) 0 (by omega) (by omega) (by omega) hC h⟩
    · rw [if_neg c1] at h
      by_cases c2 : isM (s i) = true
      · rw [if_pos c2] at h
        by_cases e : P = 0 ∨ K = 5 ∨ (0 < K ∧ ¬ s (i - 1) = s i)
        · rw [if_pos e] at h
          exact absurd h hn
        · rw [if_neg e] at h
          exact Or.inr (Or.inl ⟨c1, c2, by omega, by omega, ih (i + 1) C P (K + 1) (by omega) hP (by omega) hC h⟩)
      · rw [if_neg c2] at h
        by_cases c3 : isB (s i) = true
        · rw [if_pos c3] at h
          by_cases e : P = 0 ∨ C = 6
          · rw [if_pos e] at h
            exact absurd h hn
          · rw [if_neg e] at h
            exact Or.inr (Or.inr ⟨c1, c2, c3, by omega, by omega, ih (i + 1) (C + 1) 0 0 (by omega) (by omega) (by omega) (by omega) h⟩)
        · rw [if_neg c3] at h
          exact absurd h hn
theorem ldD_lP {A : AL} (v : Nat) : lP (ldD A v) = lP A + 1 := if_pos rfl
theorem LdI_D {A : AL} {K v : Nat} (h : LdI A K) (hP : lP A < 9) (hv : v ≤ 2) : LdI (ldD A v) 0 := by
  obtain ⟨⟨h1, h2, h3, h4, h5⟩, h6, h7, h8, h9, h10, h11, h12, h13, h14⟩ := h
  unfold lP at hP
  refine ⟨⟨h1, h2, h3, h4, h5⟩, fun x => ?_, fun x hx => ?_, fun x hx => ?_, h9, fun x y => ?_, fun x y hy => ?_, fun x y => ?_, ?_, h14⟩
  · show (if x = aC A - 1 then aP A (aC A - 1) + 1 else aP A x) ≤ 9
    have := h6 x
    split <;> omega
  · have hx2 : x + 1 < aC A := hx
    show 1 ≤ (if x = aC A - 1 then aP A (aC A - 1) + 1 else aP A x)
    have := h7 x hx2
    split <;> omega
  · have hx2 : aC A ≤ x := hx
    show (if x = aC A - 1 then aP A (aC A - 1) + 1 else aP A x) = 0
    rw [if_neg (by omega)]
    exact h8 x hx2
  · show (if x = aC A - 1 then (if y = 0 then v else aD A x (y - 1)) else aD A x y) ≤ 2
    have := h10 x (y - 1)
    have := h10 x y
    split
    · split <;> omega
    · omega
  · have hy2 : (if x = aC A - 1 then aP A (aC A - 1) + 1 else aP A x) ≤ y := hy
    show (if x = aC A - 1 then (if y = 0 then v else aD A x (y - 1)) else aD A x y) = 0 ∧ (if x = aC A - 1 then (if y = 0 then 0 else aW A x (y - 1)) else aW A x y) = 0
    by_cases e : x = aC A - 1
    · rw [if_pos e] at hy2 ⊢
      rw [if_pos e, if_neg (by omega), if_neg (by omega)]
      exact h11 x (y - 1) (by rw [e]; omega)
    · rw [if_neg e] at hy2 ⊢
      rw [if_neg e]
      exact h11 x y hy2
  · show (if x = aC A - 1 then (if y = 0 then 0 else aW A x (y - 1)) else aW A x y).toInt.natAbs ≤ 5
    have e0 : (0 : Int32).toInt.natAbs = 0 := by decide
    by_cases e : x = aC A - 1
    · rw [if_pos e]
      by_cases e2 : y = 0
      · rw [if_pos e2]
        omega
      · rw [if_neg e2]
        exact h12 _ _
    · rw [if_neg e]
      exact h12 _ _
  · show (if aC A - 1 = aC A - 1 then (if 0 = 0 then 0 else aW A (aC A - 1) (0 - 1)) else aW A (aC A - 1) 0).toInt.natAbs ≤ 0
    rw [if_pos rfl, if_pos rfl]
    decide
theorem LdI_M {A : AL} {K : Nat} (h : LdI A K) (hP : 0 < lP A) (hK : K < 5) {w : Int32} (hw : w.toInt.natAbs ≤ 1) : LdI (ldM A w) (K + 1) := by
  obtain ⟨⟨h1, h2, h3, h4, h5⟩, h6, h7, h8, h9, h10, h11, h12, h13, h14⟩ := h
  unfold lP at hP
  have ha := abs_add (aW A (aC A - 1) 0) w
  refine ⟨⟨h1, h2, h3, h4, h5⟩, h6, h7, h8, h9, h10, fun x y hy => ⟨(h11 x y hy).1, ?_⟩, fun x y => ?_, ?_, h14⟩
  · have hy2 : aP A x ≤ y := hy
    show (if x = aC A - 1 ∧ y = 0 then _ else aW A x y) = 0
    rw [if_neg (by rintro ⟨rfl, rfl⟩; omega)]
    exact (h11 x y hy2).2
  · show (if x = aC A - 1 ∧ y = 0 then aW A (aC A - 1) 0 + w else aW A x y).toInt.natAbs ≤ 5
    split
    · omega
    · exact h12 x y
  · have e : aW (ldM A w) (aC A - 1) 0 = aW A (aC A - 1) 0 + w := if_pos ⟨rfl, rfl⟩
    show (aW (ldM A w) (aC A - 1) 0).toInt.natAbs ≤ K + 1
    rw [e]
    omega
theorem LdI_B {A : AL} {K : Nat} (h : LdI A K) (hP : 0 < lP A) (hC : aC A < 6) (b : Bool) : LdI (ldB A b) 0 := by
  obtain ⟨⟨h1, h2, h3, h4, h5⟩, h6, h7, h8, h9, h10, h11, h12, h13, h14⟩ := h
  unfold lP at hP
  refine ⟨⟨h1, h2, h3, by show 1 ≤ aC A + 1; omega, by show aC A + 1 ≤ 6; omega⟩, h6, fun x hx => ?_, fun x hx => ?_, fun x hx => ?_, h10, h11, h12, ?_, h14⟩
  · have hx2 : x + 1 < aC A + 1 := hx
    show 1 ≤ aP A x
    by_cases e : x = aC A - 1
    · rw [e]
      omega
    · exact h7 x (by omega)
  · have hx2 : aC A + 1 ≤ x := hx
    exact h8 x (by omega)
  · have hx2 : (if x = aC A - 1 then b else aK A x) = true := hx
    show x + 1 < aC A + 1
    by_cases e : x = aC A - 1
    · omega
    · rw [if_neg e] at hx2
      have := h9 x hx2
      omega
  · show (aW A (aC A + 1 - 1) 0).toInt.natAbs ≤ 0
    rw [Nat.add_sub_cancel, (h11 (aC A) 0 (by rw [h8 _ (Nat.le_refl _)]; omega)).2]
    decide
theorem ldB_lP {A : AL} {K : Nat} (h : LdI A K) (b : Bool) : lP (ldB A b) = 0 := by
  show aP A (aC A + 1 - 1) = 0
  rw [Nat.add_sub_cancel]
  exact h.2.2.2.1 _ (Nat.le_refl _)
theorem w_pm (v : Nat) : (if v = 43 then (1 : Int32) else -1).toInt.natAbs ≤ 1 := by
  split <;> decide
theorem ld_step {s : Nat → Nat} {A : AL} {K i m : Nat} (h : LdI A K) (hv : Vd s (m + 1) i (aC A) (lP A) K) : LdI (ld A (s i)) (if isM (s i) = true then K + 1 else 0) ∧ Vd s m (i + 1) (aC (ld A (s i))) (lP (ld A (s i))) (if isM (s i) = true then K + 1 else 0) := by
  unfold ld
  rcases hv with ⟨c1, hP, hv⟩ | ⟨c1, c2, hP, hK, hv⟩ | ⟨c1, c2, c3, hP, hC, hv⟩
  · have c1' : 48 ≤ s i ∧ s i ≤ 50 := by unfold isD at c1; simpa using c1
    have c2 : ¬ isM (s i) = true := by
      unfold isM
      simp only [decide_eq_true_eq]
      omega
    rw [if_pos c1, if_neg c2, ldD_lP]
    exact ⟨LdI_D h hP (by omega), hv⟩
  · rw [if_neg c1, if_pos c2, if_pos c2]
    exact ⟨LdI_M h hP hK (w_pm _), hv⟩
  · rw [if_neg c1, if_neg c2, if_neg c2, ldB_lP h]
    exact ⟨LdI_B h hP hC _, hv⟩
theorem LdI_0 : LdI A0 0 := by
  refine ⟨⟨rfl, rfl, rfl, Nat.le_refl _, by decide⟩, fun _ => Nat.zero_le _, fun x hx => ?_, fun _ _ => rfl, fun x hx => Bool.noConfusion (show false = true from hx), fun _ _ => Nat.zero_le _, fun _ _ _ => ⟨rfl, rfl⟩, fun _ _ => (show (0 : Int32).toInt.natAbs ≤ 5 by decide), (show (0 : Int32).toInt.natAbs ≤ 0 by decide), fun _ => rfl⟩
  have : x + 1 < 1 := hx
  omega
theorem ld_all {s : Nat → Nat} {N : Nat} (hv : Vd s N 0 1 0 0) : ∀ i, i ≤ N → LdI (FL s i) (kk s i) ∧ Vd s (N - i) i (aC (FL s i)) (lP (FL s i)) (kk s i)
  | 0, _ => ⟨LdI_0, hv⟩
  | i + 1, hi => by
    have h := ld_all hv i (by omega)
    have h2 : N - i = (N - (i + 1)) + 1 := by omega
    rw [h2] at h
    exact ld_step h.1 h.2
theorem Gd_ld {A : AL} {K k : Nat} (h : LdI A K) (hP : 0 < lP A) : Gd k A := by
  obtain ⟨⟨h1, h2, h3, h4, h5⟩, h6, h7, h8, h9, h10, h11, h12, h13, h14⟩ := h
  unfold lP at hP
  have hO : Ok A := by
    refine ⟨⟨h4, h5⟩, by omega, by omega, h6, fun c => ⟨fun hc => ?_, h8 c⟩, h9, h10, h11, fun t ht => absurd ht (by omega)⟩
    by_cases e : c = aC A - 1
    · rw [e]
      omega
    · exact h7 c (by omega)
  refine ⟨hO, by omega, ?_, fun t ht => absurd ht (by omega)⟩
  rw [← T9_eq hO]
  have h15 : T9 A ≤ 6 * 45 := sm_le (b := 45) (fun x => sm_le (b := 5) (fun y => h12 x y) 9) 6
  omega
/-! The reference reads a text. -/
theorem bg_loop {Q : (Nat → Int32) → Prop} (h : ∀ r, (∀ j, j < 336 → r j = if j = 1 then 1 else 0) → Q r) : ∀ (m k n : Nat) (r : Nat → Int32), k + m = 336 → m < n → (∀ j, j < k → r j = 0) → wl_X4_begin_2 Q n r (nI k) := by
  intro m
  induction m with
  | zero =>
    intro k n r hk hn hr
    obtain ⟨n, rfl, -⟩ := fuel1 hn
    rw [show k = 336 by omega] at hr ⊢
    refine ⟨fun _ => h _ (fun j hj => ?_), fun h0 => absurd (show (336 : Int32) ≤ nI 336 by decide) h0⟩
    rw [z1]
    by_cases e : j = 1
    · rw [e, if_pos rfl]
      exact pk_us
    · rw [if_neg e, pk_un e]
      exact hr j hj
  | succ m ih =>
    intro k n r hk hn hr
    obtain ⟨n, rfl, hn⟩ := fuel1 hn
    refine ⟨fun h0 => ?_, fun _ => ⟨i_in (by omega) (by decide), ?_⟩⟩
    · rw [show (336 : Int32) = nI 336 from rfl, i_le (by omega) (by omega)] at h0
      omega
    · rw [i_cl (by omega), i_p1]
      refine ih (k + 1) n _ (by omega) (by omega) (fun j hj => ?_)
      by_cases e : j = k
      · rw [e]
        exact pk_us
      · rw [pk_un e]
        exact hr j (by omega)
theorem ok_begin {r : Nat → Int32} {Q : (Nat → Int32) → Prop} (h : ∀ r, (∀ j, j < 336 → r j = if j = 1 then 1 else 0) → Q r) : wp_X4_begin r Q :=
  ⟨337, bg_loop h 336 0 337 r (by omega) (by omega) (fun j hj => absurd hj (by omega))⟩
theorem rr_A0 {r : Nat → Int32} (h : ∀ j, j < 336 → r j = if j = 1 then 1 else 0) : RepR (upd r 0 (nI 1)) A0 := by
  have hz : ∀ j, j < 336 → 1 < j → upd r 0 (nI 1) j = 0 := fun j hj h1 => by
    rw [pk_un (by omega), h j hj, if_neg (by omega)]
  refine ⟨⟨pk_us, ?_, hz 2 (by omega) (by omega), hz 3 (by omega) (by omega)⟩, fun c hc => hz _ (by omega) (by omega), fun c hc => hz _ (by omega) (by omega), fun c hc => hz _ (by omega) (by omega), fun c p hc hp => hz _ (by omega) (by omega), fun c p hc hp => hz _ (by omega) (by omega), fun t ht => absurd ht (Nat.not_lt_zero t), fun c hc => hz _ (by omega) (by omega)⟩
  rw [pk_un (by decide), h 1 (by omega), if_pos rfl]
  rfl
theorem rr_C {r : Nat → Int32} {A : AL} (hR : RepR r A) (n : Nat) : RepR (upd r 0 (nI n)) (sC A n) :=
  ⟨⟨pk_us, (pk_un (by omega)).trans hR.1.2.1, (pk_un (by omega)).trans hR.1.2.2.1, (pk_un (by omega)).trans hR.1.2.2.2⟩, fun c' hc' => (pk_un (by omega)).trans (hR.2.1 c' hc'), fun c' hc' => (pk_un (by omega)).trans (hR.2.2.1 c' hc'), fun c' hc' => (pk_un (by omega)).trans (hR.2.2.2.1 c' hc'), fun c' p' hc' hp' => (pk_un (by omega)).trans (hR.2.2.2.2.1 c' p' hc' hp'), fun c' p' hc' hp' => (pk_un (by omega)).trans (hR.2.2.2.2.2.1 c' p' hc' hp'), fun k hk => ⟨(pk_un (by omega)).trans (hR.2.2.2.2.2.2.1 k hk).1, (pk_un (by omega)).trans (hR.2.2.2.2.2.2.1 k hk).2.1, (pk_un (by omega)).trans (hR.2.2.2.2.2.2.1 k hk).2.2.1, (pk_un (by omega)).trans (hR.2.2.2.2.2.2.1 k hk).2.2.2⟩, fun c' hc' => (pk_un (by omega)).trans (hR.2.2.2.2.2.2.2 c' hc')⟩
/-- the places above k of c are shifted -/
def shk (A : AL) (c k : Nat) : AL := (A.1, aP A, aK A, aS A, (fun x y => if x = c ∧ k < y then aD A x (y - 1) else aD A x y), (fun x y => if x = c ∧ k < y then aW A x (y - 1) else aW A x y), aX A)
theorem shk_0 {A : AL} {c : Nat} (h : ∀ y, aP A c ≤ y → aD A c y = 0 ∧ aW A c y = 0) : shk A c (aP A c) = A := by
  refine al_ext rfl rfl rfl rfl (funext fun x => funext fun y => ?_) (funext fun x => funext fun y => ?_) rfl
  · show (if x = c ∧ aP A c < y then aD A x (y - 1) else aD A x y) = aD A x y
    by_cases e : x = c ∧ aP A c < y
    · rw [if_pos e, e.1, (h y (by omega)).1, (h (y - 1) (by omega)).1]
    · rw [if_neg e]
  · show (if x = c ∧ aP A c < y then aW A x (y - 1) else aW A x y) = aW A x y
    by_cases e : x = c ∧ aP A c < y
    · rw [if_pos e, e.1, (h y (by omega)).2, (h (y - 1) (by omega)).2]
    · rw [if_neg e]
theorem shk_s (A : AL) (c k : Nat) : sW (sD (shk A c (k + 1)) c (k + 1) (aD A c k)) c (k + 1) (aW A c k) = shk A c k := by
  refine al_ext rfl rfl rfl rfl (funext fun x => funext fun y => ?_) (funext fun x => funext fun y => ?_) rfl
  · show (if x = c ∧ y = k + 1 then aD A c k else if x = c ∧ k + 1 < y then aD A x (y - 1) else aD A x y) = (if x = c ∧ k < y then aD A x (y - 1) else aD A x y)
    by_cases e : x = c ∧ y = k + 1
    · rw [if_pos e, if_pos (by omega), e.1, e.2, Nat.add_sub_cancel]
    · rw [if_neg e]
      by_cases e2 : x = c ∧ k + 1 < y
      · rw [if_pos e2, if_pos (by omega)]
      · rw [if_neg e2, if_neg (by omega)]
  · show (if x = c ∧ y = k + 1 then aW A c k else if x = c ∧ k + 1 < y then aW A x (y - 1) else aW A x y) = (if x = c ∧ k < y then aW A x (y - 1) else aW A x y)
    by_cases e : x = c ∧ y = k + 1
    · rw [if_pos e, if_pos (by omega), e.1, e.2, Nat.add_sub_cancel]
    · rw [if_neg e]
      by_cases e2 : x = c ∧ k + 1 < y
      · rw [if_pos e2, if_pos (by omega)]
      · rw [if_neg e2, if_neg (by omega)]
theorem shk_e (A : AL) (v : Nat) : sP (sW (sD (shk A (aC A - 1) 0) (aC A - 1) 0 v) (aC A - 1) 0 0) (aC A - 1) (aP A (aC A - 1) + 1) = ldD A v := by
  refine al_ext rfl rfl rfl rfl (funext fun x => funext fun y => ?_) (funext fun x => funext fun y => ?_) rfl
  · show (if x = aC A - 1 ∧ y = 0 then v else if x = aC A - 1 ∧ 0 < y then aD A x (y - 1) else aD A x y) = (if x = aC A - 1 then (if y = 0 then v else aD A x (y - 1)) else aD A x y)
    by_cases e : x = aC A - 1
    · rw [if_pos e]
      by_cases e2 : y = 0
      · rw [if_pos ⟨e, e2⟩, if_pos e2]
      · rw [if_neg (fun h => e2 h.2), if_pos ⟨e, by omega⟩, if_neg e2]
    · rw [if_neg e, if_neg (fun h => e h.1), if_neg (fun h => e h.1)]
  · show (if x = aC A - 1 ∧ y = 0 then 0 else if x = aC A - 1 ∧ 0 < y then aW A x (y - 1) else aW A x y) = (if x = aC A - 1 then (if y = 0 then 0 else aW A x (y - 1)) else aW A x y)
    by_cases e : x = aC A - 1
    · rw [if_pos e]
      by_cases e2 : y = 0
      · rw [if_pos ⟨e, e2⟩, if_pos e2]
      · rw [if_neg (fun h => e2 h.2), if_pos ⟨e, by omega⟩, if_neg e2]
    · rw [if_neg e, if_neg (fun h => e h.1), if_neg (fun h => e h.1)]
theorem sh_loop {A : AL} {c v : Nat} (hcA : c = aC A - 1) (hc : c < 6) (h9 : aP A c < 9) {Q : (Nat → Int32) → Prop} (h : ∀ r, RepR r (ldD A v) → Q r) : ∀ (k n : Nat) (r : Nat → Int32), k ≤ aP A c → k < n → RepR r (shk A c k) → wl_X4_shift_9 (nI c) (nI v) Q n r (nI k) := by
  intro k
  induction k with
  | zero =>
    intro n r hk hn hR
    obtain ⟨n, rfl, -⟩ := fuel1 hn
    refine ⟨fun _ => ok_at ?_, fun h0 => absurd (show nI 0 ≤ 0 by decide) h0⟩
    have e4 : nI (4 + 22 * c) + (4 : Int32) = nI (8 + 22 * c + 0) := by
      have := ix_d c 0
      rw [show nI 0 = 0 from rfl, Int32.add_zero] at this
      exact this
    rw [e4]
    refine ⟨i_in (by omega) (by decide), ok_at ?_⟩
    rw [ix_w0]
    refine ⟨i_in (by omega) (by decide), ok_at ?_⟩
    rw [ix_z, i_cl (n := 8 + 22 * c + 0) (by omega), i_cl (n := 17 + 22 * c + 0) (by omega), i_cl (n := 4 + 22 * c) (by omega)]
    have R1 := rr_D hR (c := c) (p := 0) hc (by omega) v rfl
    have R2 := rr_W R1 (c := c) (p := 0) hc (by omega) 0 rfl
    have eP := R2.2.1 c hc
    rw [eP, i_p1]
    have R3 := rr_P R2 hc (aP A c + 1) rfl
    refine ⟨i_in (by omega) (by decide), i_in (by omega) (by decide), h _ ?_⟩
    subst hcA
    rw [shk_e] at R3
    exact R3
  | succ k ih =>
    intro n r hk hn hR
    obtain ⟨n, rfl, hn⟩ := fuel1 hn
    refine ⟨fun h0 => ?_, fun _ => ok_at (ok_at ?_)⟩
    · have := (i0l (n := k + 1) (by omega)).mp h0
      omega
    · have ed : nI (4 + 22 * c) + (4 : Int32) + nI (k + 1) - 1 = nI (8 + 22 * c + k) := by
        rw [ix_d, show 8 + 22 * c + (k + 1) = (8 + 22 * c + k) + 1 by omega, i_s1]
      have ew : nI (4 + 22 * c) + (13 : Int32) + nI (k + 1) - 1 = nI (17 + 22 * c + k) := by
        rw [ix_w, show 17 + 22 * c + (k + 1) = (17 + 22 * c + k) + 1 by omega, i_s1]
      rw [ed, ix_d]
      refine ⟨i_in (by omega) (by decide), i_in (by omega) (by decide), ok_at (ok_at ?_)⟩
      rw [ew, ix_w, i_cl (n := 8 + 22 * c + k) (by omega), i_cl (n := 8 + 22 * c + (k + 1)) (by omega), i_cl (n := 17 + 22 * c + k) (by omega), i_cl (n := 17 + 22 * c + (k + 1)) (by omega), i_m1, i_s1]
      have d0 : r (8 + 22 * c + k) = nI (aD A c k) := by
        rw [hR.2.2.2.2.1 c k hc (by omega)]
        show nI (if c = c ∧ k + 1 < k then aD A c (k - 1) else aD A c k) = _
        rw [if_neg (by omega)]
      rw [d0]
      have R1 := rr_D hR (c := c) (p := k + 1) hc (by omega) (aD A c k) rfl
      have w0 : upd r (8 + 22 * c + (k + 1)) (nI (aD A c k)) (17 + 22 * c + k) = aW A c k := by
        rw [R1.2.2.2.2.2.1 c k hc (by omega)]
        show (if c = c ∧ k + 1 < k then aW A c (k - 1) else aW A c k) = _
        rw [if_neg (by omega)]
      rw [w0]
      have R2 := rr_W R1 (c := c) (p := k + 1) hc (by omega) (aW A c k) rfl
      rw [shk_s] at R2
      exact ⟨i_in (by omega) (by decide), i_in (by omega) (by decide), ih n _ (by omega) (by omega) R2⟩
theorem ok_shift {r : Nat → Int32} {A : AL} {K c v : Nat} (hR : RepR r A) (hI : LdI A K) (hcA : c = aC A - 1) (h9 : lP A < 9) {Q : (Nat → Int32) → Prop} (h : ∀ r, RepR r (ldD A v) → Q r) : wp_X4_shift r (nI c) (nI v) Q := by
  have h1 := hI.1
  unfold lP at h9
  rw [← hcA] at h9
  refine ok_at ?_
  rw [ix_z, i_cl (by omega), hR.2.1 c (by omega)]
  refine ⟨i_in (by omega) (by decide), 10, sh_loop hcA (by omega) h9 h (aP A c) 10 r (Nat.le_refl _) (by omega) ?_⟩
  rw [shk_0 (fun y hy => hI.2.2.2.2.2.2.1 c y hy)]
  exact hR
theorem lo2_loop {s : Nat → Nat} {N : Nat} (hN : N ≤ 100) (hs : ∀ j, j < N → s j < 256) (hv : Vd s N 0 1 0 0) {M0 : MS} (h1 : M0 0 1 = nI N) (h2 : ∀ j, j < N → M0 1 j = nI (s j)) {Q : Int32 → MS → Prop} (h : ∀ M, RepR (M 2) (FL s N) → (∀ j, j ≠ 2 → M j = M0 j) → Q (nI (aC (FL s N))) (zr2 (zr2 (zs2 M 0 2 0) 6 (upd (M 6) 0 0)) 6 (upd (upd (M 6) 0 0) 1 0))) : ∀ (m i n : Nat) (M : MS), i + m = N → m < n → RepR (M 2) (FL s i) → (∀ j, j ≠ 2 → M j = M0 j) → wl_X4_load_38 Q n M (nI i) := by
  intro m
  induction m with
  | zero =>
    intro i n M hi hn hR hF
    obtain ⟨n, rfl, -⟩ := fuel1 hn
    rw [show i = N by omega] at hR ⊢
    refine ⟨fun _ => ?_, fun h0 => absurd ?_ h0⟩
    · intro M8 h8 M9 h9
      subst h8
      subst h9
      rw [z0, z1, nar0]
      have := h M hR hF
      rw [← hR.1.1] at this
      exact this
    · rw [hF 0 (by decide), h1]
      exact (i_le (by omega) (by omega)).mpr (Nat.le_refl _)
  | succ m ih =>
    intro i n M hi hn hR hF
    obtain ⟨n, rfl, hn⟩ := fuel1 hn
    obtain ⟨hI, hV⟩ := ld_all hv i (by omega)
    have hI1 := hI.1
    have hsi := hs i (by omega)
    obtain ⟨c, hcA⟩ : ∃ c, aC (FL s i) = c + 1 := ⟨aC (FL s i) - 1, by omega⟩
    have hc6 : c < 6 := by omega
    have hcs : aC (FL s i) - 1 = c := by omega
    rw [show N - i = (N - (i + 1)) + 1 by omega] at hV
    have eF : FL s (i + 1) = ld (FL s i) (s i) := rfl
    have v100 : vp_in (nI i) 100 := i_in (by omega) (by decide)
    refine ⟨fun h0 => ?_, fun _ => ?_⟩
    · rw [hF 0 (by decide), h1, i_le (by omega) (by omega)] at h0
      omega
    intro y hy
    rw [z0, hR.1.1, hcA, i_s1] at hy
    subst hy
    refine ⟨v100, ?_⟩
    rw [i_cl (by omega), hF 1 (by decide), h2 i (by omega), i_p1 i]
    have hdv : isD (s i) = true ↔ (48 ≤ s i ∧ s i ≤ 50) := by unfold isD; simp
    have hmv : isM (s i) = true ↔ (s i = 43 ∨ s i = 45) := by unfold isM; simp
    have hbv : isB (s i) = true ↔ (s i = 47 ∨ s i = 62) := by unfold isB; simp
    refine ok_inD hsi (fun c1 => t1 ⟨v100, ?_⟩) (fun c1 => t0 ⟨v100, ?_⟩)
    · have c1' := hdv.mp c1
      have e48 : nI (s i) - (48 : Int32) = nI (s i - 48) := by
        apply Int32.toInt_inj.mp
        have e2 : (48 : Int32).toInt = 48 := by decide
        have : (2 : Int) ^ 32 = 4294967296 := by decide
        rw [Int32.toInt_sub, i_toInt (by omega), i_toInt (by omega), e2, Int.bmod_def]
        split <;> omega
      rw [e48]
      have hP : lP (FL s i) < 9 := by
        rcases hV with hV | hV | hV
        · exact hV.2.1
        · exact absurd c1 hV.1
        · exact absurd c1 hV.1
      refine ok_shift hR hI hcs.symm hP (fun r hr => ih (i + 1) n _ (by omega) (by omega) ?_ (fun j hj => ?_))
      · rw [eF]
        unfold ld
        rw [if_pos c1]
        exact hr
      · show (if j = 2 then _ else M j) = M0 j
        rw [if_neg hj]
        exact hF j hj
    · have rest : ∀ w : Int32, isM (s i) = true → w = (if s i = 43 then 1 else -1) → RepR (upd (M 2) (17 + 22 * c + 0) (M 2 (17 + 22 * c + 0) + w)) (FL s (i + 1)) := by
        intro w c2 hw
        rw [hR.2.2.2.2.2.1 c 0 hc6 (by omega), eF]
        unfold ld ldM
        rw [if_neg c1, if_pos c2, hcs, ← hw]
        exact rr_W hR hc6 (by omega) _ rfl
      have fr : ∀ (r : Nat → Int32) j, j ≠ 2 → (zr2 M 2 r) j = M0 j := fun r j hj => by
        show (if j = 2 then _ else M j) = M0 j
        rw [if_neg hj]
        exact hF j hj
      rw [show (43 : Int32) = nI 43 from rfl, show (45 : Int32) = nI 45 from rfl, show (62 : Int32) = nI 62 from rfl, i_eq (b := 43) (by omega) (by omega), i_eq (b := 45) (by omega) (by omega), i_eq (b := 62) (by omega) (by omega)]
      refine ⟨fun e => ok_at ?_, fun e => ⟨v100, fun e2 => ok_at ?_, fun e2 => ok_at ?_⟩⟩
      · rw [ix_w0, i_cl (n := 17 + 22 * c + 0) (by omega)]
        refine ⟨i_in (by omega) (by decide), v100, fun _ => ⟨i_in (by omega) (by decide), ?_⟩, fun e3 => absurd e e3⟩
        exact ih (i + 1) n _ (by omega) (by omega) (rest 1 (hmv.mpr (Or.inl e)) (if_pos e).symm) (fr _)
      · rw [ix_w0, i_cl (n := 17 + 22 * c + 0) (by omega)]
        refine ⟨i_in (by omega) (by decide), v100, fun e3 => absurd e3 e, fun _ => ⟨i_in (by omega) (by decide), ?_⟩⟩
        exact ih (i + 1) n _ (by omega) (by omega) (rest (-1) (hmv.mpr (Or.inr e2)) (if_neg e).symm) (fr _)
      · have c2 : ¬ isM (s i) = true := fun h => by
          rw [hmv] at h
          omega
        have nb : ∀ (x : Int32) (b : Bool), x = (if b = true then 1 else 0) → b = decide (s i = 62) → RepR (upd (upd (M 2) (5 + 22 * c) x) 0 (upd (M 2) (5 + 22 * c) x 0 + 1)) (FL s (i + 1)) := by
          intro x b hx hb
          have R1 := rr_K hR hc6 b hx rfl
          have e0 : upd (M 2) (5 + 22 * c) x 0 = nI (aC (FL s i)) := R1.1.1
          rw [e0, i_p1, eF]
          unfold ld ldB
          rw [if_neg c1, if_neg c2, ← hb, hcs]
          exact rr_C R1 _
        rw [ix_k, i_cl (n := 5 + 22 * c) (by omega), z0]
        refine ⟨v100, fun e3 => ⟨i_in (by omega) (by decide), ?_⟩, fun e3 => ⟨i_in (by omega) (by decide), ?_⟩⟩
        · intro M30 h30
          subst h30
          refine ih (i + 1) n _ (by omega) (by omega) (nb 1 true rfl (by simp [e3])) (fun j hj => ?_)
          show (if j = 2 then _ else if j = 2 then _ else M j) = M0 j
          rw [if_neg hj, if_neg hj]
          exact hF j hj
        · intro M28 h28
          subst h28
          refine ih (i + 1) n _ (by omega) (by omega) (nb 0 false rfl (by simp [e3])) (fun j hj => ?_)
          show (if j = 2 then _ else if j = 2 then _ else M j) = M0 j
          rw [if_neg hj, if_neg hj]
          exact hF j hj

/-! The class reads a text, from its end. -/
def Z0 : AL := sC A0 0
theorem rep_C {L : LnS} {A : AL} (hR : RepL L A) (n : Nat) : RepL (lsS L 0 0 (nI n)) (sC A n) :=
  ⟨⟨rfl, hR.1.2.1, hR.1.2.2.1, hR.1.2.2.2⟩, hR.2⟩
theorem rep_cong {L : LnS} {A B : AL} (hR : RepL L B) (h1 : B.1 = A.1) (hT : aT A = 0) (h : ∀ x, x < 6 → aP B x = aP A x ∧ aK B x = aK A x ∧ aS B x = aS A x ∧ ∀ y, y < 9 → aD B x y = aD A x y ∧ aW B x y = aW A x y) : RepL L A := by
  have e1 : aC B = aC A ∧ aG B = aG A ∧ aB B = aB A ∧ aT B = aT A := by
    unfold aC aG aB aT
    rw [h1]
    exact ⟨rfl, rfl, rfl, rfl⟩
  refine ⟨⟨by rw [← e1.1]; exact hR.1.1, by rw [← e1.2.1]; exact hR.1.2.1, by rw [← e1.2.2.1]; exact hR.1.2.2.1, by rw [← e1.2.2.2]; exact hR.1.2.2.2⟩, fun c hc => ?_, fun c hc => ?_, fun c hc => ?_, fun c p hc hp => ?_, fun c p hc hp => ?_, fun t ht => absurd ht (by omega)⟩
  · rw [← (h c hc).1]
    exact hR.2.1 c hc
  · rw [← (h c hc).2.1]
    exact hR.2.2.1 c hc
  · rw [← (h c hc).2.2.1]
    exact hR.2.2.2.1 c hc
  · rw [← ((h c hc).2.2.2 p hp).1]
    exact hR.2.2.2.2.1 c p hc hp
  · rw [← ((h c hc).2.2.2 p hp).2]
    exact hR.2.2.2.2.2.1 c p hc hp
theorem cr2_loop {Q : LnS → Prop} (h : ∀ L, RepL L Z0 → Q L) : ∀ (m k n : Nat) (L : LnS), k + m = 54 → m < n → (L.1 0 0 = 0 ∧ L.1 0 1 = 1 ∧ L.1 0 2 = 0 ∧ L.1 0 3 = 0) → (∀ j, j < 6 → L.1 1 j = 0 ∧ L.1 2 j = 0 ∧ L.1 3 j = 0) → (∀ j, j < k → L.1 4 j = 0 ∧ L.1 5 j = 0) → wl_X1_clear_57 Q n L (nI k) := by
  intro m
  induction m with
  | zero =>
    intro k n L hk hn h0 h1 h2
    obtain ⟨n, rfl, -⟩ := fuel1 hn
    rw [show k = 54 by omega] at h2 ⊢
    refine ⟨fun _ => h L ?_, fun h0 => absurd (show (54 : Int32) ≤ nI 54 by decide) h0⟩
    exact ⟨h0, fun c hc => (h1 c hc).1, fun c hc => (h1 c hc).2.1, fun c hc => (h1 c hc).2.2, fun c p hc hp => (h2 _ (by omega)).1, fun c p hc hp => (h2 _ (by omega)).2, fun t ht => absurd ht (Nat.not_lt_zero t)⟩
  | succ m ih =>
    intro k n L hk hn h0 h1 h2
    obtain ⟨n, rfl, hn⟩ := fuel1 hn
    have v : vp_in (nI k) 54 := i_in (by omega) (by decide)
    refine ⟨fun h0 => ?_, fun _ => ⟨v, ?_⟩⟩
    · rw [show (54 : Int32) = nI 54 from rfl, i_le (by omega) (by omega)] at h0
      omega
    · intro L10 h10
      refine ⟨v, ?_⟩
      subst h10
      rw [i_cl (by omega), i_p1]
      refine ih (k + 1) n _ (by omega) (by omega) h0 h1 (fun j hj => ?_)
      show upd (L.1 4) k 0 j = 0 ∧ upd (L.1 5) k 0 j = 0
      by_cases e : j = k
      · rw [e]
        exact ⟨pk_us, pk_us⟩
      · rw [pk_un e, pk_un e]
        exact h2 j (by omega)
theorem cr1_loop {Q E : LnS → Prop} (h : ∀ L, (L.1 0 0 = 0 ∧ L.1 0 1 = 1 ∧ L.1 0 2 = 0 ∧ L.1 0 3 = 0) → (∀ j, j < 6 → L.1 1 j = 0 ∧ L.1 2 j = 0 ∧ L.1 3 j = 0) → E L) : ∀ (m k n : Nat) (L : LnS), k + m = 6 → m < n → (L.1 0 0 = 0 ∧ L.1 0 1 = 1 ∧ L.1 0 2 = 0 ∧ L.1 0 3 = 0) → (∀ j, j < k → L.1 1 j = 0 ∧ L.1 2 j = 0 ∧ L.1 3 j = 0) → wl_X1_clear_22 Q E n L (nI k) := by
  intro m
  induction m with
  | zero =>
    intro k n L hk hn h0 h1
    obtain ⟨n, rfl, -⟩ := fuel1 hn
    rw [show k = 6 by omega] at h1 ⊢
    exact ⟨fun _ => h L h0 h1, fun h0 => absurd (show (6 : Int32) ≤ nI 6 by decide) h0⟩
  | succ m ih =>
    intro k n L hk hn h0 h1
    obtain ⟨n, rfl, hn⟩ := fuel1 hn
    have v : vp_in (nI k) 6 := i_in (by omega) (by decide)
    refine ⟨fun h0 => ?_, fun _ => ⟨v, ?_⟩⟩
    · rw [show (6 : Int32) = nI 6 from rfl, i_le (by omega) (by omega)] at h0
      omega
    · intro L3 h3
      refine ⟨v, ?_⟩
      intro L5 h5
      refine ⟨v, ?_⟩
      subst h3
      subst h5
      rw [i_cl (by omega), i_p1, nar0]
      refine ih (k + 1) n _ (by omega) (by omega) h0 (fun j hj => ?_)
      show upd (L.1 1) k 0 j = 0 ∧ upd (L.1 2) k 0 j = 0 ∧ upd (L.1 3) k 0 j = 0
      by_cases e : j = k
      · rw [e]
        exact ⟨pk_us, pk_us, pk_us⟩
      · rw [pk_un e, pk_un e, pk_un e]
        exact h1 j (by omega)
theorem ok_clear {L : LnS} {Q : LnS → Prop} (h : ∀ L, RepL L Z0 → Q L) : wp_X1_clear L Q :=
  ⟨7, cr1_loop (fun L' h0 h1 => ⟨55, cr2_loop h 54 0 55 L' (by omega) (by omega) h0 h1 (fun j hj => absurd hj (by omega))⟩) 6 0 7 _ (by omega) (by omega) ⟨rfl, rfl, rfl, rfl⟩ (fun j hj => absurd hj (by omega))⟩
def EXT (s : Nat → Nat) (N i c p0 : Nat) (w : Int32) (B : AL) : Prop :=
  (aC (FL s i) = c + 1 ∧ B.1 = (aC (FL s N), 1, 0, 0) ∧ ∀ x, aS B x = 0)
  ∧ (∀ x, c < x → aP B x = aP (FL s N) x ∧ ∀ y, aD B x y = aD (FL s N) x y ∧ aW B x y = aW (FL s N) x y)
  ∧ (aP B c = p0 ∧ (∀ y, y < p0 → aD B c y = aD (FL s N) c y ∧ aW B c y = aW (FL s N) c y) ∧ (∀ y, p0 ≤ y → aD B c y = 0 ∧ aW B c y = 0))
  ∧ (∀ x, x < c → aP B x = 0 ∧ ∀ y, aD B x y = 0 ∧ aW B x y = 0)
  ∧ (∀ x, aK B x = if c ≤ x then aK (FL s N) x else false)
  ∧ (aP (FL s N) c = p0 + aP (FL s i) c ∧ ∀ y, y < aP (FL s i) c → aD (FL s N) c (p0 + y) = aD (FL s i) c y ∧ aW (FL s N) c (p0 + y) = aW (FL s i) c y + (if y = 0 then w else 0))
  ∧ (∀ x, x < c → aP (FL s N) x = aP (FL s i) x ∧ aK (FL s N) x = aK (FL s i) x ∧ ∀ y, aD (FL s N) x y = aD (FL s i) x y ∧ aW (FL s N) x y = aW (FL s i) x y)
  ∧ (aP (FL s i) c = 0 → w = 0)
theorem EXT_N {s : Nat → Nat} {N K : Nat} (hI : LdI (FL s N) K) {c : Nat} (hc : aC (FL s N) = c + 1) : EXT s N N c 0 0 (sC Z0 (aC (FL s N))) := by
  refine ⟨⟨hc, rfl, fun _ => rfl⟩, fun x hx => ?_, ⟨rfl, fun y hy => absurd hy (Nat.not_lt_zero y), fun y _ => ⟨rfl, rfl⟩⟩, fun x _ => ⟨rfl, fun y => ⟨rfl, rfl⟩⟩, fun x => ?_, ⟨(Nat.zero_add _).symm, fun y _ => ?_⟩, fun x _ => ⟨rfl, rfl, fun y => ⟨rfl, rfl⟩⟩, fun _ => rfl⟩
  · have e := hI.2.2.2.1 x (by omega)
    refine ⟨e.symm, fun y => ?_⟩
    have := hI.2.2.2.2.2.2.1 x y (by omega)
    exact ⟨this.1.symm, this.2.symm⟩
  · show false = _
    by_cases h : c ≤ x
    · rw [if_pos h]
      cases hk : aK (FL s N) x with
      | false => rfl
      | true =>
        have := hI.2.2.2.2.1 x hk
        omega
    · rw [if_neg h]
  · rw [Nat.zero_add]
    refine ⟨rfl, ?_⟩
    split <;> exact (Int32.add_zero _).symm
theorem EXT_D {s : Nat → Nat} {N i c p0 v : Nat} {w : Int32} {B : AL} (hF : FL s (i + 1) = ldD (FL s i) v) (h : EXT s N (i + 1) c p0 w B) : EXT s N i c (p0 + 1) 0 (sP (sW (sD B c p0 v) c p0 w) c (p0 + 1)) := by
  obtain ⟨⟨h1, h2, h3⟩, h4, ⟨h5, h6, h7⟩, h8, h9, ⟨h10, h11⟩, h12, h13⟩ := h
  rw [hF] at h1 h10 h11 h12
  have hcA : aC (FL s i) = c + 1 := h1
  have hc1 : aC (FL s i) - 1 = c := by omega
  have eP : ∀ x, aP (ldD (FL s i) v) x = if x = c then aP (FL s i) c + 1 else aP (FL s i) x := fun x => by
    show va_up (aP (FL s i)) (aC (FL s i) - 1) (aP (FL s i) (aC (FL s i) - 1) + 1) x = _
    rw [hc1]
    rfl
  have eD : ∀ x y, aD (ldD (FL s i) v) x y = if x = c then (if y = 0 then v else aD (FL s i) x (y - 1)) else aD (FL s i) x y := fun x y => by
    show (if x = aC (FL s i) - 1 then (if y = 0 then v else aD (FL s i) x (y - 1)) else aD (FL s i) x y) = _
    rw [hc1]
  have eW : ∀ x y, aW (ldD (FL s i) v) x y = if x = c then (if y = 0 then 0 else aW (FL s i) x (y - 1)) else aW (FL s i) x y := fun x y => by
    show (if x = aC (FL s i) - 1 then (if y = 0 then 0 else aW (FL s i) x (y - 1)) else aW (FL s i) x y) = _
    rw [hc1]
  rw [eP, if_pos rfl] at h10 h11
  have h0 := h11 0 (by omega)
  rw [eD, eW, if_pos rfl, if_pos rfl, if_pos rfl, if_pos rfl, if_pos rfl, Int32.zero_add, Nat.add_zero] at h0
  refine ⟨⟨hcA, h2, h3⟩, fun x hx => ?_, ⟨if_pos rfl, fun y hy => ?_, fun y hy => ?_⟩, fun x hx => ?_, h9, ⟨by omega, fun y hy => ?_⟩, fun x hx => ?_, fun _ => rfl⟩
  · have g := h4 x hx
    refine ⟨(if_neg (by omega)).trans g.1, fun y => ⟨(if_neg (by omega)).trans (g.2 y).1, (if_neg (by omega)).trans (g.2 y).2⟩⟩
  · show (if c = c ∧ y = p0 then v else aD B c y) = _ ∧ (if c = c ∧ y = p0 then w else aW B c y) = _
    by_cases e : y = p0
    · rw [if_pos ⟨rfl, e⟩, if_pos ⟨rfl, e⟩, e]
      exact ⟨h0.1.symm, h0.2.symm⟩
    · rw [if_neg (fun h => e h.2), if_neg (fun h => e h.2)]
      exact h6 y (by omega)
  · show (if c = c ∧ y = p0 then v else aD B c y) = 0 ∧ (if c = c ∧ y = p0 then w else aW B c y) = 0
    rw [if_neg (fun h => by omega), if_neg (fun h => by omega)]
    exact h7 y (by omega)
  · have g := h8 x hx
    refine ⟨(if_neg (by omega)).trans g.1, fun y => ⟨(if_neg (by omega)).trans (g.2 y).1, (if_neg (by omega)).trans (g.2 y).2⟩⟩
  · have g := h11 (y + 1) (by omega)
    rw [eD, eW, if_pos rfl, if_pos rfl, if_neg (by omega), if_neg (by omega), if_neg (by omega), Nat.add_sub_cancel, show p0 + (y + 1) = p0 + 1 + y by omega] at g
    refine ⟨g.1, g.2.trans ?_⟩
    split <;> rfl
  · have g := h12 x hx
    refine ⟨g.1.trans ((eP x).trans (if_neg (by omega))), g.2.1, fun y => ⟨(g.2.2 y).1.trans ((eD x y).trans (if_neg (by omega))), (g.2.2 y).2.trans ((eW x y).trans (if_neg (by omega)))⟩⟩
theorem EXT_M {s : Nat → Nat} {N i c p0 : Nat} {w d : Int32} {B : AL} (hF : FL s (i + 1) = ldM (FL s i) d) (hP : 0 < lP (FL s i)) (h : EXT s N (i + 1) c p0 w B) : EXT s N i c p0 (w + d) B := by
  obtain ⟨⟨h1, h2, h3⟩, h4, h5, h8, h9, ⟨h10, h11⟩, h12, h13⟩ := h
  rw [hF] at h1 h10 h11 h12
  have hcA : aC (FL s i) = c + 1 := h1
  have hc1 : aC (FL s i) - 1 = c := by omega
  unfold lP at hP
  rw [hc1] at hP
  have eW : ∀ x y, aW (ldM (FL s i) d) x y = if x = c ∧ y = 0 then aW (FL s i) c 0 + d else aW (FL s i) x y := fun x y => by
    show (if x = aC (FL s i) - 1 ∧ y = 0 then aW (FL s i) (aC (FL s i) - 1) 0 + d else aW (FL s i) x y) = _
    rw [hc1]
  refine ⟨⟨hcA, h2, h3⟩, h4, h5, h8, h9, ⟨h10, fun y hy => ?_⟩, fun x hx => ?_, fun e => absurd e (by omega)⟩
  · have g := h11 y hy
    rw [eW] at g
    refine ⟨g.1, g.2.trans ?_⟩
    by_cases e : y = 0
    · rw [if_pos ⟨rfl, e⟩, if_pos e, if_pos e, e, Int32.add_assoc, Int32.add_comm d w]
    · rw [if_neg (fun h => e h.2), if_neg e, if_neg e]
  · have g := h12 x hx
    refine ⟨g.1, g.2.1, fun y => ⟨(g.2.2 y).1, (g.2.2 y).2.trans ((eW x y).trans (if_neg (by omega)))⟩⟩
theorem EXT_B {s : Nat → Nat} {N i c p0 K K' : Nat} {w : Int32} {b : Bool} {B : AL} (hI : LdI (FL s i) K) (hIN : LdI (FL s N) K') (hF : FL s (i + 1) = ldB (FL s i) b) (h : EXT s N (i + 1) (c + 1) p0 w B) : EXT s N i c 0 w (sK B c b) := by
  obtain ⟨⟨h1, h2, h3⟩, h4, ⟨h5, h6, h7⟩, h8, h9, ⟨h10, h11⟩, h12, h13⟩ := h
  rw [hF] at h1 h10 h11 h12 h13
  have hcA : aC (FL s i) = c + 1 := by
    have : aC (FL s i) + 1 = c + 1 + 1 := h1
    omega
  have hc1 : aC (FL s i) - 1 = c := by omega
  have eP : aP (ldB (FL s i) b) = aP (FL s i) := rfl
  have eK : ∀ x, aK (ldB (FL s i) b) x = if x = c then b else aK (FL s i) x := fun x => by
    show va_up (aK (FL s i)) (aC (FL s i) - 1) b x = _
    rw [hc1]
    rfl
  have e0 : aP (FL s i) (c + 1) = 0 := hI.2.2.2.1 _ (by omega)
  rw [eP, e0] at h10 h13
  have hw := h13 rfl
  have g8 := h8 c (by omega)
  have g12 := h12 c (by omega)
  refine ⟨⟨hcA, h2, h3⟩, fun x hx => ?_, ⟨g8.1, fun y hy => absurd hy (Nat.not_lt_zero y), fun y _ => g8.2 y⟩, fun x hx => h8 x (by omega), fun x => ?_, ⟨g12.1.trans (Nat.zero_add _).symm, fun y _ => ?_⟩, fun x hx => ?_, fun _ => hw⟩
  · by_cases e : x = c + 1
    · subst e
      refine ⟨by show aP B (c + 1) = _; omega, fun y => ?_⟩
      by_cases hy : y < p0
      · exact h6 y hy
      · have z := h7 y (by omega)
        have z2 := hIN.2.2.2.2.2.2.1 (c + 1) y (by omega)
        exact ⟨z.1.trans z2.1.symm, z.2.trans z2.2.symm⟩
    · exact h4 x (by omega)
  · show (if x = c then b else aK B x) = _
    rw [h9]
    by_cases e : x = c
    · rw [if_pos e, if_pos (by omega), e, g12.2.1, eK, if_pos rfl]
    · rw [if_neg e]
      by_cases e2 : c + 1 ≤ x
      · rw [if_pos e2, if_pos (by omega)]
      · rw [if_neg e2, if_neg (by omega)]
  · rw [Nat.zero_add, hw]
    refine ⟨(g12.2.2 y).1, (g12.2.2 y).2.trans ?_⟩
    split <;> exact (Int32.add_zero _).symm
  · have g := h12 x (by omega)
    exact ⟨g.1, g.2.1.trans ((eK x).trans (if_neg (by omega))), g.2.2⟩
theorem EXT_0 {s : Nat → Nat} {N c p0 K : Nat} {w : Int32} {L : LnS} {B : AL} (hIN : LdI (FL s N) K) (hR : RepL L B) (h : EXT s N 0 c p0 w B) : RepL L (FL s N) := by
  obtain ⟨⟨h1, h2, h3⟩, h4, ⟨h5, h6, h7⟩, h8, h9, ⟨h10, h11⟩, h12, h13⟩ := h
  have hc : c = 0 := by
    have : 1 = c + 1 := h1
    omega
  subst hc
  have h10' : aP (FL s N) 0 = p0 + 0 := h10
  refine rep_cong hR ?_ hIN.1.2.2.1 (fun x _ => ⟨?_, ?_, (h3 x).trans (hIN.2.2.2.2.2.2.2.2.2 x).symm, fun y _ => ?_⟩)
  · rw [h2]
    have e2 := hIN.1
    exact (Prod.ext rfl (Prod.ext e2.1.symm (Prod.ext e2.2.1.symm e2.2.2.1.symm)))
  · by_cases e : x = 0
    · rw [e]
      omega
    · exact (h4 x (by omega)).1
  · rw [h9, if_pos (Nat.zero_le _)]
  · by_cases e : x = 0
    · subst e
      by_cases hy : y < p0
      · exact h6 y hy
      · have z := h7 y (by omega)
        have z2 := hIN.2.2.2.2.2.2.1 0 y (by omega)
        exact ⟨z.1.trans z2.1.symm, z.2.trans z2.2.symm⟩
    · exact (h4 x (by omega)).2 y
theorem ok_writeDigit {L : LnS} {B : AL} (hR : RepL L B) {c p : Nat} (hc : c < 6) (hp : p < 9) (hP : aP B c = p) (v : Nat) (w : Int32) {Q : LnS → Prop} (h : ∀ L', RepL L' (sP (sW (sD B c p v) c p w) c (p + 1)) → Q L') : wp_X2_writeDigit L (nI c) (nI v) w Q := by
  have v6 : vp_in (nI c) 6 := i_in hc (by decide)
  have v54 : vp_in (nI (9 * c + p)) 54 := i_in (by omega) (by decide)
  refine ⟨v6, ?_⟩
  rw [i_cl (by omega), hR.2.1 c hc, hP, show (9 : Int32) = nI 9 from rfl, i_le (by omega) (by omega), i_p1]
  refine ⟨fun h0 => absurd h0 (by omega), fun _ => ok_cellOf ⟨v54, ok_cellOf ?_⟩⟩
  intro L6 h6
  refine ⟨v54, ?_⟩
  intro L8 h8
  refine ⟨v6, ?_⟩
  rw [i_cl (by omega)] at h6 h8
  have R6 : RepL L6 (sD B c p v) := h6 ▸ rep_D hR hp v rfl
  have R8 : RepL L8 (sW (sD B c p v) c p w) := h8 ▸ rep_W R6 hp w rfl
  exact h _ (rep_P R8 c (p + 1))
theorem ci_loop {tx : TS} {s : Nat → Nat} {N : Nat} (hN : N ≤ 100) (h1 : tx.1 = nI N) (h2 : ∀ j, j < N → tx.2 j = nI (s j)) (hs : ∀ j, j < N → s j < 256) (hv : Vd s N 0 1 0 0) {Q : Int32 → Prop} (h : Q (nI (aC (FL s N)))) : ∀ (m i n : Nat), i + m = N → m < n → wl_X2_countersInText_4 tx Q n (nI (aC (FL s i))) (nI i) := by
  intro m
  induction m with
  | zero =>
    intro i n hi hn
    obtain ⟨n, rfl, -⟩ := fuel1 hn
    rw [show i = N by omega]
    refine ⟨fun _ => h, fun h0 => absurd ?_ h0⟩
    rw [h1]
    exact (i_le (by omega) (by omega)).mpr (Nat.le_refl _)
  | succ m ih =>
    intro i n hi hn
    obtain ⟨n, rfl, hn⟩ := fuel1 hn
    have hsi := hs i (by omega)
    have hV := (ld_all hv i (by omega)).2
    rw [show N - i = (N - (i + 1)) + 1 by omega] at hV
    have hdv : isD (s i) = true ↔ (48 ≤ s i ∧ s i ≤ 50) := by unfold isD; simp
    have hmv : isM (s i) = true ↔ (s i = 43 ∨ s i = 45) := by unfold isM; simp
    have hbv : isB (s i) = true ↔ (s i = 47 ∨ s i = 62) := by unfold isB; simp
    refine ⟨fun h0 => ?_, fun _ => ⟨i_in (by omega) (by decide), ?_⟩⟩
    · rw [h1, i_le (by omega) (by omega)] at h0
      omega
    rw [i_cl (by omega), h2 i (by omega), i_p1, i_p1]
    have g := ih (i + 1) n (by omega) (by omega)
    refine ok_isB hsi (fun hb => t1 ?_) (fun hb => t0 ?_)
    · have e : aC (FL s (i + 1)) = aC (FL s i) + 1 := by
        show aC (ld (FL s i) (s i)) = _
        unfold ld
        rw [hbv] at hb
        rw [if_neg (by rw [hdv]; omega), if_neg (by rw [hmv]; omega)]
        rfl
      rw [e] at g
      exact g
    · have e : aC (FL s (i + 1)) = aC (FL s i) := by
        show aC (ld (FL s i) (s i)) = _
        unfold ld
        rcases hV with hV | hV | hV
        · rw [if_pos hV.1]
          rfl
        · rw [if_neg hV.1, if_pos hV.2.1]
          rfl
        · exact absurd hV.2.2.1 hb
      rw [e] at g
      exact g
theorem wi2_loop {tx : TS} {s : Nat → Nat} {N : Nat} (hN : N ≤ 100) (h1 : tx.1 = nI N) (h2 : ∀ j, j < N → tx.2 j = nI (s j)) (hs : ∀ j, j < N → s j < 256) (hv : Vd s N 0 1 0 0) {Q : LnS → Prop} (h : ∀ L, RepL L (FL s N) → Q L) : ∀ (i n c p0 : Nat) (w : Int32) (B : AL) (L : LnS), i ≤ N → i < n → RepL L B → EXT s N i c p0 w B → wl_X2_writeInto_25 tx Q n L (nI c) w (nI i - 1) := by
  have hIN := (ld_all hv N (Nat.le_refl _)).1
  intro i
  induction i with
  | zero =>
    intro n c p0 w B L hi hn hR hE
    obtain ⟨n, rfl, -⟩ := fuel1 hn
    exact ⟨fun _ => h L (EXT_0 hIN hR hE), fun h0 => absurd i_m1neg h0⟩
  | succ i ih =>
    intro n c p0 w B L hi hn hR hE
    obtain ⟨n, rfl, hn⟩ := fuel1 hn
    have hsi := hs i (by omega)
    obtain ⟨hI, hV⟩ := ld_all hv i (by omega)
    have hI2 := (ld_all hv (i + 1) (by omega)).1
    rw [show N - i = (N - (i + 1)) + 1 by omega] at hV
    have hdv : isD (s i) = true ↔ (48 ≤ s i ∧ s i ≤ 50) := by unfold isD; simp
    have hmv : isM (s i) = true ↔ (s i = 43 ∨ s i = 45) := by unfold isM; simp
    have hbv : isB (s i) = true ↔ (s i = 47 ∨ s i = 62) := by unfold isB; simp
    have eF : FL s (i + 1) = ld (FL s i) (s i) := rfl
    have hc6 : c < 6 := by
      have a1 := hE.1.1
      have a2 := hI2.1
      omega
    rw [i_s1]
    refine ⟨fun h0 => absurd h0 (i_neg i (by omega)), fun _ => ⟨fun h0 => absurd h0 (i_neg c (by omega)), fun _ => ⟨i_in (by omega) (by decide), ?_⟩⟩⟩
    rw [i_cl (n := i) (by omega), h2 i (by omega), i_m1 (nI i), i_m1 (nI c)]
    refine ok_isD hsi (fun c1 => t1 ?_) (fun c1 => t0 (ok_isM hsi (fun c2 => t1 ?_) (fun c2 => t0 ?_)))
    · have c1' := hdv.mp c1
      have e48 : nI (s i) - (48 : Int32) = nI (s i - 48) := by
        apply Int32.toInt_inj.mp
        have e2 : (48 : Int32).toInt = 48 := by decide
        have : (2 : Int) ^ 32 = 4294967296 := by decide
        rw [Int32.toInt_sub, i_toInt (by omega), i_toInt (by omega), e2, Int.bmod_def]
        split <;> omega
      rw [e48]
      have eF2 : FL s (i + 1) = ldD (FL s i) (s i - 48) := by
        rw [eF]
        unfold ld
        rw [if_pos c1]
      have hp9 : p0 < 9 := by
        have a1 := hE.2.2.2.2.2.1.1
        have a2 := hIN.2.1 c
        have a3 : aP (FL s (i + 1)) c = aP (FL s i) c + 1 := by
          rw [eF2]
          have : c = aC (FL s i) - 1 := by
            have a4 := hE.1.1
            rw [eF2] at a4
            have a5 : aC (FL s i) = c + 1 := a4
            omega
          show va_up (aP (FL s i)) (aC (FL s i) - 1) (aP (FL s i) (aC (FL s i) - 1) + 1) c = _
          rw [← this]
          exact if_pos rfl
        omega
      exact ok_writeDigit hR hc6 hp9 hE.2.2.1.1 _ w (fun L' hL' => ih n c (p0 + 1) 0 _ L' (by omega) (by omega) hL' (EXT_D eF2 hE))
    · have c2' := hmv.mp c2
      have hP : 0 < lP (FL s i) := by
        rcases hV with hV | hV | hV
        · exact absurd hV.1 c1
        · exact hV.2.2.1
        · exact absurd c2 hV.2.1
      have eF2 : FL s (i + 1) = ldM (FL s i) (if s i = 43 then 1 else -1) := by
        rw [eF]
        unfold ld
        rw [if_neg c1, if_pos c2]
      have hE2 := EXT_M eF2 hP hE
      rw [show (43 : Int32) = nI 43 from rfl, i_eq (b := 43) (by omega) (by omega)]
      refine ⟨fun e => ?_, fun e => ?_⟩
      · rw [if_pos e] at hE2
        exact ih n c p0 _ B L (by omega) (by omega) hR hE2
      · rw [if_neg e] at hE2
        exact ih n c p0 _ B L (by omega) (by omega) hR hE2
    · have eF2 : FL s (i + 1) = ldB (FL s i) (decide (s i = 62)) := by
        rw [eF]
        unfold ld
        rw [if_neg c1, if_neg c2]
      obtain ⟨q, rfl⟩ : ∃ q, c = q + 1 := by
        have a4 := hE.1.1
        rw [eF2] at a4
        have a5 : aC (FL s i) + 1 = c + 1 := a4
        have a6 := hI.1
        exact ⟨c - 1, by omega⟩
      have hE2 := EXT_B hI hIN eF2 hE
      rw [i_s1, show (62 : Int32) = nI 62 from rfl, i_eq (b := 62) (by omega) (by omega), nar0, nar1, i_cl (by omega)]
      refine tn (i_neg q (by omega)) ⟨fun e => ⟨i_in (by omega) (by decide), ?_⟩, fun e => ⟨i_in (by omega) (by decide), ?_⟩⟩
      · rw [decide_eq_true e] at hE2
        exact ih n q 0 w _ _ (by omega) (by omega) (rep_K hR q true rfl) hE2
      · rw [decide_eq_false e] at hE2
        exact ih n q 0 w _ _ (by omega) (by omega) (rep_K hR q false rfl) hE2
theorem ok_writeInto {tx : TS} {s : Nat → Nat} {N : Nat} (hN : N ≤ 100) (h1 : tx.1 = nI N) (h2 : ∀ j, j < N → tx.2 j = nI (s j)) (hs : ∀ j, j < N → s j < 256) (hv : Vd s N 0 1 0 0) {L : LnS} (hR : RepL L Z0) {Q : LnS → Prop} (h : ∀ L, RepL L (FL s N) → Q L) : wp_X2_writeInto tx L Q := by
  have hIN := (ld_all hv N (Nat.le_refl _)).1
  have hI1 := hIN.1
  obtain ⟨c, hc⟩ : ∃ c, aC (FL s N) = c + 1 := ⟨aC (FL s N) - 1, by omega⟩
  refine ⟨N + 1, ci_loop hN h1 h2 hs hv ?_ N 0 (N + 1) (by omega) (by omega)⟩
  refine ⟨N + 1, ?_⟩
  have hE := EXT_N hIN hc
  have R := rep_C hR (aC (FL s N))
  rw [hc, i_s1, h1]
  rw [hc] at R hE
  exact wi2_loop hN h1 h2 hs hv h N (N + 1) c 0 0 _ _ (Nat.le_refl _) (by omega) R hE
theorem sim_load {k : Nat} {M : MS} {S : XO} {tx : TS} {hs : HS} {Ls : Nat → LnS} (h : Rl k M S tx hs Ls) {f : Nat → Int64}  {C : CT} {P : Int32 → (Nat → Int64) → XO → TS → HS → (Nat → LnS) → Prop} (hC : NX k C) (hP : ∀ r g S' tx' hs' Ls', wp_X4_load M  (JI C r g S' tx' hs' Ls') → P r g S' tx' hs' Ls') : wp_L_load f S tx hs Ls  P := by
  obtain ⟨σ, hc, hr, hi⟩ := h
  have hO := hi.2.1.1
  unfold wp_L_load wp_X3_load
  obtain ⟨⟨N, s⟩, A, ⟨hc0, H⟩, ⟨b, K⟩⟩ := σ
  have hN : N ≤ 100 := hi.1.1
  have hs256 : ∀ j, j < N → s j < 256 := hi.1.2
  have g1 : tx.1 = nI N := hc.1.1
  have g2 : ∀ j, j < N → tx.2 j = nI (s j) := hc.1.2
  have r1 : M 0 1 = nI N := hr.1.1
  have r2 : ∀ j, j < N → M 1 j = nI (s j) := hr.1.2
  refine ok_firstWrong (s := s) hN g1 g2 hs256 ?_
  by_cases hw : wr s N N 0 1 0 0 = -1
  · have hv := wr_vd hN N 0 1 0 0 (by omega) (by omega) (by omega) (by omega) hw
    have hlast := (ld_all hv N (Nat.le_refl _))
    rw [Nat.sub_self] at hlast
    refine tp hw (ok_clear (fun L1 hL1 => ok_writeInto hN g1 g2 hs256 hv hL1 (fun L2 hL2 => ⟨3, ?_⟩)))
    have v0 : vp_in (nI 0) 2 := i_in (by omega) (by decide)
    have v1 : vp_in (nI 1) 2 := i_in (by omega) (by decide)
    refine tn (by decide) ⟨v0, ?_⟩
    refine tn (by decide) ⟨v1, ?_⟩
    refine tp (by decide) (hP _ _ _ _ _ _ ?_)
    refine ok_wrong (s := s) hN r1 r2 hs256 (tp hw (ok_rn (t0 (ok_begin (fun u hu => ?_)))))
    intro M43 h43
    subst h43
    refine ⟨N + 1, ?_⟩
    rw [z0]
    refine lo2_loop (s := s) (M0 := zs2 M 0 0 0) hN hs256 hv r1 r2 (fun M' hR' hF' => ?_) N 0 (N + 1) _ (by omega) (by omega) (rr_A0 hu) (fun j hj => ?_)
    · refine fin_ok ?_ hL2.1.1 (hC.go1 (σ := ((N, s), FL s N, (0, H), (fun _ => false, K))) ?_ ?_ ?_)
      · show upd (M' 0) 2 0 0 = 0
        rw [pk_un (by decide), hF' 0 (by decide)]
        rfl
      · obtain ⟨a1, a2, ⟨o, ho, a3, a4⟩, a5⟩ := hc
        refine ⟨a1, ?_, ⟨o, ho, ?_, fun i hi2 => absurd hi2 (Nat.not_lt_zero i)⟩, fun i hi2 => ⟨?_, fun hb => Bool.noConfusion (show false = true from hb)⟩⟩
        · show RepL (if 0 = 0 then L2 else Ls 0) _
          rw [if_pos rfl]
          exact hL2
        · rw [a3]
          rfl
        · show upd (upd S.1 (nI 0).toNatClampNeg (vp_nar .boolean 0)) (nI 1).toNatClampNeg (vp_nar .boolean 0) i = 0
          rw [nar0, i_cl (by omega), i_cl (by omega)]
          by_cases e : i = 1
          · rw [e]
            exact pk_us
          · rw [pk_un e, show i = 0 by omega]
            exact pk_us
      · refine ⟨⟨?_, ?_⟩, hR', ⟨?_, fun i hi2 => absurd hi2 (Nat.not_lt_zero i)⟩, fun i hi2 => ⟨?_, fun hb => Bool.noConfusion (show false = true from hb)⟩⟩
        · show upd (M' 0) 2 0 1 = nI N
          rw [pk_un (by decide), hF' 0 (by decide)]
          exact r1
        · show ∀ j, j < N → M' 1 j = nI (s j)
          rw [hF' 1 (by decide)]
          exact r2
        · show upd (M' 0) 2 0 2 = nI 0
          exact pk_us
        · show upd (upd (M' 6) 0 0) 1 0 i = 0
          by_cases e : i = 1
          · rw [e]
            exact pk_us
          · rw [pk_un e, show i = 0 by omega]
            exact pk_us
      · exact ⟨hi.1, Gd_ld hlast.1 hlast.2, ⟨Nat.zero_le _, fun i hi2 => absurd hi2 (Nat.not_lt_zero i)⟩, fun i hi2 hb => Bool.noConfusion (show false = true from hb)⟩
    · show (if j = 2 then _ else if j = 2 then _ else zs2 M 0 0 0 j) = zs2 M 0 0 0 j
      rw [if_neg hj, if_neg hj]
  · refine tn hw (x1 (hP _ _ _ _ _ _ ?_))
    exact ok_wrong (s := s) hN r1 r2 hs256 (tn hw (ok_ry (by decide) (t1 (fin_ex n1 rfl (hC.go hc (hr.ref _) hi)))))

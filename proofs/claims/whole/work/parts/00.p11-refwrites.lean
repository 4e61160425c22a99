/-! The reference's row that is changed at one place. -/
theorem rr_W {r : Nat → Int32} {A : AL} (hR : RepR r A) {c p i : Nat} (hc : c < 6) (hp : p < 9) (v : Int32) (hi : i = 17 + 22 * c + p) : RepR (upd r i v) (sW A c p v) := by
  subst hi
  refine ⟨⟨(pk_un (by omega)).trans hR.1.1, (pk_un (by omega)).trans hR.1.2.1, (pk_un (by omega)).trans hR.1.2.2.1, (pk_un (by omega)).trans hR.1.2.2.2⟩, fun c' hc' => (pk_un (by omega)).trans (hR.2.1 c' hc'), fun c' hc' => (pk_un (by omega)).trans (hR.2.2.1 c' hc'), fun c' hc' => (pk_un (by omega)).trans (hR.2.2.2.1 c' hc'), fun c' p' hc' hp' => (pk_un (by omega)).trans (hR.2.2.2.2.1 c' p' hc' hp'), fun c' p' hc' hp' => ?_, fun k hk => ⟨(pk_un (by omega)).trans (hR.2.2.2.2.2.2.1 k hk).1, (pk_un (by omega)).trans (hR.2.2.2.2.2.2.1 k hk).2.1, (pk_un (by omega)).trans (hR.2.2.2.2.2.2.1 k hk).2.2.1, (pk_un (by omega)).trans (hR.2.2.2.2.2.2.1 k hk).2.2.2⟩, fun c' hc' => (pk_un (by omega)).trans (hR.2.2.2.2.2.2.2 c' hc')⟩
  show upd r (17 + 22 * c + p) v (17 + 22 * c' + p') = (if c' = c ∧ p' = p then v else aW A c' p')
  by_cases h : c' = c ∧ p' = p
  · rw [if_pos h, h.1, h.2]
    exact pk_us
  · rw [if_neg h, pk_un (by omega)]
    exact hR.2.2.2.2.2.1 c' p' hc' hp'
theorem rr_D {r : Nat → Int32} {A : AL} (hR : RepR r A) {c p i : Nat} (hc : c < 6) (hp : p < 9) (v : Nat) (hi : i = 8 + 22 * c + p) : RepR (upd r i (nI v)) (sD A c p v) := by
  subst hi
  refine ⟨⟨(pk_un (by omega)).trans hR.1.1, (pk_un (by omega)).trans hR.1.2.1, (pk_un (by omega)).trans hR.1.2.2.1, (pk_un (by omega)).trans hR.1.2.2.2⟩, fun c' hc' => (pk_un (by omega)).trans (hR.2.1 c' hc'), fun c' hc' => (pk_un (by omega)).trans (hR.2.2.1 c' hc'), fun c' hc' => (pk_un (by omega)).trans (hR.2.2.2.1 c' hc'), fun c' p' hc' hp' => ?_, fun c' p' hc' hp' => (pk_un (by omega)).trans (hR.2.2.2.2.2.1 c' p' hc' hp'), fun k hk => ⟨(pk_un (by omega)).trans (hR.2.2.2.2.2.2.1 k hk).1, (pk_un (by omega)).trans (hR.2.2.2.2.2.2.1 k hk).2.1, (pk_un (by omega)).trans (hR.2.2.2.2.2.2.1 k hk).2.2.1, (pk_un (by omega)).trans (hR.2.2.2.2.2.2.1 k hk).2.2.2⟩, fun c' hc' => (pk_un (by omega)).trans (hR.2.2.2.2.2.2.2 c' hc')⟩
  show upd r (8 + 22 * c + p) (nI v) (8 + 22 * c' + p') = nI (if c' = c ∧ p' = p then v else aD A c' p')
  by_cases h : c' = c ∧ p' = p
  · rw [if_pos h, h.1, h.2]
    exact pk_us
  · rw [if_neg h, pk_un (by omega)]
    exact hR.2.2.2.2.1 c' p' hc' hp'
theorem rr_S {r : Nat → Int32} {A : AL} (hR : RepR r A) {c i : Nat} (hc : c < 6) (v : Int32) (hi : i = 6 + 22 * c) : RepR (upd r i v) (sS A c v) := by
  subst hi
  refine ⟨⟨(pk_un (by omega)).trans hR.1.1, (pk_un (by omega)).trans hR.1.2.1, (pk_un (by omega)).trans hR.1.2.2.1, (pk_un (by omega)).trans hR.1.2.2.2⟩, fun c' hc' => (pk_un (by omega)).trans (hR.2.1 c' hc'), fun c' hc' => (pk_un (by omega)).trans (hR.2.2.1 c' hc'), fun c' hc' => ?_, fun c' p' hc' hp' => (pk_un (by omega)).trans (hR.2.2.2.2.1 c' p' hc' hp'), fun c' p' hc' hp' => (pk_un (by omega)).trans (hR.2.2.2.2.2.1 c' p' hc' hp'), fun k hk => ⟨(pk_un (by omega)).trans (hR.2.2.2.2.2.2.1 k hk).1, (pk_un (by omega)).trans (hR.2.2.2.2.2.2.1 k hk).2.1, (pk_un (by omega)).trans (hR.2.2.2.2.2.2.1 k hk).2.2.1, (pk_un (by omega)).trans (hR.2.2.2.2.2.2.1 k hk).2.2.2⟩, fun c' hc' => (pk_un (by omega)).trans (hR.2.2.2.2.2.2.2 c' hc')⟩
  show upd r (6 + 22 * c) v (6 + 22 * c') = (if c' = c then v else aS A c')
  by_cases h : c' = c
  · rw [if_pos h, h]
    exact pk_us
  · rw [if_neg h, pk_un (by omega)]
    exact hR.2.2.2.1 c' hc'
theorem rr_P {r : Nat → Int32} {A : AL} (hR : RepR r A) {c i : Nat} (hc : c < 6) (v : Nat) (hi : i = 4 + 22 * c) : RepR (upd r i (nI v)) (sP A c v) := by
  subst hi
  refine ⟨⟨(pk_un (by omega)).trans hR.1.1, (pk_un (by omega)).trans hR.1.2.1, (pk_un (by omega)).trans hR.1.2.2.1, (pk_un (by omega)).trans hR.1.2.2.2⟩, fun c' hc' => ?_, fun c' hc' => (pk_un (by omega)).trans (hR.2.2.1 c' hc'), fun c' hc' => (pk_un (by omega)).trans (hR.2.2.2.1 c' hc'), fun c' p' hc' hp' => (pk_un (by omega)).trans (hR.2.2.2.2.1 c' p' hc' hp'), fun c' p' hc' hp' => (pk_un (by omega)).trans (hR.2.2.2.2.2.1 c' p' hc' hp'), fun k hk => ⟨(pk_un (by omega)).trans (hR.2.2.2.2.2.2.1 k hk).1, (pk_un (by omega)).trans (hR.2.2.2.2.2.2.1 k hk).2.1, (pk_un (by omega)).trans (hR.2.2.2.2.2.2.1 k hk).2.2.1, (pk_un (by omega)).trans (hR.2.2.2.2.2.2.1 k hk).2.2.2⟩, fun c' hc' => (pk_un (by omega)).trans (hR.2.2.2.2.2.2.2 c' hc')⟩
  show upd r (4 + 22 * c) (nI v) (4 + 22 * c') = nI (if c' = c then v else aP A c')
  by_cases h : c' = c
  · rw [if_pos h, h]
    exact pk_us
  · rw [if_neg h, pk_un (by omega)]
    exact hR.2.1 c' hc'
theorem rr_K {r : Nat → Int32} {A : AL} (hR : RepR r A) {c i : Nat} (hc : c < 6) (b : Bool) {x : Int32} (hx : x = if b = true then 1 else 0) (hi : i = 5 + 22 * c) : RepR (upd r i x) (sK A c b) := by
  subst hi
  refine ⟨⟨(pk_un (by omega)).trans hR.1.1, (pk_un (by omega)).trans hR.1.2.1, (pk_un (by omega)).trans hR.1.2.2.1, (pk_un (by omega)).trans hR.1.2.2.2⟩, fun c' hc' => (pk_un (by omega)).trans (hR.2.1 c' hc'), fun c' hc' => ?_, fun c' hc' => (pk_un (by omega)).trans (hR.2.2.2.1 c' hc'), fun c' p' hc' hp' => (pk_un (by omega)).trans (hR.2.2.2.2.1 c' p' hc' hp'), fun c' p' hc' hp' => (pk_un (by omega)).trans (hR.2.2.2.2.2.1 c' p' hc' hp'), fun k hk => ⟨(pk_un (by omega)).trans (hR.2.2.2.2.2.2.1 k hk).1, (pk_un (by omega)).trans (hR.2.2.2.2.2.2.1 k hk).2.1, (pk_un (by omega)).trans (hR.2.2.2.2.2.2.1 k hk).2.2.1, (pk_un (by omega)).trans (hR.2.2.2.2.2.2.1 k hk).2.2.2⟩, fun c' hc' => (pk_un (by omega)).trans (hR.2.2.2.2.2.2.2 c' hc')⟩
  show upd r (5 + 22 * c) x (5 + 22 * c') = if (if c' = c then b else aK A c') = true then 1 else 0
  by_cases h : c' = c
  · rw [if_pos h, h, ← hx]
    exact pk_us
  · rw [if_neg h, pk_un (by omega)]
    exact hR.2.2.1 c' hc'
theorem rr_G {r : Nat → Int32} {A : AL} (hR : RepR r A) (g : Nat) : RepR (upd r 1 (nI g)) (sG A g) :=
  ⟨⟨(pk_un (by omega)).trans hR.1.1, pk_us, (pk_un (by omega)).trans hR.1.2.2.1, (pk_un (by omega)).trans hR.1.2.2.2⟩, fun c' hc' => (pk_un (by omega)).trans (hR.2.1 c' hc'), fun c' hc' => (pk_un (by omega)).trans (hR.2.2.1 c' hc'), fun c' hc' => (pk_un (by omega)).trans (hR.2.2.2.1 c' hc'), fun c' p' hc' hp' => (pk_un (by omega)).trans (hR.2.2.2.2.1 c' p' hc' hp'), fun c' p' hc' hp' => (pk_un (by omega)).trans (hR.2.2.2.2.2.1 c' p' hc' hp'), fun k hk => ⟨(pk_un (by omega)).trans (hR.2.2.2.2.2.2.1 k hk).1, (pk_un (by omega)).trans (hR.2.2.2.2.2.2.1 k hk).2.1, (pk_un (by omega)).trans (hR.2.2.2.2.2.2.1 k hk).2.2.1, (pk_un (by omega)).trans (hR.2.2.2.2.2.2.1 k hk).2.2.2⟩, fun c' hc' => (pk_un (by omega)).trans (hR.2.2.2.2.2.2.2 c' hc')⟩
theorem rr_B {r : Nat → Int32} {A : AL} (hR : RepR r A) (b : Int32) : RepR (upd r 2 b) (sB A b) :=
  ⟨⟨(pk_un (by omega)).trans hR.1.1, (pk_un (by omega)).trans hR.1.2.1, pk_us, (pk_un (by omega)).trans hR.1.2.2.2⟩, fun c' hc' => (pk_un (by omega)).trans (hR.2.1 c' hc'), fun c' hc' => (pk_un (by omega)).trans (hR.2.2.1 c' hc'), fun c' hc' => (pk_un (by omega)).trans (hR.2.2.2.1 c' hc'), fun c' p' hc' hp' => (pk_un (by omega)).trans (hR.2.2.2.2.1 c' p' hc' hp'), fun c' p' hc' hp' => (pk_un (by omega)).trans (hR.2.2.2.2.2.1 c' p' hc' hp'), fun k hk => ⟨(pk_un (by omega)).trans (hR.2.2.2.2.2.2.1 k hk).1, (pk_un (by omega)).trans (hR.2.2.2.2.2.2.1 k hk).2.1, (pk_un (by omega)).trans (hR.2.2.2.2.2.2.1 k hk).2.2.1, (pk_un (by omega)).trans (hR.2.2.2.2.2.2.1 k hk).2.2.2⟩, fun c' hc' => (pk_un (by omega)).trans (hR.2.2.2.2.2.2.2 c' hc')⟩
/-- a number behind the tickets that were drawn -/
theorem rr_t {r : Nat → Int32} {A : AL} (hR : RepR r A) {i : Nat} (v : Int32) (hi : 136 + 4 * aT A ≤ i) : RepR (upd r i v) A :=
  ⟨⟨(pk_un (by omega)).trans hR.1.1, (pk_un (by omega)).trans hR.1.2.1, (pk_un (by omega)).trans hR.1.2.2.1, (pk_un (by omega)).trans hR.1.2.2.2⟩, fun c' hc' => (pk_un (by omega)).trans (hR.2.1 c' hc'), fun c' hc' => (pk_un (by omega)).trans (hR.2.2.1 c' hc'), fun c' hc' => (pk_un (by omega)).trans (hR.2.2.2.1 c' hc'), fun c' p' hc' hp' => (pk_un (by omega)).trans (hR.2.2.2.2.1 c' p' hc' hp'), fun c' p' hc' hp' => (pk_un (by omega)).trans (hR.2.2.2.2.2.1 c' p' hc' hp'), fun k hk => ⟨(pk_un (by omega)).trans (hR.2.2.2.2.2.2.1 k hk).1, (pk_un (by omega)).trans (hR.2.2.2.2.2.2.1 k hk).2.1, (pk_un (by omega)).trans (hR.2.2.2.2.2.2.1 k hk).2.2.1, (pk_un (by omega)).trans (hR.2.2.2.2.2.2.1 k hk).2.2.2⟩, fun c' hc' => (pk_un (by omega)).trans (hR.2.2.2.2.2.2.2 c' hc')⟩
theorem aN_up (X : Nat → Nat × Nat × Int32 × Int64) (T : Nat) (x : Nat × Nat × Int32 × Int64) (c : Nat) : ∀ n, n ≤ T → aN (va_up X T x) c n = aN X c n
  | 0, _ => rfl
  | n + 1, h => by
    show aN (va_up X T x) c n + (if (va_up X T x n).1 = c then 1 else 0) = aN X c n + (if (X n).1 = c then 1 else 0)
    rw [aN_up X T x c n (by omega), show va_up X T x n = X n from if_neg (by omega)]
theorem aN_s (A : AL) (x : Nat × Nat × Int32 × Int64) (c : Nat) : aN (aX (sT A x)) c (aT (sT A x)) = aN (aX A) c (aT A) + (if x.1 = c then 1 else 0) := by
  show aN (va_up (aX A) (aT A) x) c (aT A) + (if (va_up (aX A) (aT A) x (aT A)).1 = c then 1 else 0) = _
  rw [aN_up _ _ _ _ _ (Nat.le_refl _), show va_up (aX A) (aT A) x (aT A) = x from if_pos rfl]
theorem rr_T {r : Nat → Int32} {A : AL} (hR : RepR r A) (hT : aT A ≤ 48) {a b : Nat} (ha : a < 6) {u : Int32} {e : Int64} (h6 : r (136 + 4 * aT A) = nI a) (h7 : r (137 + 4 * aT A) = nI b) (h8 : r (138 + 4 * aT A) = u) (h9 : r (139 + 4 * aT A) = e.toInt32) (w : Int32) : RepR (upd (upd (upd r (7 + 22 * a) (nI (aN (aX A) a (aT A) + 1))) (17 + 22 * a + 0) w) 3 (nI (aT A + 1))) (sW (sT A (a, b, u, e)) a 0 w) := by
  have un : ∀ i, i ≠ 7 + 22 * a → i ≠ 17 + 22 * a + 0 → i ≠ 3 → upd (upd (upd r (7 + 22 * a) (nI (aN (aX A) a (aT A) + 1))) (17 + 22 * a + 0) w) 3 (nI (aT A + 1)) i = r i := fun i h1 h2 h3 => by
    rw [pk_un h3, pk_un h2, pk_un h1]
  refine ⟨⟨(un _ (by omega) (by omega) (by omega)).trans hR.1.1, (un _ (by omega) (by omega) (by omega)).trans hR.1.2.1, (un _ (by omega) (by omega) (by omega)).trans hR.1.2.2.1, pk_us⟩, fun c' hc' => (un _ (by omega) (by omega) (by omega)).trans (hR.2.1 c' hc'), fun c' hc' => (un _ (by omega) (by omega) (by omega)).trans (hR.2.2.1 c' hc'), fun c' hc' => (un _ (by omega) (by omega) (by omega)).trans (hR.2.2.2.1 c' hc'), fun c' p' hc' hp' => (un _ (by omega) (by omega) (by omega)).trans (hR.2.2.2.2.1 c' p' hc' hp'), fun c' p' hc' hp' => ?_, fun k hk => ?_, fun c' hc' => ?_⟩
  · show _ = (if c' = a ∧ p' = 0 then w else aW A c' p')
    by_cases h : c' = a ∧ p' = 0
    · rw [if_pos h, h.1, h.2, pk_un (by omega)]
      exact pk_us
    · rw [if_neg h, un _ (by omega) (by omega) (by omega)]
      exact hR.2.2.2.2.2.1 c' p' hc' hp'
  · have hk2 : k < aT A + 1 := hk
    rw [un _ (by omega) (by omega) (by omega), un _ (by omega) (by omega) (by omega), un _ (by omega) (by omega) (by omega), un _ (by omega) (by omega) (by omega)]
    show r (136 + 4 * k) = nI (va_up (aX A) (aT A) (a, b, u, e) k).1 ∧ r (137 + 4 * k) = nI (va_up (aX A) (aT A) (a, b, u, e) k).2.1 ∧ r (138 + 4 * k) = (va_up (aX A) (aT A) (a, b, u, e) k).2.2.1 ∧ r (139 + 4 * k) = ((va_up (aX A) (aT A) (a, b, u, e) k).2.2.2).toInt32
    by_cases h : k = aT A
    · rw [show va_up (aX A) (aT A) (a, b, u, e) k = (a, b, u, e) from if_pos h, h]
      exact ⟨h6, h7, h8, h9⟩
    · rw [show va_up (aX A) (aT A) (a, b, u, e) k = aX A k from if_neg h]
      exact hR.2.2.2.2.2.2.1 k (by omega)
  · show _ = nI (aN (aX (sT A (a, b, u, e))) c' (aT (sT A (a, b, u, e))))
    rw [aN_s]
    by_cases h : c' = a
    · rw [h, if_pos rfl, pk_un (by omega), pk_un (by omega)]
      exact pk_us
    · rw [if_neg (fun h2 => h h2.symm), un _ (by omega) (by omega) (by omega), Nat.add_zero]
      exact hR.2.2.2.2.2.2.2 c' hc'
theorem rr_cong {r r' : Nat → Int32} {A : AL} (hR : RepR r A) (hT : aT A ≤ 49) (h : ∀ j, j < 336 → r' j = r j) : RepR r' A :=
  ⟨⟨(h _ (by omega)).trans hR.1.1, (h _ (by omega)).trans hR.1.2.1, (h _ (by omega)).trans hR.1.2.2.1, (h _ (by omega)).trans hR.1.2.2.2⟩, fun c' hc' => (h _ (by omega)).trans (hR.2.1 c' hc'), fun c' hc' => (h _ (by omega)).trans (hR.2.2.1 c' hc'), fun c' hc' => (h _ (by omega)).trans (hR.2.2.2.1 c' hc'), fun c' p' hc' hp' => (h _ (by omega)).trans (hR.2.2.2.2.1 c' p' hc' hp'), fun c' p' hc' hp' => (h _ (by omega)).trans (hR.2.2.2.2.2.1 c' p' hc' hp'), fun k hk => ⟨(h _ (by omega)).trans (hR.2.2.2.2.2.2.1 k hk).1, (h _ (by omega)).trans (hR.2.2.2.2.2.2.1 k hk).2.1, (h _ (by omega)).trans (hR.2.2.2.2.2.2.1 k hk).2.2.1, (h _ (by omega)).trans (hR.2.2.2.2.2.2.1 k hk).2.2.2⟩, fun c' hc' => (h _ (by omega)).trans (hR.2.2.2.2.2.2.2 c' hc')⟩
/-! The reference's writes. -/
theorem ad_loop {A : AL} (hO : Ok A) {c : Nat} (hc : c < 6) {s : Bool} {a : Nat} (ha : a < 100000) {Q : Int32 → (Nat → Int32) → Prop} (h : ∀ r', RepR r' (pd A s c a (aP A c)) → Q (nI (dsum a (aP A c))) r') : ∀ (m k n : Nat) (r : Nat → Int32), k + m = aP A c → m < n → RepR r (pd A s c a k) → wl_X4_addOn_17 (nI c) (sv s a) Q n r (nI (a / 3 ^ k)) (nI (dsum a k)) (nI k) := by
  have h9 := hO.p9 c
  have hl : ∀ k, a / 3 ^ k < 100000 := fun k => Nat.lt_of_le_of_lt (Nat.div_le_self _ _) ha
  intro m
  induction m with
  | zero =>
    intro k n r hk hn hR
    obtain ⟨n, rfl, -⟩ := fuel1 hn
    refine ok_at ?_
    rw [ix_z]
    refine ⟨i_in (by omega) (by decide), ?_⟩
    rw [i_cl (by omega), hR.2.1 c hc, pd_P, i_le (by omega) (by omega)]
    refine ⟨fun _ => ?_, fun h0 => absurd (by omega) h0⟩
    have e : k = aP A c := by omega
    rw [e] at hR ⊢
    exact h r hR
  | succ m ih =>
    intro k n r hk hn hR
    obtain ⟨n, rfl, hn⟩ := fuel1 hn
    refine ok_at ?_
    rw [ix_z]
    refine ⟨i_in (by omega) (by decide), ?_⟩
    rw [i_cl (by omega), hR.2.1 c hc, pd_P, i_le (by omega) (by omega)]
    refine ⟨fun h0 => absurd h0 (by omega), fun _ => ok_at ?_⟩
    have hk2 := hl k
    rw [ix_w, show (3 : Int32) = nI 3 from rfl, pk_rem (by omega) (by decide) (by decide), pk_div (by omega) (by decide) (by decide), nI_add, i_p1, Nat.div_div_eq_div_mul, ← Nat.pow_succ, i_cl (by omega), hR.2.2.2.2.2.1 c k hc (by omega)]
    have v1 : vp_in (nI (17 + 22 * c + k)) 336 := i_in (by omega) (by decide)
    refine ⟨v1, fun h0 => ⟨v1, ?_⟩, fun h0 => ⟨v1, ?_⟩⟩
    · intro y hy
      subst hy
      have e := sg_pos ha h0 k
      rw [Int32.one_mul] at e
      rw [e]
      exact ih (k + 1) n _ (by omega) (by omega) (rr_W hR hc (by omega) _ rfl)
    · intro y hy
      subst hy
      have e := sg_neg ha h0 k
      rw [← Int32.neg_eq_neg_one_mul] at e
      rw [e]
      exact ih (k + 1) n _ (by omega) (by omega) (rr_W hR hc (by omega) _ rfl)
theorem ok_addOn {r : Nat → Int32} {A : AL} (hR : RepR r A) (hO : Ok A) {c : Nat} (hc : c < 6) {s : Bool} {a : Nat} (ha : a < 100000) {Q : Int32 → (Nat → Int32) → Prop} (h : ∀ r', RepR r' (pd A s c a (aP A c)) → Q (nI (dsum a (aP A c))) r') : wp_X4_addOn r (nI c) (sv s a) Q := by
  have h9 := hO.p9 c
  have := ad_loop hO hc ha h (aP A c) 0 10 r (by omega) (by omega) hR
  rw [Nat.pow_zero, Nat.div_one] at this
  refine ⟨fun h0 => ⟨10, ?_⟩, fun h0 => ⟨10, ?_⟩⟩
  · have e := sv_absP ha h0
    rw [← e] at this
    exact this
  · have e := sv_absN ha h0
    rw [← e] at this
    exact this
theorem ok_drawOn {r : Nat → Int32} {A : AL} (hR : RepR r A) (hO : Ok A) {c : Nat} (hc : c < 6) (hT : aT A < 49) {Q : Int32 → (Nat → Int32) → Prop} (h : ∀ r', RepR r' (dr A c) → Q (nI (aR A c)) r') : wp_X4_drawOn r (nI c) Q := by
  intro y hy
  rw [z3, hR.1.2.2.2, ix_t] at hy
  subst hy
  refine ok_shownOn hR hO hc ?_
  rw [ix_t1, ix_t2, ix_t3, z2, z3, i_cl (by omega), i_cl (by omega), i_cl (by omega), i_cl (by omega)]
  refine ⟨i_in (by omega) (by decide), i_in (by omega) (by decide), i_in (by omega) (by decide), ?_⟩
  have R1 := rr_t hR (i := 136 + 4 * aT A) (nI c) (by omega)
  have R2 := rr_t R1 (i := 137 + 4 * aT A) (nI (aR A c)) (by omega)
  have e2 : upd (upd r (136 + 4 * aT A) (nI c)) (137 + 4 * aT A) (nI (aR A c)) 2 = aB A := R2.1.2.2.1
  rw [e2]
  have R3 := rr_t R2 (i := 138 + 4 * aT A) (aB A) (by omega)
  refine ok_worthOn R3 hO hc ?_
  have R4 := rr_t R3 (i := 139 + 4 * aT A) ((aV A c - (nI (aR A c)).toInt64).toInt32) (by omega)
  refine ⟨i_in (by omega) (by decide), ok_at ?_⟩
  rw [ix_e]
  refine ⟨i_in (by omega) (by decide), i_in (by omega) (by decide), ok_at ?_⟩
  rw [ix_w0, i_cl (by omega), i_cl (by omega), R4.2.2.2.2.2.2.2 c hc, i_p1]
  refine ⟨i_in (by omega) (by decide), i_in (by omega) (by decide), ?_⟩
  have eW : upd (upd (upd (upd (upd r (136 + 4 * aT A) (nI c)) (137 + 4 * aT A) (nI (aR A c))) (138 + 4 * aT A) (aB A)) (139 + 4 * aT A) ((aV A c - (nI (aR A c)).toInt64).toInt32)) (7 + 22 * c) (nI (aN (aX A) c (aT A) + 1)) (17 + 22 * c + 0) = aW A c 0 := by
    rw [pk_un (by omega)]
    exact R4.2.2.2.2.2.1 c 0 hc (by omega)
  rw [eW]
  have e3 : upd (upd (upd (upd (upd (upd r (136 + 4 * aT A) (nI c)) (137 + 4 * aT A) (nI (aR A c))) (138 + 4 * aT A) (aB A)) (139 + 4 * aT A) ((aV A c - (nI (aR A c)).toInt64).toInt32)) (7 + 22 * c) (nI (aN (aX A) c (aT A) + 1))) (17 + 22 * c + 0) (aW A c 0 + 1) 3 = nI (aT A) := by
    rw [pk_un (by omega), pk_un (by omega)]
    exact R4.1.2.2.2
  rw [e3, i_p1]
  refine h _ (rr_T R4 (by omega) hc ?_ ?_ ?_ ?_ _)
  · rw [pk_un (by omega), pk_un (by omega), pk_un (by omega)]
    exact pk_us
  · rw [pk_un (by omega), pk_un (by omega)]
    exact pk_us
  · rw [pk_un (by omega)]
    exact pk_us
  · exact pk_us
theorem lo_loop {r : Nat → Int32} {A : AL} (hR : RepR r A) (hO : Ok A) {Q : Int32 → (Nat → Int32) → Prop} : ∀ (m k n : Nat), k + m = aC A → m < n → Q (nI (aKn A)) r → wl_X4_linkOn_22 r Q n (nI (cnt (aK A) k)) (nI k) := by
  have hC := hO.1.2
  intro m
  induction m with
  | zero =>
    intro k n hk hn h
    obtain ⟨n, rfl, -⟩ := fuel1 hn
    refine ⟨fun _ => ?_, fun h0 => absurd ?_ h0⟩
    · rw [show k = aC A by omega]
      exact h
    · rw [z0, hR.1.1, i_le (by omega) (by omega)]
      omega
  | succ m ih =>
    intro k n hk hn h
    obtain ⟨n, rfl, hn⟩ := fuel1 hn
    refine ⟨fun h0 => ?_, fun _ => ok_at ?_⟩
    · rw [z0, hR.1.1, i_le (by omega) (by omega)] at h0
      omega
    · rw [ix_k]
      refine ⟨i_in (by omega) (by decide), ?_⟩
      intro y hy
      rw [i_cl (by omega), hR.2.2.1 k (by omega)] at hy
      rw [i_p1]
      have h1 := ih (k + 1) n (by omega) (by omega) h
      by_cases hk : aK A k = true
      · rw [if_pos hk, i_p1] at hy
        rw [cnt_t hk] at h1
        rw [hy]
        exact h1
      · rw [if_neg hk, ix_z] at hy
        rw [cnt_f hk] at h1
        rw [hy]
        exact h1
theorem ok_linkOn {r : Nat → Int32} {A : AL} (hR : RepR r A) (hO : Ok A) {c : Nat} (hc : c + 1 < aC A) {x : Int32} {b : Bool} (h1 : x = 0 → b = false) (h2 : ¬ x = 0 → b = true) {Q : Int32 → (Nat → Int32) → Prop} (h : ∀ r', RepR r' (sK A c b) → Q (nI (aKn (sK A c b))) r') : wp_X4_linkOn r (nI c) x Q := by
  have hC := hO.1.2
  refine ok_at ?_
  rw [ix_k, i_cl (by omega)]
  have v1 : vp_in (nI (5 + 22 * c)) 336 := i_in (by omega) (by decide)
  have hO2 := ok_K hO hc b
  refine ⟨fun e => ⟨v1, 7, ?_⟩, fun e => ⟨v1, 7, ?_⟩⟩
  · have R2 := rr_K hR (c := c) (by omega) b (x := 0) (by rw [h1 e]; rfl) rfl
    exact lo_loop R2 hO2 (aC A) 0 7 (Nat.zero_add _) (by omega) (h _ R2)
  · have R2 := rr_K hR (c := c) (by omega) b (x := 1) (by rw [h2 e]; rfl) rfl
    exact lo_loop R2 hO2 (aC A) 0 7 (Nat.zero_add _) (by omega) (h _ R2)
theorem po_loop {A : AL} (hO : Ok A) {c d : Nat} (hc : c < 6) (hd : d < 6) (hcd : c ≠ d) {z : Int64} {Q : Int64 → (Nat → Int32) → Prop} (h : ∀ r', RepR r' (pr A c d (aP A c)) → Q (aV (pr A c d (aP A c)) d - z) r') : ∀ (m k n : Nat) (r : Nat → Int32), k + m = aP A c → m < n → RepR r (pr A c d k) → wl_X4_pourOn_9 (nI c) (nI d) z Q n r (nI k) := by
  have h9 := hO.p9 c
  have h9d := hO.p9 d
  intro m
  induction m with
  | zero =>
    intro k n r hk hn hR
    obtain ⟨n, rfl, -⟩ := fuel1 hn
    refine ok_at ?_
    rw [ix_z]
    refine ⟨i_in (by omega) (by decide), ?_⟩
    rw [i_cl (by omega), hR.2.1 c hc, (pr_fr A c d k).2.1, i_le (by omega) (by omega)]
    refine ⟨fun _ => ?_, fun h0 => absurd (by omega) h0⟩
    have e : k = aP A c := by omega
    rw [e] at hR
    exact ok_worthOn hR (pr_ok hO c d _ (Nat.le_refl _)) hd (h r hR)
  | succ m ih =>
    intro k n r hk hn hR
    obtain ⟨n, rfl, hn⟩ := fuel1 hn
    refine ok_at ?_
    rw [ix_z]
    refine ⟨i_in (by omega) (by decide), ?_⟩
    rw [i_cl (by omega), hR.2.1 c hc, (pr_fr A c d k).2.1, i_le (by omega) (by omega)]
    refine ⟨fun h0 => absurd h0 (by omega), fun _ => ok_at ?_⟩
    have v1 : vp_in (nI (8 + 22 * c + k)) 336 := i_in (by omega) (by decide)
    have v2 : vp_in (nI (17 + 22 * c + k)) 336 := i_in (by omega) (by decide)
    rw [ix_d]
    refine ⟨v1, ok_at ?_⟩
    rw [ix_w]
    refine ⟨v2, ?_⟩
    intro y hy
    rw [i_cl (by omega), i_cl (by omega), hR.2.2.2.2.1 c k hc (by omega), hR.2.2.2.2.2.1 c k hc (by omega)] at hy
    refine ok_at ?_
    rw [ix_d]
    refine ⟨v1, ok_at ?_⟩
    rw [ix_w]
    refine ⟨v2, ok_at ?_⟩
    rw [ix_z, i_cl (n := 8 + 22 * c + k) (by omega), i_cl (n := 17 + 22 * c + k) (by omega), i_cl (n := 4 + 22 * d) (by omega)]
    have R8 : RepR (upd r (8 + 22 * c + k) 0) (sD (pr A c d k) c k 0) := rr_D hR hc (by omega) 0 rfl
    have R13 := rr_W R8 (c := c) (p := k) hc (by omega) 0 rfl
    have eP : aP (sW (sD (pr A c d k) c k 0) c k 0) d = aP A d := congrFun (pr_fr A c d k).2.1 d
    rw [R13.2.1 d hd, eP, i_le (by omega) (by omega)]
    have es : pr A c d (k + 1) = (if k < aP A d then sW (sW (sD (pr A c d k) c k 0) c k 0) d k (aW (sW (sD (pr A c d k) c k 0) c k 0) d k + y) else sS (sW (sD (pr A c d k) c k 0) c k 0) d (aS (sW (sD (pr A c d k) c k 0) c k 0) d + y)) := by
      show ps (pr A c d k) c d k = _
      unfold ps
      simp only []
      rw [(pr_fr A c d k).2.1, hy]
    refine ⟨i_in (by omega) (by decide), fun h0 => ok_at ?_, fun h0 => ok_at ?_⟩
    · rw [ix_s, i_p1, i_cl (by omega), R13.2.2.2.1 d hd]
      refine ⟨i_in (by omega) (by decide), i_in (by omega) (by decide), ?_⟩
      refine ih (k + 1) n _ (by omega) (by omega) ?_
      rw [es, if_neg (by omega)]
      exact rr_S R13 hd _ rfl
    · rw [ix_w, i_p1, i_cl (n := 17 + 22 * d + k) (by omega), R13.2.2.2.2.2.1 d k hd (by omega)]
      refine ⟨i_in (by omega) (by decide), i_in (by omega) (by decide), ?_⟩
      refine ih (k + 1) n _ (by omega) (by omega) ?_
      rw [es, if_pos (by omega)]
      exact rr_W R13 hd (by omega) _ rfl
theorem ok_pourOn {r : Nat → Int32} {A : AL} (hR : RepR r A) (hO : Ok A) {c d : Nat} (hc : c < 6) (hd : d < 6) (hcd : c ≠ d) {Q : Int64 → (Nat → Int32) → Prop} (h : ∀ r', RepR r' (pr A c d (aP A c)) → Q (aV (pr A c d (aP A c)) d - aV A d) r') : wp_X4_pourOn r (nI c) (nI d) Q := by
  have h9 := hO.p9 c
  exact ok_worthOn hR hO hd ⟨10, po_loop hO hc hd hcd h (aP A c) 0 10 r (by omega) (by omega) hR⟩
theorem cl_loop {nf nt a b : Nat} (ha : a + 336 ≤ nf) (hb : b + 336 ≤ nt) (hnf : nf < 100000) (hnt : nt < 100000) {F : Nat → Int32} {Q : (Nat → Int32) → Prop} {G0 : Nat → Int32} (h : ∀ G', (∀ j, j < 336 → G' (b + j) = F (a + j)) → (∀ i, (i < b ∨ b + 336 ≤ i) → G' i = G0 i) → Q G') : ∀ (m k n : Nat) (G : Nat → Int32), k + m = 336 → m < n → (∀ j, j < k → G (b + j) = F (a + j)) → (∀ i, (i < b ∨ b + 336 ≤ i) → G i = G0 i) → wl_X4_copyLine_3 nf nt F (nI a) (nI b) Q n G (nI k) := by
  intro m
  induction m with
  | zero =>
    intro k n G hk hn h1 h2
    obtain ⟨n, rfl, -⟩ := fuel1 hn
    rw [show k = 336 by omega] at h1 ⊢
    exact ⟨fun _ => h G h1 h2, fun h0 => absurd (show (336 : Int32) ≤ nI 336 by decide) h0⟩
  | succ m ih =>
    intro k n G hk hn h1 h2
    obtain ⟨n, rfl, hn⟩ := fuel1 hn
    refine ⟨fun h0 => ?_, fun _ => ?_⟩
    · rw [show (336 : Int32) = nI 336 from rfl, i_le (by omega) (by omega)] at h0
      omega
    · rw [nI_add, nI_add, i_p1, nI_clamp (by omega), nI_clamp (by omega)]
      refine ⟨vp_in_nI (by omega) (by omega), vp_in_nI (by omega) (by omega), ?_⟩
      refine ih (k + 1) n _ (by omega) (by omega) (fun j hj => ?_) (fun i hi => ?_)
      · by_cases e : j = k
        · rw [e]
          exact pk_us
        · rw [pk_un (by omega)]
          exact h1 j (by omega)
      · rw [pk_un (by omega)]
        exact h2 i hi
theorem ok_copyLine {nf nt a b : Nat} (ha : a + 336 ≤ nf) (hb : b + 336 ≤ nt) (hnf : nf < 100000) (hnt : nt < 100000) {F G : Nat → Int32} {Q : (Nat → Int32) → Prop} (h : ∀ G', (∀ j, j < 336 → G' (b + j) = F (a + j)) → (∀ i, (i < b ∨ b + 336 ≤ i) → G' i = G i) → Q G') : wp_X4_copyLine nf nt F G (nI a) (nI b) Q :=
  ⟨337, cl_loop ha hb hnf hnt h 336 0 337 G (by omega) (by omega) (fun j hj => absurd hj (by omega)) (fun _ _ => rfl)⟩

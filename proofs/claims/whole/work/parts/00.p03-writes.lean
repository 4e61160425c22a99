/-! Lines that are changed at one place, and how the class's line follows. -/
def up2 {α : Type} (f : Nat → Nat → α) (c p : Nat) (v : α) : Nat → Nat → α := fun x y => if x = c ∧ y = p then v else f x y
theorem up2_s {α : Type} {f : Nat → Nat → α} {c p : Nat} {v : α} : up2 f c p v c p = v := if_pos ⟨rfl, rfl⟩
theorem up2_n {α : Type} {f : Nat → Nat → α} {c p x y : Nat} {v : α} (h : ¬ (x = c ∧ y = p)) : up2 f c p v x y = f x y := if_neg h
def sW (A : AL) (c p : Nat) (v : Int32) : AL := (A.1, A.2.1, A.2.2.1, A.2.2.2.1, A.2.2.2.2.1, up2 (aW A) c p v, A.2.2.2.2.2.2)
def sD (A : AL) (c p : Nat) (v : Nat) : AL := (A.1, A.2.1, A.2.2.1, A.2.2.2.1, up2 (aD A) c p v, A.2.2.2.2.2)
def sS (A : AL) (c : Nat) (v : Int32) : AL := (A.1, A.2.1, A.2.2.1, va_up (aS A) c v, A.2.2.2.2)
def sP (A : AL) (c : Nat) (v : Nat) : AL := (A.1, va_up (aP A) c v, A.2.2)
def sK (A : AL) (c : Nat) (b : Bool) : AL := (A.1, A.2.1, va_up (aK A) c b, A.2.2.2)
def sG (A : AL) (g : Nat) : AL := ((A.1.1, g, A.1.2.2), A.2)
def sB (A : AL) (b : Int32) : AL := ((A.1.1, A.1.2.1, b, A.1.2.2.2), A.2)
def sT (A : AL) (x : Nat × Nat × Int32 × Int64) : AL := ((A.1.1, A.1.2.1, A.1.2.2.1, aT A + 1), A.2.1, A.2.2.1, A.2.2.2.1, A.2.2.2.2.1, A.2.2.2.2.2.1, va_up (aX A) (aT A) x)
theorem rep_W {L : LnS} {A : AL} (hR : RepL L A) {c p i : Nat} (hp : p < 9) (v : Int32) (hi : i = 9 * c + p) : RepL (lsR L 5 (upd (L.1 5) i v)) (sW A c p v) := by
  subst hi
  refine ⟨hR.1, hR.2.1, hR.2.2.1, hR.2.2.2.1, hR.2.2.2.2.1, fun c' p' hc' hp' => ?_, hR.2.2.2.2.2.2⟩
  show upd (L.1 5) (9 * c + p) v (9 * c' + p') = (if c' = c ∧ p' = p then v else aW A c' p')
  by_cases h : c' = c ∧ p' = p
  · rw [if_pos h, h.1, h.2]
    exact pk_us
  · rw [if_neg h, pk_un (by omega)]
    exact hR.2.2.2.2.2.1 c' p' hc' hp'
theorem rep_D {L : LnS} {A : AL} (hR : RepL L A) {c p i : Nat} (hp : p < 9) (v : Nat) (hi : i = 9 * c + p) : RepL (lsR L 4 (upd (L.1 4) i (nI v))) (sD A c p v) := by
  subst hi
  refine ⟨hR.1, hR.2.1, hR.2.2.1, hR.2.2.2.1, fun c' p' hc' hp' => ?_, hR.2.2.2.2.2.1, hR.2.2.2.2.2.2⟩
  show upd (L.1 4) (9 * c + p) (nI v) (9 * c' + p') = nI (if c' = c ∧ p' = p then v else aD A c' p')
  by_cases h : c' = c ∧ p' = p
  · rw [if_pos h, h.1, h.2]
    exact pk_us
  · rw [if_neg h, pk_un (by omega)]
    exact hR.2.2.2.2.1 c' p' hc' hp'
theorem rep_S {L : LnS} {A : AL} (hR : RepL L A) (c : Nat) (v : Int32) : RepL (lsR L 3 (upd (L.1 3) c v)) (sS A c v) := by
  refine ⟨hR.1, hR.2.1, hR.2.2.1, fun c' hc' => ?_, hR.2.2.2.2.1, hR.2.2.2.2.2.1, hR.2.2.2.2.2.2⟩
  show upd (L.1 3) c v c' = (if c' = c then v else aS A c')
  by_cases h : c' = c
  · rw [if_pos h, h]
    exact pk_us
  · rw [if_neg h, pk_un h]
    exact hR.2.2.2.1 c' hc'
theorem rep_P {L : LnS} {A : AL} (hR : RepL L A) (c : Nat) (v : Nat) : RepL (lsR L 1 (upd (L.1 1) c (nI v))) (sP A c v) := by
  refine ⟨hR.1, fun c' hc' => ?_, hR.2.2.1, hR.2.2.2.1, hR.2.2.2.2.1, hR.2.2.2.2.2.1, hR.2.2.2.2.2.2⟩
  show upd (L.1 1) c (nI v) c' = nI (if c' = c then v else aP A c')
  by_cases h : c' = c
  · rw [if_pos h, h]
    exact pk_us
  · rw [if_neg h, pk_un h]
    exact hR.2.1 c' hc'
theorem rep_K {L : LnS} {A : AL} (hR : RepL L A) (c : Nat) (b : Bool) {x : Int32} (hx : x = if b = true then 1 else 0) : RepL (lsR L 2 (upd (L.1 2) c x)) (sK A c b) := by
  refine ⟨hR.1, hR.2.1, fun c' hc' => ?_, hR.2.2.2.1, hR.2.2.2.2.1, hR.2.2.2.2.2.1, hR.2.2.2.2.2.2⟩
  show upd (L.1 2) c x c' = if (if c' = c then b else aK A c') = true then 1 else 0
  by_cases h : c' = c
  · rw [if_pos h, h, ← hx]
    exact pk_us
  · rw [if_neg h, pk_un h]
    exact hR.2.2.1 c' hc'
theorem rep_G {L : LnS} {A : AL} (hR : RepL L A) (g : Nat) : RepL (lsS L 0 1 (nI g)) (sG A g) :=
  ⟨⟨hR.1.1, rfl, hR.1.2.2.1, hR.1.2.2.2⟩, hR.2⟩
theorem rep_B {L : LnS} {A : AL} (hR : RepL L A) (b : Int32) : RepL (lsS L 0 2 b) (sB A b) :=
  ⟨⟨hR.1.1, hR.1.2.1, rfl, hR.1.2.2.2⟩, hR.2⟩
theorem rep_t6 {L : LnS} {A : AL} (hR : RepL L A) (v : Int32) : RepL (lsR L 6 (upd (L.1 6) (aT A) v)) A :=
  ⟨hR.1, hR.2.1, hR.2.2.1, hR.2.2.2.1, hR.2.2.2.2.1, hR.2.2.2.2.2.1, fun k hk => ⟨(pk_un (by omega)).trans (hR.2.2.2.2.2.2 k hk).1, (hR.2.2.2.2.2.2 k hk).2⟩⟩
theorem rep_t7 {L : LnS} {A : AL} (hR : RepL L A) (v : Int32) : RepL (lsR L 7 (upd (L.1 7) (aT A) v)) A :=
  ⟨hR.1, hR.2.1, hR.2.2.1, hR.2.2.2.1, hR.2.2.2.2.1, hR.2.2.2.2.2.1, fun k hk => ⟨(hR.2.2.2.2.2.2 k hk).1, (pk_un (by omega)).trans (hR.2.2.2.2.2.2 k hk).2.1, (hR.2.2.2.2.2.2 k hk).2.2⟩⟩
theorem rep_t8 {L : LnS} {A : AL} (hR : RepL L A) (v : Int32) : RepL (lsR L 8 (upd (L.1 8) (aT A) v)) A :=
  ⟨hR.1, hR.2.1, hR.2.2.1, hR.2.2.2.1, hR.2.2.2.2.1, hR.2.2.2.2.2.1, fun k hk => ⟨(hR.2.2.2.2.2.2 k hk).1, (hR.2.2.2.2.2.2 k hk).2.1, (pk_un (by omega)).trans (hR.2.2.2.2.2.2 k hk).2.2.1, (hR.2.2.2.2.2.2 k hk).2.2.2⟩⟩
theorem rep_T {L : LnS} {A : AL} (hR : RepL L A) {a b : Nat} {u : Int32} (e : Int64) (h6 : L.1 6 (aT A) = nI a) (h7 : L.1 7 (aT A) = nI b) (h8 : L.1 8 (aT A) = u) : RepL (lsS (lsX L (vp_updL L.2 (aT A) e)) 0 3 (nI (aT A + 1))) (sT A (a, b, u, e)) := by
  refine ⟨⟨hR.1.1, hR.1.2.1, hR.1.2.2.1, rfl⟩, hR.2.1, hR.2.2.1, hR.2.2.2.1, hR.2.2.2.2.1, hR.2.2.2.2.2.1, fun k hk => ?_⟩
  have hk2 : k < aT A + 1 := hk
  show L.1 6 k = nI (va_up (aX A) (aT A) (a, b, u, e) k).1 ∧ L.1 7 k = nI (va_up (aX A) (aT A) (a, b, u, e) k).2.1 ∧ L.1 8 k = (va_up (aX A) (aT A) (a, b, u, e) k).2.2.1 ∧ (if k = aT A then e else L.2 k) = (va_up (aX A) (aT A) (a, b, u, e) k).2.2.2
  unfold va_up
  by_cases h : k = aT A
  · simp only [if_pos h]
    rw [h]
    exact ⟨h6, h7, h8, trivial⟩
  · simp only [if_neg h]
    exact hR.2.2.2.2.2.2 k (by omega)
theorem ok_W {A : AL} (h : Ok A) {c p : Nat} (hp : p < aP A c) (v : Int32) : Ok (sW A c p v) := by
  refine ⟨h.1, h.2.1, h.2.2.1, h.2.2.2.1, h.2.2.2.2.1, h.2.2.2.2.2.1, h.2.2.2.2.2.2.1, fun c' p' hp' => ?_, h.2.2.2.2.2.2.2.2⟩
  have hp2 : aP A c' ≤ p' := hp'
  refine ⟨(h.2.2.2.2.2.2.2.1 c' p' hp').1, ?_⟩
  show (if c' = c ∧ p' = p then v else aW A c' p') = 0
  rw [if_neg (by rintro ⟨rfl, rfl⟩; omega)]
  exact (h.2.2.2.2.2.2.2.1 c' p' hp').2
theorem ok_D {A : AL} (h : Ok A) {c p : Nat} (hp : p < aP A c) {v : Nat} (hv : v ≤ 2) : Ok (sD A c p v) := by
  refine ⟨h.1, h.2.1, h.2.2.1, h.2.2.2.1, h.2.2.2.2.1, h.2.2.2.2.2.1, fun c' p' => ?_, fun c' p' hp' => ?_, h.2.2.2.2.2.2.2.2⟩
  · show (if c' = c ∧ p' = p then v else aD A c' p') ≤ 2
    split
    · exact hv
    · exact h.2.2.2.2.2.2.1 c' p'
  · have hp2 : aP A c' ≤ p' := hp'
    refine ⟨?_, (h.2.2.2.2.2.2.2.1 c' p' hp').2⟩
    show (if c' = c ∧ p' = p then v else aD A c' p') = 0
    rw [if_neg (by rintro ⟨rfl, rfl⟩; omega)]
    exact (h.2.2.2.2.2.2.2.1 c' p' hp').1
theorem ok_S {A : AL} (h : Ok A) (c : Nat) (v : Int32) : Ok (sS A c v) := h
theorem ok_B {A : AL} (h : Ok A) (b : Int32) : Ok (sB A b) := h
theorem ok_G {A : AL} (h : Ok A) {g : Nat} (hg : 1 ≤ g ∧ g ≤ 9) : Ok (sG A g) := ⟨h.1, hg, h.2.2⟩
theorem ok_K {A : AL} (h : Ok A) {c : Nat} (hc : c + 1 < aC A) (b : Bool) : Ok (sK A c b) := by
  refine ⟨h.1, h.2.1, h.2.2.1, h.2.2.2.1, h.2.2.2.2.1, fun c' hc' => ?_, h.2.2.2.2.2.2⟩
  have h2 : (if c' = c then b else aK A c') = true := hc'
  by_cases e : c' = c
  · rw [e]
    exact hc
  · rw [if_neg e] at h2
    exact h.2.2.2.2.2.1 c' h2
theorem ok_T {A : AL} (h : Ok A) (hT : aT A < 49) {x : Nat × Nat × Int32 × Int64} (h1 : x.1 < 6) (h2 : x.2.1 < 19683) : Ok (sT A x) := by
  refine ⟨h.1, h.2.1, hT, h.2.2.2.1, h.2.2.2.2.1, h.2.2.2.2.2.1, h.2.2.2.2.2.2.1, h.2.2.2.2.2.2.2.1, fun k hk => ?_⟩
  have hk2 : k < aT A + 1 := hk
  show (va_up (aX A) (aT A) x k).1 < 6 ∧ (va_up (aX A) (aT A) x k).2.1 < 19683
  unfold va_up
  by_cases e : k = aT A
  · simp only [if_pos e]
    exact ⟨h1, h2⟩
  · simp only [if_neg e]
    exact h.2.2.2.2.2.2.2.2 k (by omega)
/-! Digits that come to wait. -/
def pd (A : AL) (s : Bool) (c a : Nat) : Nat → AL
  | 0 => A
  | k + 1 => sW (pd A s c a k) c k (aW (pd A s c a k) c k + sv s (a / 3 ^ k % 3))
theorem pd_fr (A : AL) (s : Bool) (c a : Nat) : ∀ k, (pd A s c a k).1 = A.1 ∧ (pd A s c a k).2.1 = A.2.1 ∧ (pd A s c a k).2.2.1 = A.2.2.1 ∧ (pd A s c a k).2.2.2.1 = A.2.2.2.1 ∧ (pd A s c a k).2.2.2.2.1 = A.2.2.2.2.1 ∧ (pd A s c a k).2.2.2.2.2.2 = A.2.2.2.2.2.2
  | 0 => ⟨rfl, rfl, rfl, rfl, rfl, rfl⟩
  | k + 1 => pd_fr A s c a k
theorem pd_P (A : AL) (s : Bool) (c a k : Nat) : aP (pd A s c a k) = aP A := (pd_fr A s c a k).2.1
theorem pd_ok {A : AL} (hO : Ok A) (s : Bool) (c a : Nat) : ∀ k, k ≤ aP A c → Ok (pd A s c a k)
  | 0, _ => hO
  | k + 1, h => ok_W (pd_ok hO s c a k (by omega)) (by rw [pd_P]; omega) _
def dsum (a : Nat) (n : Nat) : Nat := sm (fun p => a / 3 ^ p % 3) n
theorem pd_loop {A : AL} (hO : Ok A) {c : Nat} (hc : c < 6) {s : Bool} {a : Nat} (ha : a < 100000) {sg : Int32} (hs : ∀ k, sg * nI (a / 3 ^ k % 3) = sv s (a / 3 ^ k % 3)) {Q : Int32 → LnS → Prop} (h : ∀ L', RepL L' (pd A s c a (aP A c)) → Q (nI (dsum a (aP A c))) L') : ∀ (m k n : Nat) (L : LnS), k + m = aP A c → m < n → RepL L (pd A s c a k) → wl_X1_putDigits_22 (nI c) sg Q n L (nI (a / 3 ^ k)) (nI (dsum a k)) (nI k) := by
  have h9 := hO.p9 c
  have hl : ∀ k, a / 3 ^ k < 100000 := fun k => Nat.lt_of_le_of_lt (Nat.div_le_self _ _) ha
  intro m
  induction m with
  | zero =>
    intro k n L hk hn hR
    obtain ⟨n, rfl, -⟩ := fuel1 hn
    refine ⟨i_in hc (by decide), ?_⟩
    rw [i_cl (by omega), hR.2.1 c hc, pd_P, i_le (by omega) (by omega)]
    refine ⟨fun _ => ?_, fun h0 => absurd (by omega) h0⟩
    have e : k = aP A c := by omega
    rw [e] at hR ⊢
    exact h L hR
  | succ m ih =>
    intro k n L hk hn hR
    obtain ⟨n, rfl, hn⟩ := fuel1 hn
    refine ⟨i_in hc (by decide), ?_⟩
    rw [i_cl (by omega), hR.2.1 c hc, pd_P, i_le (by omega) (by omega)]
    refine ⟨fun h0 => absurd h0 (by omega), fun _ => ok_cellOf ⟨i_in (by omega) (by decide), i_in (by omega) (by decide), ?_⟩⟩
    intro y hy
    have hk2 := hl k
    rw [show (3 : Int32) = nI 3 from rfl, pk_rem (by omega) (by decide) (by decide), nI_add] at hy
    subst hy
    rw [show (3 : Int32) = nI 3 from rfl, pk_rem (by omega) (by decide) (by decide), pk_div (by omega) (by decide) (by decide), i_p1, Nat.div_div_eq_div_mul, ← Nat.pow_succ, i_cl (by omega), hR.2.2.2.2.2.1 c k hc (by omega), hs]
    exact ih (k + 1) n _ (by omega) (by omega) (rep_W hR (by omega) _ rfl)
theorem sv_nn {s : Bool} {a : Nat} (ha : a < 100000) (h : 0 ≤ sv s a) : s = false ∨ a = 0 := by
  have h1 := sv_toInt (s := s) ha
  have h2 : (0 ≤ sv s a) ↔ 0 ≤ (sv s a).toInt := Int32.le_iff_toInt_le
  rw [h2, h1] at h
  cases s
  · exact Or.inl rfl
  · simp at h
    exact Or.inr h
theorem sv_ng {s : Bool} {a : Nat} (ha : a < 100000) (h : ¬ 0 ≤ sv s a) : s = true := by
  have h1 := sv_toInt (s := s) ha
  have h2 : (0 ≤ sv s a) ↔ 0 ≤ (sv s a).toInt := Int32.le_iff_toInt_le
  rw [h2, h1] at h
  cases s
  · simp at h
  · rfl
theorem sg_pos {s : Bool} {a : Nat} (ha : a < 100000) (h : 0 ≤ sv s a) (k : Nat) : (1 : Int32) * nI (a / 3 ^ k % 3) = sv s (a / 3 ^ k % 3) := by
  rcases sv_nn ha h with rfl | rfl
  · rw [Int32.one_mul]
    rfl
  · rw [Nat.zero_div, Nat.zero_mod, Int32.one_mul]
    cases s <;> decide
theorem sg_neg {s : Bool} {a : Nat} (ha : a < 100000) (h : ¬ 0 ≤ sv s a) (k : Nat) : (-1 : Int32) * nI (a / 3 ^ k % 3) = sv s (a / 3 ^ k % 3) := by
  rw [sv_ng ha h, ← Int32.neg_eq_neg_one_mul]
  rfl
theorem ok_putDigits {L : LnS} {A : AL} (hR : RepL L A) (hO : Ok A) {c : Nat} (hc : c < 6) {s : Bool} {a : Nat} (ha : a < 100000) {Q : Int32 → LnS → Prop} (h : ∀ L', RepL L' (pd A s c a (aP A c)) → Q (nI (dsum a (aP A c))) L') : wp_X1_putDigits L (nI c) (sv s a) Q := by
  have h9 := hO.p9 c
  unfold wp_X1_putDigits
  rw [sv_abs ha]
  refine ⟨fun h0 => ⟨10, ?_⟩, fun h0 => ⟨10, ?_⟩⟩
  · have := pd_loop hO hc ha (sg_pos ha h0) h (aP A c) 0 10 L (by omega) (by omega) hR
    rwa [Nat.pow_zero, Nat.div_one] at this
  · have := pd_loop hO hc ha (sg_neg ha h0) h (aP A c) 0 10 L (by omega) (by omega) hR
    rwa [Nat.pow_zero, Nat.div_one] at this
theorem ok_tryPutDigits {L : LnS} {A : AL} (hR : RepL L A) (hO : Ok A) {x : Int32} {s : Bool} {a : Nat} (ha : a < 100000) {Q : Int32 → LnS → Prop} (h0 : (x < 0 ∨ nI (aC A) ≤ x) → Q 0 L) (h1 : ∀ c, c < aC A → x = nI c → ¬ fitN A c a = true → Q 0 L) (h2 : ∀ c, c < aC A → x = nI c → fitN A c a = true → ∀ L', RepL L' (pd A s c a (aP A c)) → Q 1 L') : wp_X1_tryPutDigits L x (sv s a) Q := by
  refine ok_hasCounter hR hO (fun h => ⟨fun _ => h0 h, fun e => absurd rfl e⟩) (fun c hc hx => ⟨fun e => absurd e (by decide), fun _ => ?_⟩)
  subst hx
  have h6 := hO.c6 hc
  refine ok_hasPlacesFor hR hO h6 ha ?_
  rw [bool_ite]
  refine ⟨fun e => h1 c hc rfl e, fun e => ok_putDigits hR hO h6 ha (fun L' hL' => h2 c hc rfl (Classical.not_not.mp e) L' hL')⟩
/-! A ticket is drawn. -/
def dr (A : AL) (c : Nat) : AL := sW (sT A (c, aR A c, aB A, aV A c - (nI (aR A c)).toInt64)) c 0 (aW A c 0 + 1)
theorem dr_ok {A : AL} (hO : Ok A) {c : Nat} (hc : c < aC A) (hT : aT A < 49) : Ok (dr A c) :=
  ok_W (ok_T hO hT (hO.c6 hc) (aR_lt hO c)) ((hO.2.2.2.2.1 c).1 hc) _
theorem ok_drawFrom {L : LnS} {A : AL} (hR : RepL L A) (hO : Ok A) {c : Nat} (hc : c < 6) (hT : aT A < 49) {Q : Int32 → LnS → Prop} (h : ∀ L', RepL L' (dr A c) → Q (nI (aR A c)) L') : wp_X1_drawFrom L (nI c) Q := by
  refine ok_reading hR hO hc ?_
  rw [hR.1.2.2.2, show (49 : Int32) = nI 49 from rfl, i_le (by omega) (by omega), i_cl (by omega)]
  have v49 : vp_in (nI (aT A)) 49 := i_in hT (by decide)
  refine ⟨fun h0 => absurd h0 (by omega), fun _ => ⟨v49, ?_⟩⟩
  intro L7 h7
  have R7 : RepL L7 A := h7 ▸ rep_t6 hR _
  refine ⟨v49, ?_⟩
  intro L9 h9
  have R9 : RepL L9 A := h9 ▸ rep_t7 R7 _
  rw [R7.1.2.2.2, i_cl (by omega)]
  refine ⟨v49, ok_fullReading (rep_t8 R9 _) hO hc ?_⟩
  intro L12 h12
  have R12 : RepL L12 A := h12 ▸ rep_t8 R9 _
  have e6 : L12.1 6 (aT A) = nI c := by
    rw [h12, h9, h7]
    exact pk_us
  have e7 : L12.1 7 (aT A) = nI (aR A c) := by
    rw [h12, h9]
    exact pk_us
  have e8 : L12.1 8 (aT A) = aB A := by
    rw [h12, ← R7.1.2.2.1]
    exact pk_us
  rw [R9.1.2.2.2, i_cl (by omega)]
  refine ⟨v49, ok_cellOf (p := 0) ⟨i_in (by omega) (by decide), ?_⟩⟩
  intro L16 h16
  rw [R12.1.2.2.2, i_p1] at h16
  have R16 : RepL L16 (sT A (c, aR A c, aB A, aV A c - (nI (aR A c)).toInt64)) := h16 ▸ rep_T R12 _ e6 e7 e8
  refine ⟨i_in (by omega) (by decide), ?_⟩
  rw [i_cl (by omega), R12.2.2.2.2.2.1 c 0 hc (by omega)]
  exact h _ (rep_W R16 (by omega) _ rfl)
theorem ok_tryDraw {L : LnS} {A : AL} (hR : RepL L A) (hO : Ok A) {x : Int32} {Q : Int32 → LnS → Prop} (h0 : (x < 0 ∨ nI (aC A) ≤ x) → Q 0 L) (h1 : ∀ c, c < aC A → x = nI c → 40 ≤ aT A → Q 0 L) (h2 : ∀ c, c < aC A → x = nI c → aT A < 40 → ∀ L', RepL L' (dr A c) → Q 1 L') : wp_X1_tryDraw L x Q := by
  have hT := hO.2.2.1
  refine ok_hasCounter hR hO (fun h => ⟨fun _ => h0 h, fun e => absurd rfl e⟩) (fun c hc hx => ⟨fun e => absurd e (by decide), fun _ => ?_⟩)
  subst hx
  rw [hR.1.2.2.2, show (40 : Int32) = nI 40 from rfl, i_lt (by omega) (by omega)]
  refine ⟨fun e => ok_drawFrom hR hO (hO.c6 hc) (by omega) (fun L' hL' => h2 c hc rfl e L' hL'), fun e => h1 c hc rfl (by omega)⟩
/-! Places that go and come. -/
def cl2 {α : Type} (f : Nat → Nat → α) (z : α) (c n k : Nat) : Nat → Nat → α := fun x y => if x = c ∧ n ≤ y ∧ y < k then z else f x y
def rzk (A : AL) (c n k : Nat) : AL := (A.1, A.2.1, A.2.2.1, A.2.2.2.1, cl2 (aD A) 0 c n k, cl2 (aW A) 0 c n k, A.2.2.2.2.2.2)
def rz (A : AL) (c n : Nat) : AL := sP (rzk A c n 9) c n
theorem rz_ok {A : AL} (hO : Ok A) {c n : Nat} (hc : c < aC A) (hn : 1 ≤ n ∧ n ≤ 9) : Ok (rz A c n) := by
  refine ⟨hO.1, hO.2.1, hO.2.2.1, fun c' => ?_, fun c' => ?_, hO.2.2.2.2.2.1, fun c' p' => ?_, fun c' p' hp' => ?_, hO.2.2.2.2.2.2.2.2⟩
  · show (if c' = c then n else aP A c') ≤ 9
    split
    · exact hn.2
    · exact hO.p9 c'
  · show (c' < aC A → 1 ≤ (if c' = c then n else aP A c')) ∧ (aC A ≤ c' → (if c' = c then n else aP A c') = 0)
    have := hO.2.2.2.2.1 c'
    split
    · exact ⟨fun _ => hn.1, fun h => by omega⟩
    · exact this
  · show (if c' = c ∧ n ≤ p' ∧ p' < 9 then 0 else aD A c' p') ≤ 2
    have := hO.2.2.2.2.2.2.1 c' p'
    split <;> omega
  · have hp2 : (if c' = c then n else aP A c') ≤ p' := hp'
    show (if c' = c ∧ n ≤ p' ∧ p' < 9 then 0 else aD A c' p') = 0 ∧ (if c' = c ∧ n ≤ p' ∧ p' < 9 then 0 else aW A c' p') = 0
    by_cases h : c' = c ∧ n ≤ p' ∧ p' < 9
    · rw [if_pos h, if_pos h]
      exact ⟨rfl, rfl⟩
    · rw [if_neg h, if_neg h]
      have h9 := hO.p9 c'
      refine hO.2.2.2.2.2.2.2.1 c' p' ?_
      by_cases e : c' = c
      · rw [if_pos e] at hp2
        omega
      · rwa [if_neg e] at hp2
theorem cl2_s {α : Type} (f : Nat → Nat → α) (z : α) {c n k : Nat} (h : n ≤ k) : up2 (cl2 f z c n k) c k z = cl2 f z c n (k + 1) := by
  funext x y
  unfold up2 cl2
  by_cases h1 : x = c ∧ y = k
  · rw [if_pos h1, if_pos (by omega)]
  · rw [if_neg h1]
    by_cases h2 : x = c ∧ n ≤ y ∧ y < k
    · rw [if_pos h2, if_pos (by omega)]
    · rw [if_neg h2, if_neg (by omega)]
theorem cl2_e {α : Type} (f : Nat → Nat → α) (z : α) {c n k : Nat} (hk : k ≤ 9) (h : ∀ y, k ≤ y → f c y = z) : cl2 f z c n k = cl2 f z c n 9 := by
  funext x y
  unfold cl2
  by_cases h2 : x = c ∧ n ≤ y ∧ y < k
  · rw [if_pos h2, if_pos (by omega)]
  · rw [if_neg h2]
    by_cases h3 : x = c ∧ n ≤ y ∧ y < 9
    · rw [if_pos h3, h3.1]
      exact h y (by omega)
    · rw [if_neg h3]
theorem cl2_0 {α : Type} (f : Nat → Nat → α) (z : α) {c n : Nat} : cl2 f z c n n = f := by
  funext x y
  unfold cl2
  rw [if_neg (by omega)]
theorem rzk_s (A : AL) {c n k : Nat} (h : n ≤ k) : sW (sD (rzk A c n k) c k 0) c k 0 = rzk A c n (k + 1) := by
  show (A.1, A.2.1, A.2.2.1, A.2.2.2.1, up2 (cl2 (aD A) 0 c n k) c k 0, up2 (cl2 (aW A) 0 c n k) c k 0, A.2.2.2.2.2.2) = rzk A c n (k + 1)
  rw [cl2_s _ _ h, cl2_s _ _ h]
  rfl
theorem rzk_e {A : AL} (hO : Ok A) {c n k : Nat} (hk : k ≤ 9) (h : aP A c ≤ k) : rzk A c n k = rzk A c n 9 := by
  unfold rzk
  rw [cl2_e (aD A) 0 hk (fun y hy => (hO.2.2.2.2.2.2.2.1 c y (by omega)).1), cl2_e (aW A) 0 hk (fun y hy => (hO.2.2.2.2.2.2.2.1 c y (by omega)).2)]
theorem rzk_0 (A : AL) (c n : Nat) : rzk A c n n = A := by
  unfold rzk
  rw [cl2_0, cl2_0]
  rfl
theorem cz_loop {A : AL} (hO : Ok A) {c nn : Nat} (hc : c < 6) (hnn : nn ≤ 9) {Q : LnS → Prop} (h : ∀ L', RepL L' (rz A c nn) → Q L') : ∀ (m k n : Nat) (L : LnS), (k + m = aP A c ∨ (m = 0 ∧ aP A c ≤ k)) → nn ≤ k → k ≤ 9 → m < n → RepL L (rzk A c nn k) → wl_X1_changePlaces_2 (nI c) (nI nn) Q n L (nI k) := by
  have h9 := hO.p9 c
  intro m
  induction m with
  | zero =>
    intro k n L hk hn2 hk9 hn hR
    obtain ⟨n, rfl, -⟩ := fuel1 hn
    refine ⟨i_in hc (by decide), ?_⟩
    rw [i_cl (by omega), hR.2.1 c hc, i_le (by show aP A c < 100000; omega) (by omega)]
    refine ⟨fun _ => ⟨i_in hc (by decide), ?_⟩, fun h0 => absurd (by show aP A c ≤ k; omega) h0⟩
    rw [rzk_e hO hk9 (by omega)] at hR
    exact h _ (rep_P hR c nn)
  | succ m ih =>
    intro k n L hk hn2 hk9 hn hR
    obtain ⟨n, rfl, hn⟩ := fuel1 hn
    refine ⟨i_in hc (by decide), ?_⟩
    rw [i_cl (by omega), hR.2.1 c hc, i_le (by show aP A c < 100000; omega) (by omega)]
    refine ⟨fun h0 => absurd (show aP A c ≤ k from h0) (by omega), fun _ => ok_cellOf ⟨i_in (by omega) (by decide), ok_cellOf ?_⟩⟩
    intro L7 h7
    rw [i_cl (by omega)] at h7
    have R7 : RepL L7 (sD (rzk A c nn k) c k 0) := h7 ▸ rep_D hR (by omega) 0 rfl
    refine ⟨i_in (by omega) (by decide), ?_⟩
    rw [i_cl (by omega), i_p1]
    have R8 := rep_W R7 (c := c) (p := k) (by omega) 0 rfl
    rw [rzk_s A hn2] at R8
    exact ih (k + 1) n _ (by omega) (by omega) (by omega) (by omega) R8
theorem ok_changePlaces {L : LnS} {A : AL} (hR : RepL L A) (hO : Ok A) {c nn : Nat} (hc : c < 6) (hnn : nn ≤ 9) {Q : LnS → Prop} (h : ∀ L', RepL L' (rz A c nn) → Q L') : wp_X1_changePlaces L (nI c) (nI nn) Q := by
  have h9 := hO.p9 c
  exact ⟨10, cz_loop hO hc hnn h (aP A c - nn) nn 10 L (by omega) (by omega) hnn (by omega) (by rwa [rzk_0])⟩
/-! What is poured. -/
def ps (A : AL) (c d k : Nat) : AL :=
  let v := nI (aD A c k) + aW A c k
  let B := sW (sD A c k 0) c k 0
  if k < aP A d then sW B d k (aW B d k + v) else sS B d (aS B d + v)
def pr (A : AL) (c d : Nat) : Nat → AL
  | 0 => A
  | k + 1 => ps (pr A c d k) c d k
theorem ps_fr (A : AL) (c d k : Nat) : (ps A c d k).1 = A.1 ∧ aP (ps A c d k) = aP A ∧ aK (ps A c d k) = aK A ∧ aX (ps A c d k) = aX A := by
  unfold ps
  simp only []
  split <;> exact ⟨rfl, rfl, rfl, rfl⟩
theorem ps_ok {A : AL} (hO : Ok A) {c d k : Nat} (hk : k < aP A c) : Ok (ps A c d k) := by
  have h1 : Ok (sW (sD A c k 0) c k 0) := ok_W (ok_D hO hk (by decide)) hk _
  unfold ps
  simp only []
  split
  · rename_i h2
    exact ok_W h1 h2 _
  · exact h1
theorem pr_fr (A : AL) (c d : Nat) : ∀ k, (pr A c d k).1 = A.1 ∧ aP (pr A c d k) = aP A ∧ aK (pr A c d k) = aK A ∧ aX (pr A c d k) = aX A
  | 0 => ⟨rfl, rfl, rfl, rfl⟩
  | k + 1 => by
    have h1 := pr_fr A c d k
    have h2 := ps_fr (pr A c d k) c d k
    exact ⟨h2.1.trans h1.1, h2.2.1.trans h1.2.1, h2.2.2.1.trans h1.2.2.1, h2.2.2.2.trans h1.2.2.2⟩
theorem pr_ok {A : AL} (hO : Ok A) (c d : Nat) : ∀ k, k ≤ aP A c → Ok (pr A c d k)
  | 0, _ => hO
  | k + 1, h => ps_ok (pr_ok hO c d k (by omega)) (by rw [(pr_fr A c d k).2.1]; omega)
theorem pr_loop {A : AL} (hO : Ok A) {c d : Nat} (hc : c < 6) (hd : d < 6) (hcd : c ≠ d) {Q : LnS → Prop} (h : ∀ L', RepL L' (pr A c d (aP A c)) → Q L') : ∀ (m k n : Nat) (L : LnS), k + m = aP A c → m < n → RepL L (pr A c d k) → wl_X1_pourInto_2 (nI c) (nI d) Q n L (nI k) := by
  have h9 := hO.p9 c
  have h9d := hO.p9 d
  intro m
  induction m with
  | zero =>
    intro k n L hk hn hR
    obtain ⟨n, rfl, -⟩ := fuel1 hn
    refine ⟨i_in hc (by decide), ?_⟩
    rw [i_cl (by omega), hR.2.1 c hc, (pr_fr A c d k).2.1, i_le (by omega) (by omega)]
    refine ⟨fun _ => ?_, fun h0 => absurd (by omega) h0⟩
    have e : k = aP A c := by omega
    rw [e] at hR
    exact h L hR
  | succ m ih =>
    intro k n L hk hn hR
    obtain ⟨n, rfl, hn⟩ := fuel1 hn
    refine ⟨i_in hc (by decide), ?_⟩
    rw [i_cl (by omega), hR.2.1 c hc, (pr_fr A c d k).2.1, i_le (by omega) (by omega)]
    refine ⟨fun h0 => absurd h0 (by omega), fun _ => ok_cellOf ?_⟩
    have v1 : vp_in (nI (9 * c + k)) 54 := i_in (by omega) (by decide)
    have v2 : vp_in (nI d) 6 := i_in hd (by decide)
    rw [i_cl (by omega), i_cl (by omega)]
    refine ⟨v1, v1, ?_⟩
    intro y hy
    rw [hR.2.2.2.2.1 c k hc (by omega), hR.2.2.2.2.2.1 c k hc (by omega)] at hy
    refine ⟨v1, ?_⟩
    intro L8 h8
    have R8 : RepL L8 (sD (pr A c d k) c k 0) := h8 ▸ rep_D hR (by omega) 0 rfl
    refine ⟨v1, v2, ?_⟩
    rw [R8.2.1 d hd, i_le (by show aP (pr A c d k) d < 100000; rw [(pr_fr A c d k).2.1]; omega) (by omega)]
    have eP : aP (sD (pr A c d k) c k 0) d = aP A d := congrFun (pr_fr A c d k).2.1 d
    rw [eP]
    have R13 : RepL (lsR L8 5 (upd (L8.1 5) (9 * c + k) 0)) (sW (sD (pr A c d k) c k 0) c k 0) := rep_W R8 (by omega) 0 rfl
    have es : pr A c d (k + 1) = (if k < aP A d then sW (sW (sD (pr A c d k) c k 0) c k 0) d k (aW (sW (sD (pr A c d k) c k 0) c k 0) d k + y) else sS (sW (sD (pr A c d k) c k 0) c k 0) d (aS (sW (sD (pr A c d k) c k 0) c k 0) d + y)) := by
      show ps (pr A c d k) c d k = _
      unfold ps
      simp only []
      rw [(pr_fr A c d k).2.1, hy]
    refine ⟨fun h0 => ⟨v2, ?_⟩, fun h0 => ok_cellOf ⟨i_in (by omega) (by decide), ?_⟩⟩
    · intro L13 h13
      rw [← h13] at R13
      refine ⟨v2, ?_⟩
      rw [i_p1, R8.2.2.2.1 d hd]
      refine ih (k + 1) n _ (by omega) (by omega) ?_
      rw [es, if_neg (by omega)]
      exact rep_S R13 d _
    · intro L17 h17
      rw [← h17] at R13
      refine ⟨i_in (by omega) (by decide), ?_⟩
      rw [i_p1, i_cl (by omega)]
      refine ih (k + 1) n _ (by omega) (by omega) ?_
      rw [es, if_pos (by omega)]
      have e17 : upd (L8.1 5) (9 * c + k) 0 (9 * d + k) = aW (sW (sD (pr A c d k) c k 0) c k 0) d k := by
        have := R13.2.2.2.2.2.1 d k hd (by omega)
        rw [h17] at this
        exact this
      rw [e17]
      exact rep_W R13 (by omega) _ rfl
theorem ok_pourInto {L : LnS} {A : AL} (hR : RepL L A) (hO : Ok A) {c d : Nat} (hc : c < 6) (hd : d < 6) (hcd : c ≠ d) {Q : LnS → Prop} (h : ∀ L', RepL L' (pr A c d (aP A c)) → Q L') : wp_X1_pourInto L (nI c) (nI d) Q := by
  have h9 := hO.p9 c
  exact ⟨10, pr_loop hO hc hd hcd h (aP A c) 0 10 L (by omega) (by omega) hR⟩
theorem ok_tryPour {L : LnS} {A : AL} (hR : RepL L A) (hO : Ok A) {c d : Nat} (hc : c < aC A) (hd : d < aC A) {Q : LnS → Prop} (h0 : c = d → Q L) (h : c ≠ d → ∀ L', RepL L' (pr A c d (aP A c)) → Q L') : wp_X1_tryPour L (nI c) (nI d) Q := by
  have h6 := hO.c6 hc
  have d6 := hO.c6 hd
  have hC := hO.1.2
  refine ok_hasCounter hR hO (fun h => ⟨fun _ => ?_, fun e => absurd rfl e⟩) (fun c' hc' hx => ⟨fun e => absurd e (by decide), fun _ => ?_⟩)
  · rcases h with h | h
    · exact absurd h (i_neg c (by omega))
    · rw [i_le (by omega) (by omega)] at h
      omega
  refine ok_hasCounter hR hO (fun h => ⟨fun _ => ?_, fun e => absurd rfl e⟩) (fun c' hc' hx => ⟨fun e => absurd e (by decide), fun _ => ?_⟩)
  · rcases h with h | h
    · exact absurd h (i_neg d (by omega))
    · rw [i_le (by omega) (by omega)] at h
      omega
  rw [i_eq (by omega) (by omega)]
  exact ⟨fun e => h0 e, fun e => ok_pourInto hR hO h6 d6 e (fun L' hL' => h e L' hL')⟩
/-! A line is copied, a line is made empty. -/
theorem ok_copyFrom {L K : LnS} {A : AL} (hR : RepL K A) (hO : Ok A) {Q : LnS → Prop} (h : ∀ L', RepL L' A → Q L') : wp_X1_copyFrom L K Q := by
  have hT := hO.2.2.1
  have e3 : (K.1 0 3).toNatClampNeg = aT A := by rw [hR.1.2.2.2, i_cl (by omega)]
  have hb : ¬ K.1 0 3 < 0 ∧ (K.1 0 3).toNatClampNeg ≤ 49 := ⟨by rw [hR.1.2.2.2]; exact i_neg _ (by omega), by rw [e3]; exact hT⟩
  refine ⟨fun i hi => ?_, hb.1, hb.2, hb.1, hb.2, hb.1, hb.2, hb.1, hb.2, h _ ?_⟩
  · have hi2 : i < 6 := hi
    rw [hR.2.2.1 i hi2]
    split
    · exact Or.inr rfl
    · exact Or.inl rfl
  · have cp : ∀ (f g : Nat → Int32) (n j : Nat), j < n → va_cpy f g 0 0 n j = f j := by
      intro f g n j hj
      rw [pk_cpy_in (by omega) (by omega)]
      congr 1
      omega
    have cp2 : ∀ (f g : Nat → Int64) (n j : Nat), j < n → va_cpy f g 0 0 n j = f j := by
      intro f g n j hj
      rw [pk_cpy_in (by omega) (by omega)]
      congr 1
      omega
    rw [e3]
    refine ⟨hR.1, fun c hc => ?_, fun c hc => ?_, fun c hc => ?_, fun c p hc hp => ?_, fun c p hc hp => ?_, fun k hk => ⟨?_, ?_, ?_, ?_⟩⟩
    · exact (cp (K.1 1) (L.1 1) 6 c hc).trans (hR.2.1 c hc)
    · exact (cp (K.1 2) (L.1 2) 6 c hc).trans (hR.2.2.1 c hc)
    · exact (cp (K.1 3) (L.1 3) 6 c hc).trans (hR.2.2.2.1 c hc)
    · exact (cp (K.1 4) (L.1 4) 54 (9 * c + p) (by omega)).trans (hR.2.2.2.2.1 c p hc hp)
    · exact (cp (K.1 5) (L.1 5) 54 (9 * c + p) (by omega)).trans (hR.2.2.2.2.2.1 c p hc hp)
    · exact (cp (K.1 6) (L.1 6) (aT A) k hk).trans (hR.2.2.2.2.2.2 k hk).1
    · exact (cp (K.1 7) (L.1 7) (aT A) k hk).trans (hR.2.2.2.2.2.2 k hk).2.1
    · exact (cp (K.1 8) (L.1 8) (aT A) k hk).trans (hR.2.2.2.2.2.2 k hk).2.2.1
    · exact (cp2 K.2 L.2 (aT A) k hk).trans (hR.2.2.2.2.2.2 k hk).2.2.2

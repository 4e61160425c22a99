/-! The beat, all places at once. -/
theorem al_ext {A B : AL} (h1 : A.1 = B.1) (h2 : aP A = aP B) (h3 : aK A = aK B) (h4 : aS A = aS B) (h5 : aD A = aD B) (h6 : aW A = aW B) (h7 : aX A = aX B) : A = B := by
  obtain ⟨a1, a2, a3, a4, a5, a6, a7⟩ := A
  obtain ⟨b1, b2, b3, b4, b5, b6, b7⟩ := B
  have e1 : a1 = b1 := h1
  have e2 : a2 = b2 := h2
  have e3 : a3 = b3 := h3
  have e4 : a4 = b4 := h4
  have e5 : a5 = b5 := h5
  have e6 : a6 = b6 := h6
  have e7 : a7 = b7 := h7
  subst e1 e2 e3 e4 e5 e6 e7
  rfl
def bt0 (A : AL) : AL := (A.1, aP A, aK A, (fun x => aS A x + (if aK A x = true then 0 else ov A x (aP A x - 1))), mo A, (fun x y => aW A x y - tv A x y + inn A 0 x y), aX A)
def bt (A : AL) : AL := sB (bt0 A) (aB A + 1)
theorem pbt_full {A : AL} (hO : Ok A) : pbt 0 (aC A) A = bt0 A := by
  have h := PBI_p hO (f := 0) (m := aC A) (by omega)
  rw [Nat.zero_add] at h
  obtain ⟨⟨e1, eP, eK, eX⟩, hD, hW, hS⟩ := h
  have hz : ∀ x y, aC A ≤ x → aW A x y = 0 := fun x y hx => (hO.2.2.2.2.2.2.2.1 x y (by rw [(hO.2.2.2.2.1 x).2 hx]; omega)).2
  refine al_ext e1 eP eK (funext fun x => ?_) (funext fun x => funext fun y => ?_) (funext fun x => funext fun y => ?_) eX
  · rw [hS]
    show _ = aS A x + (if aK A x = true then 0 else ov A x (aP A x - 1))
    by_cases h1 : aK A x = true
    · rw [if_pos h1, if_neg (fun h => h.2.2 h1), Int32.add_zero]
    · rw [if_neg h1]
      by_cases h2 : x < aC A
      · rw [if_pos ⟨Nat.zero_le _, h2, h1⟩]
      · rw [if_neg (fun h => h2 h.2.1), ov_0 hO (hz x _ (by omega)), Int32.add_zero]
  · rw [hD]
    show _ = mo A x y
    by_cases h2 : x < aC A
    · rw [if_pos ⟨Nat.zero_le _, h2⟩]
    · rw [if_neg (fun h => h2 h.2), mo_0 hO (hz x y (by omega))]
  · rw [hW]
    show _ = aW A x y - tv A x y + inn A 0 x y
    by_cases h2 : x < aC A
    · rw [if_pos ⟨Nat.zero_le _, h2⟩]
    · rw [if_neg (fun h => h2 h.2)]
      have h3 : inn A 0 x y = 0 := by
        unfold inn
        rw [(hO.2.2.2.2.1 x).2 (by omega)]
        rw [if_neg (show ¬ y < 0 by omega), if_neg (show ¬ (0 < x ∧ aK A (x - 1) = true) from fun h => by have := hO.2.2.2.2.2.1 _ h.2; omega)]
        simp
      have h4 : ¬ (x = aC A ∧ y = 0 ∧ 0 < aC A ∧ aK A (x - 1) = true) := fun h => by
        have := hO.2.2.2.2.2.1 _ h.2.2.2
        omega
      rw [if_neg h4, h3, tv_0 (hz x y (by omega)), hz x y (by omega)]
      decide
theorem bt0_ok {A : AL} (hO : Ok A) : Ok (bt0 A) := by
  rw [← pbt_full hO]
  exact pbt_ok 0 _ A hO
theorem bt_ok {A : AL} (hO : Ok A) : Ok (bt A) := bt0_ok hO
def bts : Nat → AL → AL
  | 0, A => A
  | n + 1, A => bts n (bt A)
theorem bts_s : ∀ n A, bts (n + 1) A = bt (bts n A)
  | 0, _ => rfl
  | n + 1, A => bts_s n (bt A)
theorem bts_ok : ∀ n {A : AL}, Ok A → Ok (bts n A)
  | 0, _, h => h
  | n + 1, _, h => bts_ok n (bt_ok h)
theorem bts_fr : ∀ n A, aC (bts n A) = aC A ∧ aG (bts n A) = aG A ∧ aT (bts n A) = aT A ∧ aP (bts n A) = aP A ∧ aK (bts n A) = aK A ∧ aX (bts n A) = aX A
  | 0, _ => ⟨rfl, rfl, rfl, rfl, rfl, rfl⟩
  | n + 1, A => bts_fr n (bt A)
theorem pbs_loop {N : Nat} (hN : N < 1000) {Q : LnS → Prop} : ∀ (m k n : Nat) (A : AL) (L : LnS), Ok A → RepL L A → k + m = N → m < n → (∀ L', RepL L' (bts m A) → Q L') → wl_X1_passBeats_2 (nI N) Q n L (nI k) := by
  intro m
  induction m with
  | zero =>
    intro k n A L hO hR hk hn h
    obtain ⟨n, rfl, -⟩ := fuel1 hn
    exact ⟨fun _ => h L hR, fun h0 => absurd ((i_le (by omega) (by omega)).mpr (by omega)) h0⟩
  | succ m ih =>
    intro k n A L hO hR hk hn h
    obtain ⟨n, rfl, hn⟩ := fuel1 hn
    refine ⟨fun h0 => absurd ((i_le (by omega) (by omega)).mp h0) (by omega), fun _ => ?_⟩
    have := ok_passBeat hR hO (f := 0) (m := aC A) (by have := hO.1.2; omega) (Q := fun u2 => wl_X1_passBeats_2 (nI N) Q n (lsS u2 0 2 (u2.1 0 2 + 1)) (nI k + 1)) (fun L' hL' => by
      rw [pbt_full hO] at hL'
      rw [i_p1, hL'.1.2.2.1]
      exact ih (k + 1) n (bt A) _ (bt_ok hO) (rep_B hL' _) (by omega) (by omega) h)
    rw [Nat.zero_add] at this
    rw [hR.1.1]
    exact this
theorem ok_passBeats {L : LnS} {A : AL} (hR : RepL L A) (hO : Ok A) {N : Nat} (hN : N < 1000) {Q : LnS → Prop} (h : ∀ L', RepL L' (bts N A) → Q L') : wp_X1_passBeats L (nI N) Q :=
  ⟨N + 1, pbs_loop hN N 0 (N + 1) A L hO hR (by omega) (by omega) h⟩
/-! What waits never grows by beats, and carries rise. -/
def wa (A : AL) (c p : Nat) : Nat := (aW A c p).toInt.natAbs
def ta (A : AL) (c p : Nat) : Nat := (tk A c p).natAbs
theorem abs_add (a b : Int32) : (a + b).toInt.natAbs ≤ a.toInt.natAbs + b.toInt.natAbs := by
  have h1 := a.toInt_lt
  have h2 := a.le_toInt
  have h3 := b.toInt_lt
  have h4 := b.le_toInt
  have : (2 : Int) ^ 32 = 4294967296 := by decide
  rw [Int32.toInt_add, Int.bmod_def]
  split <;> omega
theorem tv_toInt {A : AL} (hO : Ok A) (c p : Nat) : (tv A c p).toInt = tk A c p := by
  have := tk_b hO c p
  exact Int32.toInt_ofInt_of_le (by omega) (by omega)
theorem ov_toInt {A : AL} (hO : Ok A) (c p : Nat) : (ov A c p).toInt = su A c p / 3 := by
  have := su_b hO c p
  exact Int32.toInt_ofInt_of_le (by omega) (by omega)
theorem wa_left {A : AL} (hO : Ok A) (c p : Nat) : (aW A c p - tv A c p).toInt.natAbs + ta A c p = wa A c p := by
  have h1 := (aW A c p).toInt_lt
  have h2 := (aW A c p).le_toInt
  have : (2 : Int) ^ 32 = 4294967296 := by decide
  have hg := hO.2.1
  rw [Int32.toInt_sub, tv_toInt hO, Int.bmod_def]
  unfold ta wa tk
  split <;> omega
theorem oa_le {A : AL} (hO : Ok A) (c p : Nat) : (ov A c p).toInt.natAbs ≤ ta A c p := by
  have h2 := hO.2.2.2.2.2.2.1 c p
  rw [ov_toInt hO]
  unfold ta su
  omega
theorem wd_p {A B : AL} (hO : Ok A) {x s : Nat} (g : Nat → Nat → Nat) (e : Nat) (hg : ∀ y, y < 8 → g x (y + 1) + e ≤ g x y) (hW : ∀ y, aW B x y = aW A x y - tv A x y + inn A s x y) : ∀ n, n + 1 ≤ aP A x → sm (fun y => wa B x y * g x y) (n + 1) + sm (fun y => ta A x y * e) n + ta A x n * g x n ≤ sm (fun y => wa A x y * g x y) (n + 1) + (inn A s x 0).toInt.natAbs * g x 0 := by
  have h9 := hO.p9 x
  have key : ∀ n, wa B x n + ta A x n ≤ wa A x n + (inn A s x n).toInt.natAbs := by
    intro n
    have h1 := wa_left hO x n
    have h2 := abs_add (aW A x n - tv A x n) (inn A s x n)
    have h3 : wa B x n = (aW A x n - tv A x n + inn A s x n).toInt.natAbs := by
      unfold wa
      rw [hW]
    omega
  have key2 : ∀ n, wa B x n * g x n + ta A x n * g x n ≤ wa A x n * g x n + (inn A s x n).toInt.natAbs * g x n := by
    intro n
    rw [← Nat.add_mul, ← Nat.add_mul]
    exact Nat.mul_le_mul_right _ (key n)
  intro n
  induction n with
  | zero =>
    intro _
    have := key2 0
    show 0 + wa B x 0 * g x 0 + 0 + ta A x 0 * g x 0 ≤ 0 + wa A x 0 * g x 0 + (inn A s x 0).toInt.natAbs * g x 0
    omega
  | succ n ih =>
    intro hn
    have h1 := ih (by omega)
    have h2 := key2 (n + 1)
    have h3 : (inn A s x (n + 1)).toInt.natAbs ≤ ta A x n := by
      unfold inn
      rw [if_pos (by omega), if_pos (by omega), Nat.add_sub_cancel]
      exact oa_le hO x n
    have h4 : (inn A s x (n + 1)).toInt.natAbs * g x (n + 1) ≤ ta A x n * g x (n + 1) := Nat.mul_le_mul_right _ h3
    have h5 : ta A x n * g x (n + 1) + ta A x n * e ≤ ta A x n * g x n := by
      rw [← Nat.mul_add]
      exact Nat.mul_le_mul_left _ (hg n (by omega))
    show (sm (fun y => wa B x y * g x y) (n + 1) + wa B x (n + 1) * g x (n + 1)) + (sm (fun y => ta A x y * e) n + ta A x n * e) + ta A x (n + 1) * g x (n + 1) ≤ (sm (fun y => wa A x y * g x y) (n + 1) + wa A x (n + 1) * g x (n + 1)) + (inn A s x 0).toInt.natAbs * g x 0
    omega
def pt (g : Nat → Nat → Nat) (A : AL) (x : Nat) : Nat := sm (fun y => wa A x y * g x y) (aP A x)
def tt (e : Nat) (A : AL) (x : Nat) : Nat := sm (fun y => ta A x y * e) (aP A x)
theorem wd_c {A B : AL} (hO : Ok A) {x s : Nat} (hx : s ≤ x) (hP : 1 ≤ aP A x) (eP : aP B = aP A) (g : Nat → Nat → Nat) (e : Nat) (hg : ∀ y, y < 8 → g x (y + 1) + e ≤ g x y) (hg2 : ∀ y, y < 9 → g (x + 1) 0 + e ≤ g x y) (hW : ∀ y, aW B x y = aW A x y - tv A x y + inn A s x y) : pt g B x + tt e A x + (inn A s (x + 1) 0).toInt.natAbs * g (x + 1) 0 ≤ pt g A x + (inn A s x 0).toInt.natAbs * g x 0 := by
  have h9 := hO.p9 x
  obtain ⟨n, hn⟩ : ∃ n, aP A x = n + 1 := ⟨aP A x - 1, by omega⟩
  have h1 := wd_p hO g e hg hW n (by omega)
  have h3 : (inn A s (x + 1) 0).toInt.natAbs ≤ ta A x n := by
    unfold inn
    rw [if_neg (by omega), Nat.add_sub_cancel, hn, Nat.add_sub_cancel]
    split
    · exact oa_le hO x n
    · exact Nat.zero_le _
  have h4 : (inn A s (x + 1) 0).toInt.natAbs * g (x + 1) 0 ≤ ta A x n * g (x + 1) 0 := Nat.mul_le_mul_right _ h3
  have h5 : ta A x n * g (x + 1) 0 + ta A x n * e ≤ ta A x n * g x n := by
    rw [← Nat.mul_add]
    exact Nat.mul_le_mul_left _ (hg2 n (by omega))
  unfold pt tt
  rw [eP, hn]
  show sm (fun y => wa B x y * g x y) (n + 1) + (sm (fun y => ta A x y * e) n + ta A x n * e) + (inn A s (x + 1) 0).toInt.natAbs * g (x + 1) 0 ≤ _
  omega
theorem inn_s0 (A : AL) (s : Nat) : inn A s s 0 = 0 := by
  unfold inn
  rw [if_neg (by omega), if_neg (by omega)]
theorem wd_all {A B : AL} (hO : Ok A) {s : Nat} (eP : aP B = aP A) (g : Nat → Nat → Nat) (e : Nat) (hg : ∀ x y, x < 6 → y < 8 → g x (y + 1) + e ≤ g x y) (hg2 : ∀ x y, x < 6 → y < 9 → g (x + 1) 0 + e ≤ g x y) : ∀ m, s + m ≤ aC A → (∀ x y, s ≤ x → x < s + m → aW B x y = aW A x y - tv A x y + inn A s x y) → sm (fun i => pt g B (s + i)) m + sm (fun i => tt e A (s + i)) m + (inn A s (s + m) 0).toInt.natAbs * g (s + m) 0 ≤ sm (fun i => pt g A (s + i)) m := by
  have hC := hO.1.2
  intro m
  induction m with
  | zero =>
    intro _ _
    show 0 + 0 + (inn A s (s + 0) 0).toInt.natAbs * g (s + 0) 0 ≤ 0
    rw [show s + 0 = s from rfl, inn_s0]
    have : (0 : Int32).toInt = 0 := by decide
    rw [this]
    simp
  | succ m ih =>
    intro hm hW
    have h1 := ih (by omega) (fun x y h2 h3 => hW x y h2 (by omega))
    have h2 := wd_c hO (x := s + m) (s := s) (by omega) ((hO.2.2.2.2.1 (s + m)).1 (by omega)) eP g e (fun y hy => hg _ y (by omega) hy) (fun y hy => hg2 _ y (by omega) hy) (fun y => hW (s + m) y (by omega) (by omega))
    show (sm (fun i => pt g B (s + i)) m + pt g B (s + m)) + (sm (fun i => tt e A (s + i)) m + tt e A (s + m)) + (inn A s (s + m + 1) 0).toInt.natAbs * g (s + m + 1) 0 ≤ (sm (fun i => pt g A (s + i)) m + pt g A (s + m))
    omega
theorem sm_mono {f g : Nat → Nat} : ∀ {n : Nat}, (∀ k, k < n → f k ≤ g k) → sm f n ≤ sm g n
  | 0, _ => Nat.le_refl 0
  | n + 1, h => by
    have h1 := sm_mono (n := n) (fun k hk => h k (by omega))
    have h2 := h n (by omega)
    show sm f n + f n ≤ sm g n + g n
    omega
theorem sm_mul (f : Nat → Nat) (c : Nat) : ∀ n, sm (fun k => f k * c) n = sm f n * c
  | 0 => (Nat.zero_mul c).symm
  | n + 1 => by
    show sm (fun k => f k * c) n + f n * c = (sm f n + f n) * c
    rw [sm_mul f c n, Nat.add_mul]
theorem sm_split (f : Nat → Nat) (a : Nat) : ∀ b, sm f (a + b) = sm f a + sm (fun i => f (a + i)) b
  | 0 => rfl
  | b + 1 => by
    show sm f (a + b) + f (a + b) = sm f a + (sm (fun i => f (a + i)) b + f (a + b))
    rw [sm_split f a b]
    omega
theorem sm_pos {f : Nat → Nat} {k n : Nat} (hk : k < n) (h : 1 ≤ f k) : 1 ≤ sm f n := by
  induction n with
  | zero => omega
  | succ n ih =>
    show 1 ≤ sm f n + f n
    by_cases e : k = n
    · subst e
      omega
    · have := ih (by omega)
      omega
theorem cnt_ex {f : Nat → Bool} : ∀ {n : Nat}, ¬ cnt f n = 0 → ∃ k, k < n ∧ f k = true
  | 0, h => absurd rfl h
  | n + 1, h => by
    by_cases e : f n = true
    · exact ⟨n, by omega, e⟩
    · rw [cnt_f e] at h
      obtain ⟨k, h1, h2⟩ := cnt_ex h
      exact ⟨k, by omega, h2⟩
theorem cnt_none {f : Nat → Bool} {k : Nat} : ∀ {n : Nat}, cnt f n = 0 → k < n → ¬ f k = true
  | 0, _, h => absurd h (by omega)
  | n + 1, h0, h => by
    by_cases e : f n = true
    · rw [cnt_t e] at h0
      omega
    · rw [cnt_f e] at h0
      by_cases e2 : k = n
      · subst e2
        exact e
      · exact cnt_none h0 (by omega)
/-- the weights that waiting numbers have, one place after the other -/
def hh (x y : Nat) : Nat := 54 - 9 * x - y
def gs (g : Nat → Nat → Nat) (A : AL) (s m : Nat) : Nat := sm (fun i => pt g A (s + i)) m
/-- all that waits -/
def tot (A : AL) : Nat := gs (fun _ _ => 1) A 0 (aC A)
theorem tot_bt {A : AL} (hO : Ok A) : tot (bt A) ≤ tot A := by
  have h := wd_all (B := bt A) hO (s := 0) rfl (fun _ _ => 1) 0 (fun _ _ _ _ => Nat.le_refl _) (fun _ _ _ _ => Nat.le_refl _) (aC A) (by omega) (fun x y _ _ => rfl)
  unfold tot gs
  have e : aC (bt A) = aC A := rfl
  rw [e]
  omega
theorem tot_bts : ∀ n {A : AL}, Ok A → tot (bts n A) ≤ tot A
  | 0, _, _ => Nat.le_refl _
  | n + 1, _, hO => Nat.le_trans (tot_bts n (bt_ok hO)) (tot_bt hO)
theorem rest_W {A : AL} (hO : Ok A) {x : Nat} (h : aQ A x = 0) (y : Nat) : aW A x y = 0 := by
  by_cases hy : y < aP A x
  · have := cnt_none h hy
    simp at this
    exact this
  · exact (hO.2.2.2.2.2.2.2.1 x y (by omega)).2
theorem i32_nz {w : Int32} (h : ¬ w = 0) : ¬ w.toInt = 0 := fun e => h (Int32.toInt_inj.mp (e.trans (by decide)))
theorem ta_pos {A : AL} (hO : Ok A) {x y : Nat} (h : ¬ aW A x y = 0) : 1 ≤ ta A x y := by
  have h1 := i32_nz h
  have hg := hO.2.1
  unfold ta tk
  omega
/-- beats lessen what waits, in a chain of counters that is not at rest -/
theorem phi_dec {A B : AL} (hO : Ok A) {s m : Nat} (hm : s + m ≤ aC A) (eP : aP B = aP A) (hW : ∀ x y, s ≤ x → x < s + m → aW B x y = aW A x y - tv A x y + inn A s x y) (hne : ∃ x, s ≤ x ∧ x < s + m ∧ ¬ aQ A x = 0) : gs hh B s m + 1 ≤ gs hh A s m := by
  have h := wd_all (B := B) hO eP hh 1 (fun x y _ _ => by unfold hh; omega) (fun x y _ _ => by unfold hh; omega) m hm hW
  obtain ⟨x, h1, h2, h3⟩ := hne
  obtain ⟨p, hp, hw⟩ := cnt_ex h3
  have hw2 : ¬ aW A x p = 0 := by simpa using hw
  have h4 : 1 ≤ tt 1 A x := sm_pos hp (by rw [Nat.mul_one]; exact ta_pos hO hw2)
  have h5 : 1 ≤ sm (fun i => tt 1 A (s + i)) m := sm_pos (k := x - s) (by omega) (by rw [show s + (x - s) = x by omega]; exact h4)
  unfold gs
  omega
theorem phi_le {A : AL} {s m : Nat} (hm : s + m ≤ aC A) : gs hh A s m ≤ 54 * tot A := by
  have h1 : ∀ x, pt hh A x ≤ pt (fun _ _ => 1) A x * 54 := by
    intro x
    unfold pt
    rw [← sm_mul]
    refine sm_mono (fun k _ => ?_)
    rw [Nat.mul_one]
    exact Nat.mul_le_mul_left _ (by unfold hh; omega)
  have h2 : gs hh A s m ≤ sm (fun i => pt (fun _ _ => 1) A (s + i)) m * 54 := by
    rw [← sm_mul]
    exact sm_mono (fun k _ => h1 _)
  have h3 : sm (fun i => pt (fun _ _ => 1) A (s + i)) m ≤ tot A := by
    have e0 : tot A = sm (pt (fun _ _ => 1) A) (aC A) := by
      unfold tot gs
      congr 1
      funext i
      rw [Nat.zero_add]
    rw [e0, show aC A = s + (m + (aC A - s - m)) by omega, sm_split, sm_split]
    omega
  omega

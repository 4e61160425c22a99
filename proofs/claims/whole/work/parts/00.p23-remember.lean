/-! How much waits, over all places there may be. -/
def T9 (A : AL) : Nat := sm (fun x => sm (fun y => wa A x y) 9) 6
theorem sm_congr {f g : Nat → Nat} {n : Nat} (h : ∀ k, k < n → f k = g k) : sm f n = sm g n :=
  Nat.le_antisymm (sm_mono (fun k hk => Nat.le_of_eq (h k hk))) (sm_mono (fun k hk => Nat.le_of_eq (h k hk).symm))
theorem sm_zero {f : Nat → Nat} {n : Nat} (h : ∀ k, k < n → f k = 0) : sm f n = 0 := by
  induction n with
  | zero => rfl
  | succ n ih =>
    show sm f n + f n = 0
    rw [ih (fun k hk => h k (by omega)), h n (by omega)]
theorem wa_z {A : AL} (hO : Ok A) {x y : Nat} (h : aP A x ≤ y) : wa A x y = 0 := by
  unfold wa
  rw [(hO.2.2.2.2.2.2.2.1 x y h).2]
  decide
theorem sm_ext {f : Nat → Nat} {a b : Nat} (hab : a ≤ b) (h : ∀ k, a ≤ k → k < b → f k = 0) : sm f b = sm f a := by
  rw [show b = a + (b - a) by omega, sm_split, sm_zero (f := fun i => f (a + i)) (fun k hk => h _ (by omega) (by omega)), Nat.add_zero]
theorem T9_eq {A : AL} (hO : Ok A) : T9 A = tot A := by
  have e0 : tot A = sm (pt (fun _ _ => 1) A) (aC A) := by
    unfold tot gs
    congr 1
    funext i
    rw [Nat.zero_add]
  have e1 : ∀ x, pt (fun _ _ => 1) A x = sm (fun y => wa A x y) 9 := by
    intro x
    unfold pt
    rw [sm_ext (f := fun y => wa A x y) (hO.p9 x) (fun k hk _ => wa_z hO hk)]
    exact sm_congr (fun k _ => Nat.mul_one _)
  rw [e0, sm_congr (fun k _ => e1 k)]
  unfold T9
  refine sm_ext hO.1.2 (fun k hk _ => sm_zero (fun y _ => wa_z hO ?_))
  rw [(hO.2.2.2.2.1 k).2 hk]
  omega
theorem sm_up {f : Nat → Nat} {k v : Nat} : ∀ {n : Nat}, k < n → sm (va_up f k v) n + f k = sm f n + v
  | 0, h => absurd h (by omega)
  | n + 1, h => by
    show sm (va_up f k v) n + va_up f k v n + f k = sm f n + f n + v
    by_cases e : k = n
    · subst e
      have e1 : sm (va_up f k v) k = sm f k := sm_congr (fun j hj => if_neg (by omega))
      rw [e1, show va_up f k v k = v from if_pos rfl]
      omega
    · have := sm_up (f := f) (k := k) (v := v) (n := n) (by omega)
      rw [show va_up f k v n = f n from if_neg (fun h => e h.symm)]
      omega
theorem T9_W (A : AL) {c p : Nat} (hc : c < 6) (hp : p < 9) (v : Int32) : T9 (sW A c p v) + wa A c p = T9 A + v.toInt.natAbs := by
  have e1 : ∀ x, sm (fun y => wa (sW A c p v) x y) 9 = va_up (fun x => sm (fun y => wa A x y) 9) c (sm (fun y => wa (sW A c p v) c y) 9) x := by
    intro x
    unfold va_up
    by_cases h : x = c
    · rw [if_pos h, h]
    · rw [if_neg h]
      refine sm_congr (fun y _ => ?_)
      show (if x = c ∧ y = p then v else aW A x y).toInt.natAbs = _
      rw [if_neg (fun h2 => h h2.1)]
      rfl
  have e2 : sm (fun y => wa (sW A c p v) c y) 9 + wa A c p = sm (fun y => wa A c y) 9 + v.toInt.natAbs := by
    rw [← sm_up (f := fun y => wa A c y) (k := p) (v := v.toInt.natAbs) hp]
    congr 1
    refine sm_congr (fun y _ => ?_)
    show (if c = c ∧ y = p then v else aW A c y).toInt.natAbs = (if y = p then v.toInt.natAbs else wa A c y)
    by_cases h : y = p
    · rw [if_pos ⟨rfl, h⟩, if_pos h]
    · rw [if_neg (fun h2 => h h2.2), if_neg h]
      rfl
  have e3 : sm (va_up (fun x => sm (fun y => wa A x y) 9) c (sm (fun y => wa (sW A c p v) c y) 9)) 6 + sm (fun y => wa A c y) 9 = sm (fun x => sm (fun y => wa A x y) 9) 6 + sm (fun y => wa (sW A c p v) c y) 9 := sm_up hc
  have e4 : T9 (sW A c p v) = sm (va_up (fun x => sm (fun y => wa A x y) 9) c (sm (fun y => wa (sW A c p v) c y) 9)) 6 := sm_congr (fun x _ => e1 x)
  rw [e4]
  unfold T9
  omega
theorem T9_add (A : AL) {c p : Nat} (hc : c < 6) (hp : p < 9) (v : Int32) : T9 (sW A c p (aW A c p + v)) ≤ T9 A + v.toInt.natAbs := by
  have h1 := T9_W A hc hp (aW A c p + v)
  have h2 := abs_add (aW A c p) v
  have h3 : wa A c p = (aW A c p).toInt.natAbs := rfl
  omega
theorem T9_pd {A : AL} (hO : Ok A) (s : Bool) {c : Nat} (hc : c < 6) {a : Nat} : ∀ k, k ≤ 9 → T9 (pd A s c a k) ≤ T9 A + 2 * k
  | 0, _ => Nat.le_refl _
  | k + 1, h => by
    have h1 := T9_pd hO s hc (a := a) k (by omega)
    have h2 := T9_add (pd A s c a k) hc (p := k) (by omega) (sv s (a / 3 ^ k % 3))
    have h3 := sv_toInt (s := s) (a := a / 3 ^ k % 3) (by omega)
    have h4 : (sv s (a / 3 ^ k % 3)).toInt.natAbs ≤ 2 := by
      rw [h3]
      split <;> omega
    show T9 (sW (pd A s c a k) c k (aW (pd A s c a k) c k + sv s (a / 3 ^ k % 3))) ≤ _
    omega
theorem T9_D (A : AL) (c p v : Nat) : T9 (sD A c p v) = T9 A := rfl
theorem T9_ps {A : AL} (hO : Ok A) {c d k : Nat} (hc : c < 6) (hd : d < 6) (hcd : c ≠ d) (hk : k < 9) : T9 (ps A c d k) ≤ T9 A + 2 := by
  have h1 := T9_W (sD A c k 0) hc hk 0
  rw [T9_D] at h1
  have e0 : (0 : Int32).toInt.natAbs = 0 := by decide
  have ew : wa (sD A c k 0) c k = wa A c k := rfl
  have h2 := hO.2.2.2.2.2.2.1 c k
  have h3 := abs_add (nI (aD A c k)) (aW A c k)
  rw [nI_toInt (by omega)] at h3
  have h4 : wa A c k = (aW A c k).toInt.natAbs := rfl
  unfold ps
  simp only []
  split
  · have h5 := T9_add (sW (sD A c k 0) c k 0) hd hk (nI (aD A c k) + aW A c k)
    omega
  · show T9 (sW (sD A c k 0) c k 0) ≤ _
    omega
theorem T9_pr {A : AL} (hO : Ok A) {c d : Nat} (hc : c < 6) (hd : d < 6) (hcd : c ≠ d) : ∀ k, k ≤ aP A c → T9 (pr A c d k) ≤ T9 A + 2 * k
  | 0, _ => Nat.le_refl _
  | k + 1, h => by
    have h9 := hO.p9 c
    have h1 := T9_pr hO hc hd hcd k (by omega)
    have h2 := T9_ps (pr_ok hO c d k (by omega)) (k := k) hc hd hcd (by omega)
    show T9 (ps (pr A c d k) c d k) ≤ _
    omega
theorem T9_rz (A : AL) (c n : Nat) : T9 (rz A c n) ≤ T9 A := by
  unfold T9
  refine sm_mono (fun x _ => sm_mono (fun y _ => ?_))
  show (if x = c ∧ n ≤ y ∧ y < 9 then 0 else aW A x y).toInt.natAbs ≤ wa A x y
  split
  · exact Nat.zero_le _
  · exact Nat.le_refl _
theorem T9_dr (A : AL) {c : Nat} (hc : c < 6) : T9 (dr A c) ≤ T9 A + 1 :=
  T9_add (sT A (c, aR A c, aB A, aV A c - (nI (aR A c)).toInt64)) hc (by omega) 1
/-! Lines stay good. -/
theorem gd_pd {k : Nat} {A : AL} (h : Gd k A) (s : Bool) {c : Nat} (hc : c < 6) (a : Nat) : Gd (k + 1) (pd A s c a (aP A c)) := by
  have hO := h.1
  have h9 := hO.p9 c
  have hB := pd_ok hO s c a (aP A c) (Nat.le_refl _)
  have fr := pd_fr A s c a (aP A c)
  have eT : aT (pd A s c a (aP A c)) = aT A := congrArg (fun z => z.2.2.2) fr.1
  have eX : aX (pd A s c a (aP A c)) = aX A := fr.2.2.2.2.2
  refine ⟨hB, by rw [eT]; exact h.2.1, ?_, by rw [eT, eX]; exact h.2.2.2⟩
  have h1 := T9_pd hO s hc (a := a) (aP A c) h9
  rw [T9_eq hO, T9_eq hB] at h1
  have := h.2.2.1
  omega
theorem gd_pr {k : Nat} {A : AL} (h : Gd k A) {c d : Nat} (hc : c < 6) (hd : d < 6) (hcd : c ≠ d) : Gd (k + 1) (pr A c d (aP A c)) := by
  have hO := h.1
  have h9 := hO.p9 c
  have hB := pr_ok hO c d (aP A c) (Nat.le_refl _)
  have fr := pr_fr A c d (aP A c)
  have eT : aT (pr A c d (aP A c)) = aT A := congrArg (fun z => z.2.2.2) fr.1
  refine ⟨hB, by rw [eT]; exact h.2.1, ?_, by rw [eT, fr.2.2.2]; exact h.2.2.2⟩
  have h1 := T9_pr hO hc hd hcd (aP A c) (Nat.le_refl _)
  rw [T9_eq hO, T9_eq hB] at h1
  have := h.2.2.1
  omega
theorem gd_rz {k : Nat} {A : AL} (h : Gd k A) {c n : Nat} (hc : c < aC A) (hn : 1 ≤ n ∧ n ≤ 9) : Gd k (rz A c n) := by
  have hO := h.1
  have hB := rz_ok hO hc hn
  refine ⟨hB, h.2.1, ?_, h.2.2.2⟩
  have h1 := T9_rz A c n
  rw [T9_eq hO, T9_eq hB] at h1
  have := h.2.2.1
  omega
theorem exc_dr {A : AL} (hO : Ok A) (hb : tot A ≤ 18000) {c : Nat} (hc : c < aC A) (h : ∀ t, t < aT A → ((aX A t).2.2.2).toInt32.toInt64 = (aX A t).2.2.2) : ∀ t, t < aT (dr A c) → ((aX (dr A c) t).2.2.2).toInt32.toInt64 = (aX (dr A c) t).2.2.2 := by
  intro t ht
  have ht2 : t < aT A + 1 := ht
  have e : aX (dr A c) t = va_up (aX A) (aT A) (c, aR A c, aB A, aV A c - (nI (aR A c)).toInt64) t := rfl
  rw [e]
  by_cases e2 : t = aT A
  · rw [show va_up (aX A) (aT A) (c, aR A c, aB A, aV A c - (nI (aR A c)).toInt64) t = (c, aR A c, aB A, aV A c - (nI (aR A c)).toInt64) from if_pos e2]
    exact aV_exc hO hc hb
  · rw [show va_up (aX A) (aT A) (c, aR A c, aB A, aV A c - (nI (aR A c)).toInt64) t = aX A t from if_neg e2]
    exact h t (by omega)
theorem gd_dr {k : Nat} {A : AL} (hk : k ≤ 900) (h : Gd k A) {c : Nat} (hc : c < aC A) (hT : aT A < 40) : Gd (k + 1) (dr A c) := by
  have hO := h.1
  have hB := dr_ok hO hc (by omega)
  have h0 := h.2.2.1
  refine ⟨hB, hT, ?_, exc_dr hO (by omega) hc h.2.2.2⟩
  have h1 := T9_dr A (hO.c6 hc)
  rw [T9_eq hO, T9_eq hB] at h1
  omega
theorem gd_bts {k : Nat} {A : AL} (h : Gd k A) (n : Nat) : Gd k (bts n A) := by
  have fr := bts_fr n A
  refine ⟨bts_ok n h.1, by rw [fr.2.2.1]; exact h.2.1, Nat.le_trans (tot_bts n h.1) h.2.2.1, by rw [fr.2.2.1, fr.2.2.2.2.2]; exact h.2.2.2⟩
theorem gd_G {k : Nat} {A : AL} (h : Gd k A) {g : Nat} (hg : 1 ≤ g ∧ g ≤ 9) : Gd k (sG A g) := ⟨ok_G h.1 hg, h.2.1, h.2.2.1, h.2.2.2⟩
theorem gd_K {k : Nat} {A : AL} (h : Gd k A) {c : Nat} (hc : c + 1 < aC A) (b : Bool) : Gd k (sK A c b) := ⟨ok_K h.1 hc b, h.2.1, h.2.2.1, h.2.2.2⟩
/-! What is remembered. -/
def hrem (A : AL) (hh : Nat × (Nat → AL)) : Nat × (Nat → AL) := if hh.1 = 14 then (14, fun i => if i = 13 then A else hh.2 (i + 1)) else (hh.1 + 1, fun i => if i = hh.1 then A else hh.2 i)
theorem IV.mem {k : Nat} {t : Nat × (Nat → Nat)} {A : AL} {hh : Nat × (Nat → AL)} {b : (Nat → Bool) × (Nat → AL)} (h : IV k (t, A, hh, b)) : IV k (t, A, hrem A hh, b) := by
  refine ⟨h.1, h.2.1, ?_, h.2.2.2⟩
  have h3 := h.2.2.1
  have hA := h.2.1
  show (hrem A hh).1 ≤ 14 ∧ ∀ i, i < (hrem A hh).1 → Gd k ((hrem A hh).2 i)
  unfold hrem
  by_cases e : hh.1 = 14
  · rw [if_pos e]
    refine ⟨Nat.le_refl _, fun i hi => ?_⟩
    show Gd k (if i = 13 then A else hh.2 (i + 1))
    by_cases e2 : i = 13
    · rw [if_pos e2]
      exact hA
    · rw [if_neg e2]
      refine h3.2 (i + 1) ?_
      show i + 1 < hh.1
      have hi2 : i < 14 := hi
      omega
  · rw [if_neg e]
    have h4 : hh.1 ≤ 14 := h3.1
    refine ⟨by show hh.1 + 1 ≤ 14; omega, fun i hi => ?_⟩
    show Gd k (if i = hh.1 then A else hh.2 i)
    have hi2 : i < hh.1 + 1 := hi
    by_cases e2 : i = hh.1
    · rw [if_pos e2]
      exact hA
    · rw [if_neg e2]
      exact h3.2 i (by show i < hh.1; omega)
theorem CR.mem {t : Nat × (Nat → Nat)} {A : AL} {hh : Nat × (Nat → AL)} {b : (Nat → Bool) × (Nat → AL)} {S : XO} {tx : TS} {hs : HS} {Ls : Nat → LnS} (h : CR (t, A, hh, b) S tx hs Ls) (hO : Ok A) (h14 : hh.1 ≤ 14) {Q : HS → (Nat → LnS) → Prop} (hQ : ∀ hs' Ls', CR (t, A, hrem A hh, b) S tx hs' Ls' → Q hs' Ls') : wp_X0_remember hs Ls Q := by
  obtain ⟨h1, h2, ⟨o, ho, h3, h4⟩, h5⟩ := h
  have h2' : RepL (Ls 0) A := h2
  have h4' : ∀ i, i < hh.1 → RepL (Ls (4 + (o + i) % 14)) (hh.2 i) := h4
  have h3' : hs = (nI o, nI hh.1) := h3
  subst h3'
  have key : ∀ (o' q : Nat) (L' : LnS), o' < 14 → q < 14 → RepL L' A → (hrem A hh).1 ≤ 14 → (∀ i, i < (hrem A hh).1 → ((o' + i) % 14 = q → (hrem A hh).2 i = A) ∧ ((o' + i) % 14 ≠ q → RepL (Ls (4 + (o' + i) % 14)) ((hrem A hh).2 i))) → CR (t, A, hrem A hh, b) S tx (nI o', nI (hrem A hh).1) (va_up Ls (4 + q) L') := by
    intro o' q L' ho' hq hL' _ hi
    refine ⟨h1, ?_, ⟨o', ho', rfl, fun i hi2 => ?_⟩, fun i hi2 => ⟨(h5 i hi2).1, fun hb => ?_⟩⟩
    · show RepL (if 0 = 4 + q then L' else Ls 0) A
      rw [if_neg (by omega)]
      exact h2'
    · show RepL (if 4 + (o' + i) % 14 = 4 + q then L' else Ls (4 + (o' + i) % 14)) ((hrem A hh).2 i)
      by_cases e : (o' + i) % 14 = q
      · rw [if_pos (by omega), (hi i hi2).1 e]
        exact hL'
      · rw [if_neg (by omega)]
        exact (hi i hi2).2 e
    · show RepL (if 2 + i = 4 + q then L' else Ls (2 + i)) _
      rw [if_neg (by omega)]
      exact (h5 i hi2).2 hb
  unfold wp_X0_remember
  simp only []
  rw [show (14 : Int32) = nI 14 from rfl, i_eq (by omega) (by omega)]
  refine ⟨fun e => ?_, fun e => ?_⟩
  · have er : hrem A hh = (14, fun i => if i = 13 then A else hh.2 (i + 1)) := if_pos e
    rw [e, show (nI 14 - 1 : Int32) = nI 13 from i_s1 13, i_p1, pk_rem (by omega) (by decide) (by decide), nI_add, pk_rem (by omega) (by decide) (by decide), i_cl (by omega), i_p1]
    refine ⟨i_in (by omega) (by decide), ok_copyFrom h2' hO (fun L' hL' => hQ _ _ ?_)⟩
    have := key ((o + 1) % 14) (((o + 1) % 14 + 13) % 14) L' (by omega) (by omega) hL' (by rw [er]; exact Nat.le_refl _) (fun i hi => ?_)
    · rw [er] at this ⊢
      exact this
    · rw [er] at hi ⊢
      have hi2 : i < 14 := hi
      show (_ → (if i = 13 then A else hh.2 (i + 1)) = A) ∧ (_ → RepL _ (if i = 13 then A else hh.2 (i + 1)))
      refine ⟨fun e2 => if_pos (by omega), fun e2 => ?_⟩
      rw [if_neg (by omega), show ((o + 1) % 14 + i) % 14 = (o + (i + 1)) % 14 by omega]
      exact h4' (i + 1) (by omega)
  · have er : hrem A hh = (hh.1 + 1, fun i => if i = hh.1 then A else hh.2 i) := if_neg e
    rw [nI_add, pk_rem (by omega) (by decide) (by decide), i_cl (by omega), i_p1]
    refine ⟨i_in (by omega) (by decide), ok_copyFrom h2' hO (fun L' hL' => hQ _ _ ?_)⟩
    have := key o ((o + hh.1) % 14) L' ho (by omega) hL' (by rw [er]; show hh.1 + 1 ≤ 14; omega) (fun i hi => ?_)
    · rw [er] at this ⊢
      exact this
    · rw [er] at hi ⊢
      have hi2 : i < hh.1 + 1 := hi
      show (_ → (if i = hh.1 then A else hh.2 i) = A) ∧ (_ → RepL _ (if i = hh.1 then A else hh.2 i))
      refine ⟨fun e2 => if_pos (by omega), fun e2 => ?_⟩
      by_cases e3 : i = hh.1
      · rw [e3] at e2
        exact absurd rfl e2
      · rw [if_neg e3]
        exact h4' i (by omega)
theorem rml_loop {Q : MS → Prop} {M0 : MS} {h14 : M0 0 2 = nI 14} (h : ∀ M', (∀ j, j < 336 → M' 4 (336 * 13 + j) = M0 2 j) → (∀ j, j < 4368 → M' 4 j = M0 4 (j + 336)) → (∀ j, j ≠ 0 → j ≠ 4 → M' j = M0 j) → M' 0 = upd (M0 0) 2 (nI 14) → Q M') : ∀ (m k n : Nat) (M : MS), k + m = 4368 → m < n → (∀ j, j < k → M 4 j = M0 4 (j + 336)) → (∀ j, k ≤ j → M 4 j = M0 4 j) → (∀ j, j ≠ 4 → M j = M0 j) → wl_X4_remember_11 Q n M (nI k) := by
  intro m
  induction m with
  | zero =>
    intro k n M hk hn h1 h2 h3
    obtain ⟨n, rfl, -⟩ := fuel1 hn
    rw [show k = 4368 by omega] at h1 ⊢
    refine ⟨fun _ => ?_, fun h0 => absurd (show (4368 : Int32) ≤ nI 4368 by decide) h0⟩
    rw [h3 0 (by decide), h14, show (nI 14 - 1 : Int32) = nI 13 from i_s1 13, show (336 : Int32) = nI 336 from rfl, pk_mul, show (0 : Int32) = nI 0 from rfl, i_p1, show 336 * 13 = 4368 from rfl]
    refine ok_copyLine (a := 0) (b := 4368) (by omega) (by omega) (by omega) (by omega) (fun G h4 h5 => h _ (fun j hj => ?_) (fun j hj => ?_) (fun j h6 h7 => ?_) ?_)
    · show G (336 * 13 + j) = M0 2 j
      rw [show 336 * 13 + j = 4368 + j by omega, h4 j hj, Nat.zero_add, h3 2 (by decide)]
    · show G j = M0 4 (j + 336)
      rw [h5 j (Or.inl hj)]
      exact h1 j hj
    · show (if j = 0 then _ else if j = 4 then _ else M j) = M0 j
      rw [if_neg h6, if_neg h7]
      exact h3 j h7
    · show upd (M 0) 2 (nI 14) = _
      rw [h3 0 (by decide)]
  | succ m ih =>
    intro k n M hk hn h1 h2 h3
    obtain ⟨n, rfl, hn⟩ := fuel1 hn
    refine ⟨fun h0 => ?_, fun _ => ?_⟩
    · rw [show (4368 : Int32) = nI 4368 from rfl, i_le (by omega) (by omega)] at h0
      omega
    · rw [show (336 : Int32) = nI 336 from rfl, nI_add, i_p1, nI_clamp (by omega), nI_clamp (by omega)]
      refine ⟨vp_in_nI (by omega) (by omega), vp_in_nI (by omega) (by omega), ?_⟩
      refine ih (k + 1) n _ (by omega) (by omega) (fun j hj => ?_) (fun j hj => ?_) (fun j hj => ?_)
      · show upd (M 4) k (M 4 (k + 336)) j = _
        by_cases e : j = k
        · rw [e, h2 (k + 336) (by omega)]
          exact pk_us
        · rw [pk_un (by omega)]
          exact h1 j (by omega)
      · show upd (M 4) k (M 4 (k + 336)) j = _
        rw [pk_un (by omega)]
        exact h2 j (by omega)
      · show (if j = 4 then _ else M j) = M0 j
        rw [if_neg hj]
        exact h3 j hj
theorem RR.mem {t : Nat × (Nat → Nat)} {A : AL} {hh : Nat × (Nat → AL)} {b : (Nat → Bool) × (Nat → AL)} {M : MS} (h : RR (t, A, hh, b) M) (hO : Ok A) (h14 : hh.1 ≤ 14) (hT : ∀ i, i < hh.1 → aT (hh.2 i) ≤ 49) {Q : MS → Prop} (hQ : ∀ M', RR (t, A, hrem A hh, b) M' → M' 0 0 = M 0 0 → Q M') : wp_X4_remember M Q := by
  obtain ⟨h1, h2, ⟨h3, h4⟩, h5⟩ := h
  have h2' : RepR (M 2) A := h2
  have h3' : M 0 2 = nI hh.1 := h3
  have h4' : ∀ i, i < hh.1 → RepR (fun j => M 4 (336 * i + j)) (hh.2 i) := h4
  unfold wp_X4_remember
  rw [h3', show (14 : Int32) = nI 14 from rfl, i_eq (by omega) (by omega)]
  refine ⟨fun e => ⟨4369, ?_⟩, fun e => ?_⟩
  · have er : hrem A hh = (14, fun i => if i = 13 then A else hh.2 (i + 1)) := if_pos e
    refine rml_loop (M0 := M) (h14 := by rw [h3', e]) (fun M' g1 g2 g3 g4 => hQ M' ?_ ?_) 4368 0 4369 M (by omega) (by omega) (fun j hj => absurd hj (by omega)) (fun _ _ => rfl) (fun _ _ => rfl)
    · refine ⟨?_, ?_, ?_, ?_⟩
      · rw [g4, g3 1 (by decide) (by decide), pk_un (by decide)]
        exact h1
      · rw [g3 2 (by decide) (by decide)]
        exact h2
      · rw [er]
        refine ⟨by rw [g4]; exact pk_us, fun i hi => ?_⟩
        have hi2 : i < 14 := hi
        show RepR (fun j => M' 4 (336 * i + j)) (if i = 13 then A else hh.2 (i + 1))
        by_cases e2 : i = 13
        · rw [if_pos e2, e2]
          exact rr_cong h2' hO.2.2.1 (fun j hj => g1 j hj)
        · rw [if_neg e2]
          refine rr_cong (h4' (i + 1) (by omega)) (hT _ (by omega)) (fun j hj => ?_)
          show M' 4 (336 * i + j) = M 4 (336 * (i + 1) + j)
          rw [g2 _ (by omega)]
          congr 1
          omega
      · rw [g3 5 (by decide) (by decide), g3 6 (by decide) (by decide)]
        exact h5
    · rw [g4, pk_un (by decide)]
  · have er : hrem A hh = (hh.1 + 1, fun i => if i = hh.1 then A else hh.2 i) := if_neg e
    rw [show (336 : Int32) = nI 336 from rfl, pk_mul, show (0 : Int32) = nI 0 from rfl, i_p1]
    refine ok_copyLine (a := 0) (b := 336 * hh.1) (by omega) (by omega) (by omega) (by omega) (fun G h6 h7 => hQ _ ?_ ?_)
    · refine ⟨h1, h2, ?_, h5⟩
      rw [er]
      refine ⟨(show upd (M 0) 2 (nI (hh.1 + 1)) 2 = nI (hh.1 + 1) from pk_us), fun i hi => ?_⟩
      have hi2 : i < hh.1 + 1 := hi
      show RepR (fun j => G (336 * i + j)) (if i = hh.1 then A else hh.2 i)
      by_cases e2 : i = hh.1
      · rw [if_pos e2, e2]
        refine rr_cong h2' hO.2.2.1 (fun j hj => ?_)
        show G (336 * hh.1 + j) = M 2 j
        rw [h6 j hj, Nat.zero_add]
      · rw [if_neg e2]
        refine rr_cong (h4' i (by omega)) (hT i (by omega)) (fun j hj => ?_)
        show G (336 * i + j) = M 4 (336 * i + j)
        exact h7 _ (Or.inl (by omega))
    · show upd (M 0) 2 (nI (hh.1 + 1)) 0 = M 0 0
      exact pk_un (by decide)

/-! What would be, if only beats went by. -/
theorem ok_cp {F G : Nat → Int32} {A : AL} (hR : RepR F A) (hT : aT A ≤ 49) {Q : (Nat → Int32) → Prop} (h : ∀ G', RepR G' A → Q G') : wp_X4_copyLine 336 336 F G (0 : Int32) (0 : Int32) Q :=
  ok_copyLine (a := 0) (b := 0) (by omega) (by omega) (by omega) (by omega) (fun G' h1 _ => h G' (rr_cong hR hT (fun j hj => by
    have := h1 j hj
    rwa [Nat.zero_add] at this)))
theorem aQ_z {A : AL} (hO : Ok A) {c : Nat} : (nI (aQ A c) ≤ 0) ↔ aQ A c = 0 := by
  have := aQ_le hO c
  exact i0l (by omega)
theorem st_loop {M : MS} {B : AL} (hR : RepR (M 3) B) (hO : Ok B) {c f : Nat} (hc : c < 6) {y : Int32} {Q : Int32 → MS → Prop} {E : Int32 → Prop} (h0 : grest B f c → E 0) (h1 : ¬ grest B f c → E 1) : ∀ (m k n : Nat) (b : Bool), k + m = c + 1 → f ≤ k → m < n → (b = false → ∀ x, f ≤ x → x < k → aQ B x = 0) → (b = true → ¬ grest B f c) → wl_X4_settles_20 M (nI c) y Q E n (if b = true then 1 else 0) (nI k) := by
  intro m
  induction m with
  | zero =>
    intro k n b hk hf hn hb0 hb1
    obtain ⟨n, rfl, -⟩ := fuel1 hn
    refine ⟨fun _ => ?_, fun h0 => absurd ((i_lt (by omega) (by omega)).mpr (by omega)) h0⟩
    cases b with
    | true => exact h1 (hb1 rfl)
    | false => exact h0 (fun x h2 h3 => hb0 rfl x h2 (by omega))
  | succ m ih =>
    intro k n b hk hf hn hb0 hb1
    obtain ⟨n, rfl, hn⟩ := fuel1 hn
    refine ⟨fun h0 => absurd ((i_lt (by omega) (by omega)).mp h0) (by omega), fun _ => ?_⟩
    rw [i_p1 k]
    refine tb (fun hb => ok_waitsOn hR hO (by omega) ?_) (fun hb => ih (k + 1) n true (by omega) (by omega) (by omega) (fun h => Bool.noConfusion h) (fun _ => hb1 hb))
    rw [aQ_z hO]
    refine ⟨fun e => ih (k + 1) n false (by omega) (by omega) (by omega) (fun _ x h2 h3 => ?_) (fun h => Bool.noConfusion h), fun e => ih (k + 1) n true (by omega) (by omega) (by omega) (fun h => Bool.noConfusion h) (fun _ hg => e (hg k hf (by omega)))⟩
    by_cases ex : x = k
    · rw [ex]
      exact e
    · exact hb0 (by simpa using hb) x h2 (by omega)
theorem ss_loop {A : AL} (hA : Ok A) {c N : Nat} (hc : c < aC A) (hlt : ∀ k, k < N → ¬ grest (bts k A) (chn (aK A) c) c) (hr : grest (bts N A) (chn (aK A) c) c) {M0 : MS} {Q : Int32 → MS → Prop} (h : ∀ M', RepR (M' 3) (bts N A) → (∀ j, j ≠ 3 → j ≠ 7 → j ≠ 8 → M' j = M0 j) → Q (nI N) M') : ∀ (m k n : Nat) (M : MS), k + m = N → m + 1 < n → RepR (M 3) (bts k A) → (∀ j, j ≠ 3 → j ≠ 7 → j ≠ 8 → M j = M0 j) → wl_X4_settles_5 (nI c) Q n M (nI k) 1 := by
  have hC := hA.1.2
  have hsc := chn_le (aK A) c
  intro m
  induction m with
  | zero =>
    intro k n M hk hn hR hF
    obtain ⟨n, rfl, hn⟩ := fuel1 hn
    obtain ⟨n, rfl, -⟩ := fuel1 (show 0 < n by omega)
    rw [show k = N by omega] at hR ⊢
    have fr := bts_fr N A
    refine tn (by decide) (ok_firstOfChain hR (by omega) ⟨8, ?_⟩)
    rw [fr.2.2.2.2.1]
    refine st_loop hR (bts_ok N hA) (by omega) (fun _ => ?_) (fun h2 => absurd hr h2) (c + 1 - chn (aK A) c) _ 8 false (by omega) (Nat.le_refl _) (by omega) (fun _ x h1 h2 => absurd h2 (by omega)) (fun h => Bool.noConfusion h)
    exact tp rfl (tp rfl (h M hR hF))
  | succ m ih =>
    intro k n M hk hn hR hF
    obtain ⟨n, rfl, hn⟩ := fuel1 hn
    have fr := bts_fr k A
    refine tn (by decide) (ok_firstOfChain hR (by omega) ⟨8, ?_⟩)
    rw [fr.2.2.2.2.1]
    refine st_loop hR (bts_ok k hA) (by omega) (fun h2 => absurd h2 (hlt k (by omega))) (fun _ => ?_) (c + 1 - chn (aK A) c) _ 8 false (by omega) (Nat.le_refl _) (by omega) (fun _ x h1 h2 => absurd h2 (by omega)) (fun h => Bool.noConfusion h)
    refine tn (by decide) (ok_beat_t hR (bts_ok k hA) (fun M' hR' hF' => ?_))
    rw [i_p1]
    rw [← bts_s] at hR'
    exact ih (k + 1) n M' (by omega) (by omega) hR' (fun j h3 h7 h8 => (hF' j h3 h7 h8).trans (hF j h3 h7 h8))
theorem ok_settles {M : MS} {A : AL} (hR : RepR (M 3) A) (hA : Ok A) {c N : Nat} (hc : c < aC A) (hlt : ∀ k, k < N → ¬ grest (bts k A) (chn (aK A) c) c) (hr : grest (bts N A) (chn (aK A) c) c) {Q : Int32 → MS → Prop} (h : ∀ M', RepR (M' 3) (bts N A) → (∀ j, j ≠ 3 → j ≠ 7 → j ≠ 8 → M' j = M j) → Q (nI N) M') : wp_X4_settles M (nI c) Q :=
  ⟨N + 2, ss_loop hA hc hlt hr h N 0 (N + 2) M (by omega) (by omega) hR (fun _ _ _ _ => rfl)⟩
/-- the trial's row alone, and what beats note, have changed -/
theorem RR.tri {σ : SS} {M M' : MS} {e : Int32} {r : Nat → Int32} (h : RR σ M) (hM : ∀ j, j ≠ 3 → j ≠ 7 → j ≠ 8 → M' j = zr2 (zs2 M 0 0 e) 3 r j) : RR σ M' ∧ M' 0 0 = e := by
  have e0 : M' 0 = upd (M 0) 0 e := hM 0 (by decide) (by decide) (by decide)
  refine ⟨h.mild (fun j h0 h3 h7 h8 => ?_) ?_ ?_, ?_⟩
  · rw [hM j h3 h7 h8]
    show (if j = 3 then r else if j = 0 then _ else M j) = M j
    rw [if_neg h3, if_neg h0]
  · rw [e0, pk_un (by decide)]
  · rw [e0, pk_un (by decide)]
  · rw [e0]
    exact pk_us
theorem CR.tri {σ : SS} {S : XO} {tx : TS} {hs : HS} {Ls : Nat → LnS} (h : CR σ S tx hs Ls) (L' : LnS) : CR σ S tx hs (va_up Ls 1 L') := h.mild (fun i hi => if_neg hi) rfl
theorem sim_settled {k : Nat} {M : MS} {S : XO} {tx : TS} {hs : HS} {Ls : Nat → LnS} (h : Rl k M S tx hs Ls) {f : Nat → Int64} {x : Int32} {C : CT} {P : Int32 → (Nat → Int64) → XO → TS → HS → (Nat → LnS) → Prop} (hk : k ≤ 900) (hC : NX k C) (hP : ∀ r g S' tx' hs' Ls', wp_X4_settled M x (JI C r g S' tx' hs' Ls') → P r g S' tx' hs' Ls') : wp_L_settled f S tx hs Ls x P := by
  obtain ⟨σ, hc, hr, hi⟩ := h
  have hO := hi.2.1.1
  unfold wp_L_settled wp_X3_settled
  unfold wp_X3_requireCounter
  obtain ⟨t, A, hh, b⟩ := σ
  have hO : Ok A := hO
  have hL : RepL (Ls 0) A := hc.2.1
  have hRr : RepR (M 2) A := hr.2.1
  rcases ctr x hO with hx | ⟨c, hcc, rfl⟩
  · refine ok_hasCounter_out hL hO hx (t0 (x1 (hP _ _ _ _ _ _ ?_)))
    exact ok_isCounter_out hRr hO hx (t0 (ok_ry (by decide) (t1 (fin_ex n1 rfl (hC.go hc (hr.ref _) hi)))))
  · have hb : tot A ≤ 270 + 18 * k := hi.2.1.2.2.1
    obtain ⟨N, hN, hg, hlt⟩ := rest_ex' hO (chn_le (aK A) c) hcc (chn_s (aK A) c) (by omega)
    refine ok_hasCounter_in hL hO hcc ?_
    refine t1 (ok_copyFrom hL hO (fun L2 hL2 => ok_runToRest hL2 hO hcc hN hlt hg (fun L3 B _ _ _ => hP _ _ _ _ _ _ ?_)))
    refine ok_isCounter_in hRr hO hcc ?_
    refine t1 (ok_rn (t0 (ok_cp hRr hO.2.2.1 (fun G hG => ok_settles (M := zr2 (zs2 M 0 0 0) 3 G) hG hO hcc hlt hg (fun M' hR' hF' => ?_)))))
    have h2 := hr.tri hF'
    exact fin_ok h2.2 rfl (hC.go (hc.tri _) h2.1 hi)
theorem rest_const {A : AL} (hO : Ok A) {s c N : Nat} (hsc : s ≤ c) (hc : c < aC A) (hs : s = 0 ∨ ¬ aK A (s - 1) = true) (h : grest (bts N A) s c) : ∀ d, grest (bts (N + d) A) s c ∧ aR (bts (N + d) A) c = aR (bts N A) c
  | 0 => ⟨h, rfl⟩
  | d + 1 => by
    obtain ⟨h1, h2⟩ := rest_const hO hsc hc hs h d
    have fr := bts_fr (N + d) A
    have hb := grest_bt (bts_ok (N + d) hO) (s := s) (t := c) (by rw [fr.1]; exact hc) (by rw [fr.2.2.2.2.1]; exact hs) hsc h1
    rw [show N + (d + 1) = (N + d) + 1 by omega, bts_s]
    refine ⟨fun x h3 h4 => ?_, ?_⟩
    · rw [← hb.q h3 h4]
      exact h1 x h3 h4
    · rw [← hb.r hsc (Nat.le_refl _)]
      exact h2
theorem cnt_full {f : Nat → Bool} : ∀ {n : Nat}, cnt f n = n ↔ ∀ k, k < n → f k = true
  | 0 => ⟨fun _ k hk => absurd hk (by omega), fun _ => rfl⟩
  | n + 1 => by
    have h1 := cnt_le f n
    have h2 := cnt_full (f := f) (n := n)
    have h3 : cnt f (n + 1) = cnt f n + (if f n = true then 1 else 0) := rfl
    by_cases e : f n = true
    · rw [if_pos e] at h3
      rw [h3]
      refine ⟨fun h k hk => ?_, fun h => ?_⟩
      · by_cases ek : k = n
        · rw [ek]
          exact e
        · exact h2.mp (by omega) k (by omega)
      · rw [h2.mpr (fun k hk => h k (by omega))]
    · rw [if_neg e] at h3
      refine ⟨fun h => by omega, fun h => absurd (h n (by omega)) e⟩
theorem all_rest {A : AL} (hO : Ok A) : aE A = aC A ↔ grest A 0 (aC A - 1) := by
  have hC := hO.1
  unfold aE
  rw [cnt_full]
  refine ⟨fun h x _ hx => ?_, fun h k hk => ?_⟩
  · have := h x (by omega)
    simpa using this
  · have := h k (by omega) (by omega)
    simpa using this
theorem sl_loop {A : AL} (hA : Ok A) {c N : Nat} (hc : c < aC A) (hlt : ∀ k, k < N → ¬ grest (bts k A) 0 (aC A - 1)) (hr : grest (bts N A) 0 (aC A - 1)) {M0 : MS} {Q : Int32 → MS → Prop} (h : ∀ M', (∀ j, j ≠ 3 → j ≠ 7 → j ≠ 8 → M' j = M0 j) → Q (nI (aR (bts N A) c)) M') : ∀ (m k n : Nat) (M : MS), k + m = N → m < n → RepR (M 3) (bts k A) → (∀ j, j ≠ 3 → j ≠ 7 → j ≠ 8 → M j = M0 j) → wl_X4_shownAtLast_38 (nI c) Q n M := by
  have hC := hA.1.2
  intro m
  induction m with
  | zero =>
    intro k n M hk hn hR hF
    obtain ⟨n, rfl, -⟩ := fuel1 hn
    rw [show k = N by omega] at hR
    have fr := bts_fr N A
    have hB := bts_ok N hA
    refine ok_allSettled hR hB (fun _ => t1 (ok_shownOn hR hB (by omega) (h M hF))) (fun e => absurd ?_ e)
    rw [all_rest hB, fr.1]
    exact hr
  | succ m ih =>
    intro k n M hk hn hR hF
    obtain ⟨n, rfl, hn⟩ := fuel1 hn
    have fr := bts_fr k A
    have hB := bts_ok k hA
    refine ok_allSettled hR hB (fun e => ?_) (fun _ => t0 (ok_beat_t hR hB (fun M' hR' hF' => ?_)))
    · rw [all_rest hB, fr.1] at e
      exact absurd e (hlt k (by omega))
    · rw [← bts_s] at hR'
      exact ih (k + 1) n M' (by omega) (by omega) hR' (fun j h3 h7 h8 => (hF' j h3 h7 h8).trans (hF j h3 h7 h8))
theorem sim_shownAtLast {k : Nat} {M : MS} {S : XO} {tx : TS} {hs : HS} {Ls : Nat → LnS} (h : Rl k M S tx hs Ls) {f : Nat → Int64} {x : Int32} {C : CT} {P : Int32 → (Nat → Int64) → XO → TS → HS → (Nat → LnS) → Prop} (hk : k ≤ 900) (hC : NX k C) (hP : ∀ r g S' tx' hs' Ls', wp_X4_shownAtLast M x (JI C r g S' tx' hs' Ls') → P r g S' tx' hs' Ls') : wp_L_shownAtLast f S tx hs Ls x P := by
  obtain ⟨σ, hc, hr, hi⟩ := h
  have hO := hi.2.1.1
  unfold wp_L_shownAtLast wp_X3_shownAtLast
  unfold wp_X3_requireCounter
  obtain ⟨t, A, hh, b⟩ := σ
  have hO : Ok A := hO
  have hL : RepL (Ls 0) A := hc.2.1
  have hRr : RepR (M 2) A := hr.2.1
  have hCC := hO.1
  rcases ctr x hO with hx | ⟨c, hcc, rfl⟩
  · refine ok_hasCounter_out hL hO hx (t0 (x1 (hP _ _ _ _ _ _ ?_)))
    exact ok_isCounter_out hRr hO hx (t0 (ok_ry (by decide) (t1 (fin_ex n1 rfl (hC.go hc (hr.ref _) hi)))))
  · have hb : tot A ≤ 270 + 18 * k := hi.2.1.2.2.1
    have hsc := chn_le (aK A) c
    obtain ⟨N, hN, hg, hlt⟩ := rest_ex' hO hsc hcc (chn_s (aK A) c) (by omega)
    obtain ⟨N2, hN2, hg2, hlt2⟩ := rest_ex' hO (s := 0) (c := aC A - 1) (Nat.zero_le _) (by omega) (Or.inl rfl) (by omega)
    have hle : N ≤ N2 := Nat.le_of_not_lt (fun h => hlt N2 h (fun x h1 h2 => hg2 x (Nat.zero_le _) (by omega)))
    have eR : aR (bts N2 A) c = aR (bts N A) c := by
      have := (rest_const hO hsc hcc (chn_s (aK A) c) hg (N2 - N)).2
      rwa [show N + (N2 - N) = N2 by omega] at this
    refine ok_hasCounter_in hL hO hcc ?_
    refine t1 (ok_copyFrom hL hO (fun L2 hL2 => ok_runToRest hL2 hO hcc hN hlt hg (fun L3 B hRB hOB hS => ok_reading hRB hOB (by omega) (hP _ _ _ _ _ _ ?_))))
    refine ok_isCounter_in hRr hO hcc ?_
    refine t1 (ok_rn (t0 (ok_cp hRr hO.2.2.1 (fun G hG => ⟨N2 + 1, ?_⟩))))
    refine sl_loop (M0 := zr2 (zs2 M 0 0 0) 3 G) hO hcc hlt2 hg2 (fun M' hF' => ?_) N2 0 (N2 + 1) _ (by omega) (by omega) hG (fun _ _ _ _ => rfl)
    have h2 := hr.tri hF'
    exact fin_ok h2.2 (by rw [hS.r hsc (Nat.le_refl _), eR]) (hC.go (hc.tri _) h2.1 hi)
theorem least {P : Nat → Prop} {n : Nat} (h : P n) : ∃ m, m ≤ n ∧ P m ∧ ∀ k, k < m → ¬ P k := by
  induction n with
  | zero => exact ⟨0, Nat.le_refl _, h, fun k hk => absurd hk (by omega)⟩
  | succ n ih =>
    by_cases h2 : ∃ m, m ≤ n ∧ P m
    · obtain ⟨m, hm, hp⟩ := h2
      by_cases h3 : ∃ m, m ≤ n ∧ P m ∧ ∀ k, k < m → ¬ P k
      · obtain ⟨q, h4, h5, h6⟩ := h3
        exact ⟨q, by omega, h5, h6⟩
      · exact absurd (lst P n m hm hp) h3
    · exact ⟨n + 1, Nat.le_refl _, h, fun k hk hp => h2 ⟨k, by omega, hp⟩⟩
where
  lst (P : Nat → Prop) : ∀ (n m : Nat), m ≤ n → P m → ∃ m, m ≤ n ∧ P m ∧ ∀ k, k < m → ¬ P k
  | 0, m, hm, hp => ⟨m, hm, hp, fun k hk => absurd hk (by omega)⟩
  | n + 1, m, hm, hp => by
    by_cases h : ∃ q, q ≤ n ∧ P q
    · obtain ⟨q, h1, h2⟩ := h
      obtain ⟨r, h3, h4, h5⟩ := lst P n q h1 h2
      exact ⟨r, by omega, h4, h5⟩
    · exact ⟨m, hm, hp, fun k hk hk2 => h ⟨k, by omega, hk2⟩⟩
theorem ws_loop {A : AL} (hA : Ok A) {c R v : Nat} (hv : v < 100000) (hc : c < aC A) (hlt : ∀ k, k < R → ¬ aR (bts k A) c = v ∧ ¬ grest (bts k A) 0 (aC A - 1)) {M0 : MS} {Q : Int32 → MS → Prop} (h1 : aR (bts R A) c = v → ∀ M', (∀ j, j ≠ 3 → j ≠ 7 → j ≠ 8 → M' j = M0 j) → Q (nI R) M') (h2 : ¬ aR (bts R A) c = v → grest (bts R A) 0 (aC A - 1) ∧ ∀ M', (∀ j, j ≠ 3 → j ≠ 7 → j ≠ 8 → M' j = M0 j) → Q (-1) M') : ∀ (m k n : Nat) (M : MS), k + m = R → m < n → RepR (M 3) (bts k A) → (∀ j, j ≠ 3 → j ≠ 7 → j ≠ 8 → M j = M0 j) → wl_X4_whenShown_56 (nI c) (nI v) Q n M (nI k) := by
  have hC := hA.1.2
  intro m
  induction m with
  | zero =>
    intro k n M hk hn hR hF
    obtain ⟨n, rfl, -⟩ := fuel1 hn
    rw [show k = R by omega] at hR ⊢
    have fr := bts_fr R A
    have hB := bts_ok R hA
    have hl := aR_lt hB c
    refine ok_shownOn hR hB (by omega) ?_
    rw [i_eq (by omega) hv]
    refine ⟨fun e => h1 e M hF, fun e => ok_allSettled hR hB (fun _ => t1 ((h2 e).2 M hF)) (fun e2 => absurd ?_ e2)⟩
    rw [all_rest hB, fr.1]
    exact (h2 e).1
  | succ m ih =>
    intro k n M hk hn hR hF
    obtain ⟨n, rfl, hn⟩ := fuel1 hn
    have fr := bts_fr k A
    have hB := bts_ok k hA
    have hl := aR_lt hB c
    have hk2 := hlt k (by omega)
    refine ok_shownOn hR hB (by omega) ?_
    rw [i_eq (by omega) hv]
    refine tn hk2.1 (ok_allSettled hR hB (fun e => ?_) (fun _ => t0 (ok_beat_t hR hB (fun M' hR' hF' => ?_))))
    · rw [all_rest hB, fr.1] at e
      exact absurd e hk2.2
    · rw [← bts_s] at hR'
      rw [i_p1]
      exact ih (k + 1) n M' (by omega) (by omega) hR' (fun j h3 h7 h8 => (hF' j h3 h7 h8).trans (hF j h3 h7 h8))
theorem sim_whenShown {k : Nat} {M : MS} {S : XO} {tx : TS} {hs : HS} {Ls : Nat → LnS} (h : Rl k M S tx hs Ls) {f : Nat → Int64} {x : Int32} { y : Int32} {C : CT} {P : Int32 → (Nat → Int64) → XO → TS → HS → (Nat → LnS) → Prop} (hk : k ≤ 900) (hC : NX k C) (hP : ∀ r g S' tx' hs' Ls', wp_X4_whenShown M x y (JI C r g S' tx' hs' Ls') → P r g S' tx' hs' Ls') : wp_L_whenShown f S tx hs Ls x y P := by
  obtain ⟨σ, hc, hr, hi⟩ := h
  have hO := hi.2.1.1
  unfold wp_L_whenShown wp_X3_whenShown
  unfold wp_X3_requireCounter
  obtain ⟨t, A, hh, b⟩ := σ
  have hO : Ok A := hO
  have hL : RepL (Ls 0) A := hc.2.1
  have hRr : RepR (M 2) A := hr.2.1
  have hCC := hO.1
  rcases ctr x hO with hx | ⟨c, hcc, rfl⟩
  · refine ok_hasCounter_out hL hO hx (t0 (x21 nBA (hP _ _ _ _ _ _ ?_)))
    exact ok_isCounter_out hRr hO hx (t0 (ok_ry (by decide) (t1 (fin_ex n1 rfl (hC.go hc (hr.ref _) hi)))))
  · refine ok_hasCounter_in hL hO hcc ?_
    refine t1 ?_
    rcases rgc y 0 19682 (by decide) with ⟨v, -, hv, rfl, hy⟩ | hy
    · refine rg_yes (l := 0) (h := 19682) (by decide) (by decide) hy ?_
      have hb : tot A ≤ 270 + 18 * k := hi.2.1.2.2.1
      have hsc := chn_le (aK A) c
      have hcs := chn_s (aK A) c
      obtain ⟨N, hN, hg, hlt⟩ := rest_ex' hO hsc hcc hcs (by omega)
      obtain ⟨N2, hN2, hg2, hlt2⟩ := rest_ex' hO (s := 0) (c := aC A - 1) (Nat.zero_le _) (by omega) (Or.inl rfl) (by omega)
      have hsub : ∀ j, grest (bts j A) 0 (aC A - 1) → grest (bts j A) (chn (aK A) c) c := fun j h x h1 h2 => h x (Nat.zero_le _) (by omega)
      obtain ⟨m, hm, hpm, hmlt⟩ := least (P := fun j => aR (bts j A) c = v ∨ grest (bts j A) (chn (aK A) c) c) (Or.inr hg)
      obtain ⟨R, hRle, hpR, hRlt⟩ := least (P := fun j => aR (bts j A) c = v ∨ grest (bts j A) 0 (aC A - 1)) (n := N2) (Or.inr hg2)
      have hmR : m ≤ R := Nat.le_of_not_lt (fun h => hmlt R h (hpR.elim Or.inl (fun h2 => Or.inr (hsub R h2))))
      have rf : ∀ {Q : Int32 → MS → Prop}, (aR (bts R A) c = v → ∀ G M', (∀ j, j ≠ 3 → j ≠ 7 → j ≠ 8 → M' j = zr2 (zs2 M 0 0 0) 3 G j) → Q (nI R) M') → (¬ aR (bts R A) c = v → ∀ G M', (∀ j, j ≠ 3 → j ≠ 7 → j ≠ 8 → M' j = zr2 (zs2 M 0 0 0) 3 G j) → Q (-1) M') → wp_X4_whenShown M (nI c) (nI v) Q := by
        intro Q q1 q2
        refine ok_isCounter_in hRr hO hcc ?_
        refine t1 (in_yes (l := 0) (h := 19682) (by decide) (by decide) hy (t1 (ok_rn (t0 (ok_cp hRr hO.2.2.1 (fun G hG => ⟨R + 1, ?_⟩))))))
        exact ws_loop (M0 := zr2 (zs2 M 0 0 0) 3 G) hO (by omega) hcc (fun j hj => ⟨fun e => hRlt j hj (Or.inl e), fun e => hRlt j hj (Or.inr e)⟩) (fun e => q1 e G) (fun e => ⟨hpR.resolve_left e, q2 e G⟩) R 0 (R + 1) _ (by omega) (by omega) hG (fun _ _ _ _ => rfl)
      refine ok_copyFrom hL hO (fun L2 hL2 => ok_runToReading hL2 hO (M := m) (by omega) hcc (by omega) (fun j hj => ⟨fun e => hmlt j hj (Or.inl e), fun e => hmlt j hj (Or.inr e)⟩) (fun e L' => hP _ _ _ _ _ _ ?_) (fun e => ⟨hpm.resolve_left e, fun L' => hP _ _ _ _ _ _ ?_⟩))
      · have emR : m = R := by
          refine Nat.le_antisymm hmR (Nat.le_of_not_lt (fun h => ?_))
          exact hRlt m h (Or.inl e)
        subst emR
        refine rf (fun _ G M' hF' => ?_) (fun e2 => absurd e e2)
        have h2 := hr.tri hF'
        exact fin_ok h2.2 rfl (hC.go (hc.tri _) h2.1 hi)
      · have e2 : ¬ aR (bts R A) c = v := by
          have := (rest_const hO hsc hcc hcs (hpm.resolve_left e) (R - m)).2
          rw [show m + (R - m) = R by omega] at this
          rw [this]
          exact e
        refine rf (fun h => absurd h e2) (fun _ G M' hF' => ?_)
        have h2 := hr.tri hF'
        exact fin_ok h2.2 rfl (hC.go (hc.tri _) h2.1 hi)
    · refine rg_no (l := 0) (h := 19682) (by decide) (by decide) hy (x22 nAB (hP _ _ _ _ _ _ ?_))
      refine ok_isCounter_in hRr hO hcc ?_
      exact t1 (in_no (l := 0) (h := 19682) (by decide) (by decide) hy (t0 (ok_ry (by decide) (t1 (fin_ex n2 rfl (hC.go hc (hr.ref _) hi))))))

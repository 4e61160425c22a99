/-! Scripts. -/
theorem d64 {z D : Int64} {a d : Nat} (hz : z.toInt = a) (hD : D.toInt = d) (hd : 0 < d) : (z / D).toInt = ((a / d : Nat) : Int) := by
  rw [lg_ldiv_nonneg (by omega) (by omega), hz, hD]
  exact (Int.natCast_ediv a d).symm
theorem r64 {z D : Int64} {a d : Nat} (ha : a < 2 ^ 63) (hz : z.toInt = a) (hD : D.toInt = d) (hd : 0 < d) : (z - z / D * D).toInt = ((a % d : Nat) : Int) := by
  have h1 := d64 hz hD hd
  have h2 : a / d * d ≤ a := Nat.div_mul_le_self a d
  have h3 := Nat.div_add_mod' a d
  have h4 : (2 : Int) ^ 64 = 18446744073709551616 := by decide
  have h5 : (2 : Nat) ^ 63 = 9223372036854775808 := by decide
  have h6 : (z / D * D).toInt = ((a / d * d : Nat) : Int) := by
    rw [Int64.toInt_mul, h1, hD, ← Int.natCast_mul, Int.bmod_def]
    split <;> omega
  rw [Int64.toInt_sub, hz, h6, Int.bmod_def]
  split <;> omega
theorem to32 {w : Int64} {b : Nat} (hb : b < 2 ^ 31) (h : w.toInt = b) : w.toInt32 = nI b := by
  apply Int32.toInt_inj.mp
  have h1 : w.toInt32.toInt = w.toInt.bmod (2 ^ 32) := Int64.toInt_toInt32 _
  have h4 : (2 : Int) ^ 32 = 4294967296 := by decide
  rw [h1, h, nI_toInt hb, Int.bmod_def]
  split <;> omega
def pw : Nat → Nat
  | 0 => 1
  | k + 1 => pw k * 1000000
theorem pw_b {k : Nat} (h : k ≤ 3) : 1 ≤ pw k ∧ pw k ≤ 1000000000000000000 := by
  have e : k = 0 ∨ k = 1 ∨ k = 2 ∨ k = 3 := by omega
  rcases e with rfl | rfl | rfl | rfl <;> decide
theorem e6 : (1000000 : Int64).toInt = ((1000000 : Nat) : Int) := by decide
theorem e0L : (0 : Int64).toInt = 0 := by decide
def gG (s n j : Nat) : Nat := s / pw (n - 1 - j) % 1000000
theorem sp_loop {S0 : XO} {tx : TS} {hs : HS} {Ls : Nat → LnS} {n s : Nat} (hn : n ≤ 3) (hs63 : s < 2 ^ 63) {Q : Int32 → XO → TS → HS → (Nat → LnS) → Prop} (h1 : s / pw n = 0 → ∀ S', S'.1 = S0.1 → (∀ j, j < n → S'.2 j = nI (gG s n j)) → Q 1 S' tx hs Ls) (h0 : ¬ s / pw n = 0 → ∀ S', S'.1 = S0.1 → Q 0 S' tx hs Ls) : ∀ (k fuel : Nat) (S : XO) (z : Int64), k ≤ n → k < fuel → S.1 = S0.1 → z.toInt = ((s / pw (n - k) : Nat) : Int) → (∀ j, k ≤ j → j < n → S.2 j = nI (gG s n j)) → wl_X3_splitScript_8 Q fuel S tx hs Ls z (nI k - 1) := by
  intro k
  induction k with
  | zero =>
    intro fuel S z hk hf hS hz hG
    obtain ⟨fuel, rfl, -⟩ := fuel1 hf
    refine ⟨fun _ => ?_, fun h => absurd i_m1neg h⟩
    rw [lc_eq, hz, e0L, Nat.sub_zero]
    exact ⟨fun e => h1 (by omega) S hS (fun j hj => hG j (Nat.zero_le _) hj), fun e => h0 (fun e2 => e (by rw [e2]; rfl)) S hS⟩
  | succ k ih =>
    intro fuel S z hk hf hS hz hG
    obtain ⟨fuel, rfl, hf⟩ := fuel1 hf
    rw [i_s1]
    refine ⟨fun h => absurd h (i_neg k (by omega)), fun _ => ⟨i_in (by omega) (by decide), ?_⟩⟩
    have hlt : s / pw (n - (k + 1)) < 2 ^ 63 := Nat.lt_of_le_of_lt (Nat.div_le_self _ _) hs63
    rw [i_cl (by omega), i_m1, to32 (b := s / pw (n - (k + 1)) % 1000000) (by omega) (r64 hlt hz e6 (by omega))]
    refine ih fuel _ _ (by omega) (by omega) hS ?_ (fun j hj hjn => ?_)
    · rw [d64 hz e6 (by omega), Nat.div_div_eq_div_mul]
      have : pw (n - k) = pw (n - (k + 1)) * 1000000 := by
        rw [show n - k = (n - (k + 1)) + 1 by omega]
        rfl
      rw [this]
    · show upd S.2 k (nI (s / pw (n - (k + 1)) % 1000000)) j = nI (gG s n j)
      by_cases e : j = k
      · rw [e]
        unfold gG
        rw [show n - 1 - k = n - (k + 1) by omega]
        exact pk_us
      · rw [pk_un e]
        exact hG j (by omega) hjn
theorem ok_splitScript {S0 : XO} {tx : TS} {hs : HS} {Ls : Nat → LnS} {n s : Nat} (hn : n ≤ 3) (hs63 : s < 2 ^ 63) {z : Int64} (hz : z.toInt = s) {Q : Int32 → XO → TS → HS → (Nat → LnS) → Prop} (h1 : s / pw n = 0 → ∀ S', S'.1 = S0.1 → (∀ j, j < n → S'.2 j = nI (gG s n j)) → Q 1 S' tx hs Ls) (h0 : ¬ s / pw n = 0 → ∀ S', S'.1 = S0.1 → Q 0 S' tx hs Ls) : wp_X3_splitScript S0 tx hs Ls (nI n) z Q :=
  ⟨n + 1, sp_loop hn hs63 h1 h0 n (n + 1) S0 z (Nat.le_refl _) (by omega) rfl (by rw [Nat.sub_self, show pw 0 = 1 from rfl, Nat.div_one]; exact hz) (fun j h2 h3 => absurd h3 (by omega))⟩
/-- both obey the commands in the same way -/
theorem rs_joint {n s : Nat} (hn : n ≤ 3) (hs63 : s < 2 ^ 63) {z : Int64} (hz : z.toInt = s) : ∀ (m k : Nat) (A : AL), k + m = n → Ok A → aT A ≤ 40 → ∃ res : Int32,
    (∀ (S : XO) (tx : TS) (hs : HS) (Ls0 Ls : Nat → LnS) (Q : Int32 → XO → TS → HS → (Nat → LnS) → Prop) (QX : String → XO → TS → HS → (Nat → LnS) → Prop) (fuel : Nat), m < fuel → RepL (Ls 1) A → (∀ i, i ≠ 1 → Ls i = Ls0 i) → (∀ j, j < n → S.2 j = nI (gG s n j)) → (∀ Ls', (∀ i, i ≠ 1 → Ls' i = Ls0 i) → Q res S tx hs Ls') → wl_X3_runScript_45 (nI n) Q QX fuel S tx hs Ls (nI k))
    ∧ (∀ (M0 M : MS) (Q : Int32 → MS → Prop) (fuel : Nat) (x : Int64), m < fuel → RepR (M 3) A → (∀ j, j ≠ 3 → j ≠ 7 → j ≠ 8 → M j = M0 j) → x.toInt = ((pw m : Nat) : Int) → (∀ M', (∀ j, j ≠ 3 → j ≠ 7 → j ≠ 8 → M' j = M0 j) → Q res M') → wl_X4_runScript_86 (nI n) z Q fuel M x (nI k)) := by
  intro m
  induction m with
  | zero =>
    intro k A hk hO hT
    refine ⟨-1, fun S tx hs Ls0 Ls Q QX fuel hf hL hF hG hQ => ?_, fun M0 M Q fuel x hf hM hF hx hQ => ?_⟩
    · obtain ⟨fuel, rfl, -⟩ := fuel1 hf
      exact ⟨fun _ => hQ Ls hF, fun h => absurd ((i_le (by omega) (by omega)).mpr (by omega)) h⟩
    · obtain ⟨fuel, rfl, -⟩ := fuel1 hf
      exact ⟨fun _ => hQ M hF, fun h => absurd ((i_le (by omega) (by omega)).mpr (by omega)) h⟩
  | succ m ih =>
    intro k A hk hO hT
    have hgl : gG s n k < 1000000 := Nat.mod_lt _ (by omega)
    obtain ⟨bb, A', hA', hT', hcl, hrf⟩ := cmd hO hT (c := gG s n k / 10000 % 10) (rr := gG s n k % 10000) (by omega) (by omega) (kd := gG s n k / 100000) (by omega)
    have hpm := pw_b (k := m) (by omega)
    have egk : gG s n k = s / pw m % 1000000 := by
      unfold gG
      rw [show n - 1 - k = m by omega]
    have hx4 : ∀ x : Int64, x.toInt = ((pw (m + 1) : Nat) : Int) → (x / 1000000).toInt = ((pw m : Nat) : Int) := fun x hx => by
      rw [d64 hx e6 (by omega)]
      show ((pw m * 1000000 / 1000000 : Nat) : Int) = _
      rw [Nat.mul_div_cancel _ (by omega)]
    have hy : ∀ x : Int64, x.toInt = ((pw (m + 1) : Nat) : Int) → ((z / (x / 1000000)) - (z / (x / 1000000)) / 1000000 * 1000000).toInt32 = nI (gG s n k) := fun x hx => by
      have h1 := hx4 x hx
      have h2 := d64 hz h1 (by omega)
      have h3 : s / pw m < 2 ^ 63 := Nat.lt_of_le_of_lt (Nat.div_le_self _ _) hs63
      have h4 := r64 h3 h2 e6 (by omega)
      rw [egk]
      exact to32 (by omega) h4
    have hnz : ∀ x : Int64, x.toInt = ((pw (m + 1) : Nat) : Int) → ¬ x / 1000000 = 0 := fun x hx e => by
      have h1 := hx4 x hx
      rw [e, e0L] at h1
      omega
    cases bb with
    | true =>
      obtain ⟨res, i1, i2⟩ := ih (k + 1) A' (by omega) hA' hT'
      refine ⟨res, fun S tx hs Ls0 Ls Q QX fuel hf hL hF hG hQ => ?_, fun M0 M Q fuel x hf hM hF hx hQ => ?_⟩
      · obtain ⟨fuel, rfl, hf⟩ := fuel1 hf
        refine ⟨fun h => absurd ((i_le (by omega) (by omega)).mp h) (by omega), fun _ => ⟨i_in (by omega) (by decide), ?_⟩⟩
        rw [i_cl (by omega), hG k (by omega)]
        refine hcl (Ls 1) hL _ hgl rfl rfl rfl _ (fun L' hL' => t1 ?_)
        rw [i_p1]
        refine i1 S tx hs Ls0 _ Q QX fuel (by omega) ?_ (fun i hi => (if_neg hi).trans (hF i hi)) hG hQ
        show RepL (if 1 = 1 then L' else Ls 1) A'
        rw [if_pos rfl]
        exact hL' rfl
      · obtain ⟨fuel, rfl, hf⟩ := fuel1 hf
        refine ⟨fun h => absurd ((i_le (by omega) (by omega)).mp h) (by omega), fun _ => ⟨hnz x hx, ?_⟩⟩
        intro y hy2
        rw [hy x hx] at hy2
        subst hy2
        rw [ob_n1 hgl, ob_n2 hgl, ob_n3 hgl]
        refine hrf M hM _ (fun M' hM' hF' => t1 ?_)
        rw [i_p1]
        exact i2 M0 M' Q fuel _ (by omega) (hM' rfl) (fun j h3 h7 h8 => (hF' j h3 h7 h8).trans (hF j h3 h7 h8)) (hx4 x hx) hQ
    | false =>
      refine ⟨nI k, fun S tx hs Ls0 Ls Q QX fuel hf hL hF hG hQ => ?_, fun M0 M Q fuel x hf hM hF hx hQ => ?_⟩
      · obtain ⟨fuel, rfl, hf⟩ := fuel1 hf
        refine ⟨fun h => absurd ((i_le (by omega) (by omega)).mp h) (by omega), fun _ => ⟨i_in (by omega) (by decide), ?_⟩⟩
        rw [i_cl (by omega), hG k (by omega)]
        exact hcl (Ls 1) hL _ hgl rfl rfl rfl _ (fun L' _ => t0 (hQ _ (fun i hi => (if_neg hi).trans (hF i hi))))
      · obtain ⟨fuel, rfl, hf⟩ := fuel1 hf
        refine ⟨fun h => absurd ((i_le (by omega) (by omega)).mp h) (by omega), fun _ => ⟨hnz x hx, ?_⟩⟩
        intro y hy2
        rw [hy x hx] at hy2
        subst hy2
        rw [ob_n1 hgl, ob_n2 hgl, ob_n3 hgl]
        exact hrf M hM _ (fun M' _ hF' => t0 (hQ M' (fun j h3 h7 h8 => (hF' j h3 h7 h8).trans (hF j h3 h7 h8))))
theorem al_any {M : MS} {x1 : Int32} {z : Int64} {Q : Int32 → MS → Prop} {E : Int64 → Prop} (h : ∀ y, E y) : ∃ n, wl_X4_runScript_6 M x1 z Q E n 1 0 :=
  ⟨4, fun _ => h _, fun _ => ⟨fun _ => h _, fun _ => ⟨fun _ => h _, fun _ => ⟨fun _ => h _, fun _ => ⟨fun _ => h _, fun _ => ⟨fun _ => h _, fun _ => ⟨fun _ => h _, fun _ => ⟨fun _ => h _, fun h2 => absurd (by decide) h2⟩⟩⟩⟩⟩⟩⟩⟩
theorem al_loop {M : MS} {n : Nat} (hn : n ≤ 3) {z : Int64} {Q : Int32 → MS → Prop} {E : Int64 → Prop} (h : ∀ y : Int64, y.toInt = ((pw n : Nat) : Int) → E y) : ∀ (m k fuel : Nat) (x : Int64), k + m = n → m < fuel → x.toInt = ((pw k : Nat) : Int) → wl_X4_runScript_6 M (nI n) z Q E fuel x (nI k) := by
  intro m
  induction m with
  | zero =>
    intro k fuel x hk hf hx
    obtain ⟨fuel, rfl, -⟩ := fuel1 hf
    rw [show k = n by omega] at hx ⊢
    exact ⟨fun _ => h x hx, fun h2 => absurd ((i_le (by omega) (by omega)).mpr (Nat.le_refl _)) h2⟩
  | succ m ih =>
    intro k fuel x hk hf hx
    obtain ⟨fuel, rfl, hf⟩ := fuel1 hf
    refine ⟨fun h2 => absurd ((i_le (by omega) (by omega)).mp h2) (by omega), fun _ => ⟨fun h2 => ?_, fun _ => ?_⟩⟩
    · rw [show (3 : Int32) = nI 3 from rfl, i_le (by omega) (by omega)] at h2
      omega
    · rw [i_p1]
      refine ih (k + 1) fuel _ (by omega) (by omega) ?_
      have hp := pw_b (k := k) (by omega)
      have hp2 := pw_b (k := k + 1) (by omega)
      have hs : pw (k + 1) = pw k * 1000000 := rfl
      have h4 : (2 : Int) ^ 64 = 18446744073709551616 := by decide
      rw [Int64.toInt_mul, hx, e6, ← Int.natCast_mul, ← hs, Int.bmod_def]
      split <;> omega
theorem sim_runScript {k : Nat} {M : MS} {S : XO} {tx : TS} {hs : HS} {Ls : Nat → LnS} (h : Rl k M S tx hs Ls) {f : Nat → Int64} {x : Int32} { z : Int64} {C : CT} {P : Int32 → (Nat → Int64) → XO → TS → HS → (Nat → LnS) → Prop} (hC : NX k C) (hP : ∀ r g S' tx' hs' Ls', wp_X4_runScript M x z (JI C r g S' tx' hs' Ls') → P r g S' tx' hs' Ls') : wp_L_runScript f S tx hs Ls x z P := by
  obtain ⟨σ, hc, hr, hi⟩ := h
  have hO := hi.2.1.1
  unfold wp_L_runScript wp_X3_runScript
  obtain ⟨t, A, hh, b⟩ := σ
  have hO : Ok A := hO
  have hL : RepL (Ls 0) A := hc.2.1
  have hRr : RepR (M 2) A := hr.2.1
  have hT : aT A ≤ 40 := hi.2.1.2.1
  rcases rgc x 1 3 (by decide) with ⟨n, hn1, hn, rfl, hx⟩ | hx
  · have hpw := pw_b hn
    have r1 : ∀ {Q : Int32 → MS → Prop}, (z.toInt < 0 ∨ ((pw n : Nat) : Int) ≤ z.toInt → Q 0 (zs2 M 0 0 1)) → (0 ≤ z.toInt → z.toInt < ((pw n : Nat) : Int) → ∀ y : Int64, y.toInt = ((pw n : Nat) : Int) → ∀ G, RepR G A → ∃ fuel, wl_X4_runScript_86 (nI n) z Q fuel (zr2 (zs2 M 0 0 0) 3 G) y 0) → wp_X4_runScript M (nI n) z Q := by
      intro Q q1 q2
      refine ⟨n + 1, al_loop hn (fun y hy => ?_) n 0 (n + 1) 1 (by omega) (by omega) (by decide)⟩
      refine in_yes (l := 1) (h := 3) (by decide) (by decide) hx (t1 ?_)
      have hy1 : (y - 1).toInt = ((pw n : Nat) : Int) - 1 := by
        have e1 : (1 : Int64).toInt = 1 := by decide
        have h4 : (2 : Int) ^ 64 = 18446744073709551616 := by decide
        rw [Int64.toInt_sub, hy, e1, Int.bmod_def]
        split <;> omega
      refine ok_in (fun h => t0 (ok_ry (by decide) (t1 (q1 ?_)))) (fun h => t1 (ok_rn (t0 (ok_cp hRr hO.2.2.1 (fun G hG => q2 ?_ ?_ y hy G hG)))))
      · rw [e0L, hy1] at h
        omega
      · rw [e0L] at h
        exact h.1
      · rw [hy1] at h
        omega
    refine rg_yes (l := 1) (h := 3) (by decide) (by decide) hx ?_
    rw [lc_lt, e0L]
    refine ⟨fun hz => x1 (hP _ _ _ _ _ _ (r1 (fun _ => fin_ex n1 rfl (hC.go hc (hr.ref _) hi)) (fun h => absurd h (by omega)))), fun hz => ?_⟩
    have hz63 := z.toInt_lt
    obtain ⟨s, hzs⟩ : ∃ s : Nat, z.toInt = s := ⟨z.toInt.toNat, by omega⟩
    have hs63 : s < 2 ^ 63 := by
      have h4 : (2 : Int) ^ 63 = 9223372036854775808 := by decide
      have h5 : (2 : Nat) ^ 63 = 9223372036854775808 := by decide
      omega
    refine ok_splitScript hn hs63 hzs (fun e S' hS' hG => t1 (ok_copyFrom hL hO (fun L5 hL5 => ?_))) (fun e S' hS' => t0 (x1 (hP _ _ _ _ _ _ (r1 (fun _ => fin_ex n1 rfl (hC.go (hc.mild (fun _ _ => rfl) hS') (hr.ref _) hi)) (fun _ h => absurd ?_ e)))))
    · obtain ⟨res, i1, i2⟩ := rs_joint hn hs63 hzs n 0 A (by omega) hO hT
      have hlt : s < pw n := (Nat.div_eq_zero_iff_lt (by omega)).mp e
      refine ⟨n + 1, i1 S' tx hs Ls _ _ _ (n + 1) (by omega) ?_ (fun i hi2 => if_neg hi2) hG (fun Ls' hF => hP _ _ _ _ _ _ ?_)⟩
      · show RepL (if 1 = 1 then L5 else Ls 1) A
        rw [if_pos rfl]
        exact hL5
      · refine r1 (fun h => absurd h (by omega)) (fun _ _ y hy G hG2 => ⟨n + 1, i2 (zr2 (zs2 M 0 0 0) 3 G) _ _ (n + 1) y (by omega) hG2 (fun _ _ _ _ => rfl) hy (fun M' hF' => ?_)⟩)
        have h3 := hr.tri hF'
        exact fin_ok h3.2 rfl (hC.go (hc.mild hF hS') h3.1 hi)
    · exact Nat.div_eq_of_lt (by omega)
  · refine rg_no (l := 1) (h := 3) (by decide) (by decide) hx (x1 (hP _ _ _ _ _ _ ?_))
    refine al_any (fun y => ?_)
    exact in_no (l := 1) (h := 3) (by decide) (by decide) hx (t0 (ok_ry (by decide) (t1 (fin_ex n1 rfl (hC.go hc (hr.ref _) hi)))))

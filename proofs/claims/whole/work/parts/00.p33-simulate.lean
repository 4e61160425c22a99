/-! Simulations. -/
/-- the random number of a turn -/
theorem rnd (y : Int64) : ∃ n : Nat, n < 2 ^ 31 ∧ ((y.toUInt64 >>> ((33 : Int32).toInt64.toUInt64 &&& Int64.toUInt64 63)).toInt64).toInt32 = nI n := by
  have e : ((33 : Int32).toInt64.toUInt64 &&& Int64.toUInt64 63) = (33 : UInt64) := by decide
  rw [e]
  refine ⟨(y.toUInt64 >>> (33 : UInt64)).toNat, ?_, ?_⟩
  · have h1 := y.toUInt64.toNat_lt
    have h2 : (y.toUInt64 >>> (33 : UInt64)).toNat = y.toUInt64.toNat / 2 ^ 33 := by
      rw [UInt64.toNat_shiftRight, Nat.shiftRight_eq_div_pow]
      rfl
    have h3 : (2 : Nat) ^ 33 = 8589934592 := by decide
    have h4 : (2 : Nat) ^ 64 = 18446744073709551616 := by decide
    have h5 : (2 : Nat) ^ 31 = 2147483648 := by decide
    rw [h2, h3]
    omega
  · obtain ⟨u, hu⟩ : ∃ u : UInt64, u = y.toUInt64 >>> (33 : UInt64) := ⟨_, rfl⟩
    rw [← hu]
    have e1 : u.toInt64 = Int64.ofNat u.toNat := by
      have := UInt64.toInt64_ofNat' (n := u.toNat)
      rwa [UInt64.ofNat_toNat] at this
    rw [e1]
    exact Int64.toInt32_ofNat'
theorem tn_n1 {n : Nat} (h : n < 2 ^ 31) : nI n / (8 : Int32) = nI (n / 8) := pk_div h (by decide) (by decide)
theorem tn_n2 {n : Nat} (h : n < 2 ^ 31) : nI n - nI n / (8 : Int32) * (8 : Int32) = nI (n % 8) := pk_rem h (by decide) (by decide)
theorem tn_n3 {n : Nat} (h : n < 2 ^ 31) : nI n / (64 : Int32) - nI n / (64 : Int32) / (81 : Int32) * (81 : Int32) = nI (n / 64 % 81) := by
  rw [show (64 : Int32) = nI 64 from rfl, show (81 : Int32) = nI 81 from rfl, pk_div h (by decide) (by decide), pk_rem (Nat.lt_of_le_of_lt (Nat.div_le_self _ _) h) (by decide) (by decide)]
theorem tn_n4 {n C : Nat} (h : n < 2 ^ 31) (hC : 1 ≤ C ∧ C ≤ 6) : nI n / (8 : Int32) - nI n / (8 : Int32) / nI C * nI C = nI (n / 8 % C) := by
  have h5 : (2 : Nat) ^ 31 = 2147483648 := by decide
  rw [tn_n1 h, pk_rem (Nat.lt_of_le_of_lt (Nat.div_le_self _ _) h) (by omega) (by omega)]
theorem tn_n5 {c C : Nat} (hc : c < C) (hC : 1 ≤ C ∧ C ≤ 6) : nI c + 1 - (nI c + 1) / nI C * nI C = nI ((c + 1) % C) := by
  have h5 : (2 : Nat) ^ 31 = 2147483648 := by decide
  rw [i_p1, pk_rem (by omega) (by omega) (by omega)]
/-- both take a turn in the same way; the reference lets a beat pass at once -/
theorem tn_joint {A : AL} (hO : Ok A) (hT : aT A ≤ 40) {n : Nat} (hn : n < 2 ^ 31) : ∃ A', Ok A' ∧ aT A' ≤ 40
    ∧ (∀ L, RepL L A → ∀ (Q : LnS → Prop), (∀ L', RepL L' A' → Q L') → wp_X3_takeTurn L (nI n) Q)
    ∧ (∀ M, RepR (M 3) A → ∀ (Q : MS → Prop), (∀ M', RepR (M' 3) (bt A') → (∀ j, j ≠ 3 → j ≠ 7 → j ≠ 8 → M' j = M j) → Q M') → wp_X4_turn M (nI n) Q) := by
  have hC := hO.1
  obtain ⟨c, hc⟩ : ∃ c, c = n / 8 % aC A := ⟨_, rfl⟩
  obtain ⟨d, hd⟩ : ∃ d, d = (c + 1) % aC A := ⟨_, rfl⟩
  obtain ⟨v, hv⟩ : ∃ v, v = n / 64 % 81 := ⟨_, rfl⟩
  obtain ⟨q, hq⟩ : ∃ q, q = n % 8 := ⟨_, rfl⟩
  have hcc : c < aC A := by rw [hc]; exact Nat.mod_lt _ (by omega)
  have hdd : d < aC A := by rw [hd]; exact Nat.mod_lt _ (by omega)
  have hv81 : v < 81 := by rw [hv]; exact Nat.mod_lt _ (by omega)
  have hq8 : q < 8 := by rw [hq]; exact Nat.mod_lt _ (by omega)
  have h6 := hO.c6 hcc
  have d6 := hO.c6 hdd
  have h9 := hO.p9 c
  -- the class goes to the kind of the turn
  have cl : ∀ L, RepL L A → ∀ (Q : LnS → Prop), (q = 0 → wp_X1_tryDraw L (nI c) (fun _ u => Q u)) → (q = 1 → wp_X1_tryDraw L (nI c) (fun _ u => Q u)) → (q = 2 → wp_X1_tryDraw L (nI c) (fun _ u => Q u)) → (q = 3 → wp_X1_tryPutDigits L (nI c) (nI v) (fun _ u => Q u)) → (q = 4 → wp_X1_tryPutDigits L (nI c) (-nI v) (fun _ u => Q u)) → (q = 5 → wp_X1_tryPour L (nI c) (nI d) (fun u => Q u)) → (6 ≤ q → Q L) → wp_X3_takeTurn L (nI n) Q := by
    intro L hL Q k0 k1 k2 k3 k4 k5 k6
    have e : ∀ p : Nat, p < 8 → (nI q = nI p ↔ q = p) := fun p hp => i_eq (by omega) (by omega)
    unfold wp_X3_takeTurn
    rw [hL.1.1]
    have nz : ¬ nI (aC A) = 0 := fun h => by
      have := (i0 (by omega)).mp h
      omega
    refine tp ((i_le (a := 1) (by omega) (by omega)).mpr hC.1) ⟨nz, ?_⟩
    intro y3 h3 y4 h4
    rw [tn_n4 hn hC, ← hc] at h3
    rw [tn_n3 hn, ← hv] at h4
    subst h3
    subst h4
    rw [tn_n2 hn, ← hq, tn_n5 hcc hC, ← hd, show (0 : Int32) = nI 0 from rfl, show (1 : Int32) = nI 1 from rfl, show (2 : Int32) = nI 2 from rfl, show (3 : Int32) = nI 3 from rfl, show (4 : Int32) = nI 4 from rfl, show (5 : Int32) = nI 5 from rfl, e 0 (by omega), e 1 (by omega), e 2 (by omega), e 3 (by omega), e 4 (by omega), e 5 (by omega)]
    exact ⟨k0, fun _ => ⟨k1, fun _ => ⟨k2, fun _ => ⟨k3, fun _ => ⟨k4, fun _ => ⟨fun h => ⟨nz, k5 h⟩, fun _ => k6 (by omega)⟩⟩⟩⟩⟩⟩
  -- and so does the reference
  have rf : ∀ M, RepR (M 3) A → ∀ (Q : MS → Prop), (q < 3 → aT A < 40 → wp_X4_drawOn (M 3) (nI c) (fun _ u => wp_X4_beat_t (zr2 M 3 u) (fun u => Q u))) → (q = 3 → fitN A c v = true → wp_X4_addOn (M 3) (nI c) (nI v) (fun _ u => wp_X4_beat_t (zr2 M 3 u) (fun u => Q u))) → (q = 4 → fitN A c v = true → wp_X4_addOn (M 3) (nI c) (-nI v) (fun _ u => wp_X4_beat_t (zr2 M 3 u) (fun u => Q u))) → (q = 5 → ¬ c = d → wp_X4_pourOn (M 3) (nI c) (nI d) (fun _ u => wp_X4_beat_t (zr2 M 3 u) (fun u => Q u))) → ((¬ (q < 3 ∧ aT A < 40) ∧ ¬ (q = 3 ∧ fitN A c v = true) ∧ ¬ (q = 4 ∧ fitN A c v = true) ∧ ¬ (q = 5 ∧ ¬ c = d)) → wp_X4_beat_t M (fun u => Q u)) → wp_X4_turn M (nI n) Q := by
    intro M hM Q k0 k3 k4 k5 k6
    have e : ∀ p : Nat, p < 8 → (nI q = nI p ↔ q = p) := fun p hp => i_eq (by omega) (by omega)
    have nz : ¬ nI (aC A) = 0 := fun h => by
      have := (i0 (by omega)).mp h
      omega
    have ecd : (nI c = nI d) ↔ c = d := i_eq (by omega) (by omega)
    unfold wp_X4_turn
    rw [z0, hM.1.1]
    refine ⟨nz, ?_⟩
    intro y2 h2
    refine ⟨nz, ?_⟩
    intro y4 h4 y5 h5
    rw [tn_n4 hn hC, ← hc] at h2
    subst h2
    rw [tn_n5 hcc hC, ← hd] at h4
    rw [tn_n3 hn, ← hv] at h5
    subst h4
    subst h5
    rw [tn_n2 hn, ← hq, z3, hM.1.2.2.2, show (3 : Int32) = nI 3 from rfl, show (4 : Int32) = nI 4 from rfl, show (5 : Int32) = nI 5 from rfl, show (40 : Int32) = nI 40 from rfl, e 3 (by omega), e 4 (by omega), e 5 (by omega), i_le (by omega) (by omega), i_le (by omega) (by omega), ecd]
    refine ⟨fun g3 => ⟨fun a => ?_, fun a => ⟨fun a4 => ?_, fun a4 => ⟨fun a5 => ⟨fun g => k6 (by omega), fun g => k5 a5 g⟩, fun a5 => k6 (by omega)⟩⟩⟩, fun g3 => ⟨fun g40 => ⟨fun a => absurd a (by omega), fun _ => ⟨fun a => absurd a (by omega), fun _ => ⟨fun a => absurd a (by omega), fun _ => k6 (by omega)⟩⟩⟩, fun g40 => k0 (by omega) (by omega)⟩⟩
    · refine ok_fits (s := false) hM hO h6 (by omega) (tb (fun hf => tn (by omega) (k6 ⟨by omega, fun h => hf h.2, fun h => hf h.2, by omega⟩)) (fun hf => tp a (k3 a hf)))
    · refine ok_fits (s := false) hM hO h6 (by omega) (tb (fun hf => tn (by omega) (k6 ⟨by omega, fun h => hf h.2, fun h => hf h.2, by omega⟩)) (fun hf => tn a (k4 a4 hf)))
  have frm : ∀ (M : MS) (r : Nat → Int32) (M' : MS), (∀ j, j ≠ 3 → j ≠ 7 → j ≠ 8 → M' j = zr2 M 3 r j) → ∀ j, j ≠ 3 → j ≠ 7 → j ≠ 8 → M' j = M j := fun M r M' h j h3 h7 h8 => (h j h3 h7 h8).trans (if_neg h3)
  have same : (∀ L, RepL L A → ∀ (Q : LnS → Prop), (∀ L', RepL L' A → Q L') → wp_X3_takeTurn L (nI n) Q) → (¬ (q < 3 ∧ aT A < 40) ∧ ¬ (q = 3 ∧ fitN A c v = true) ∧ ¬ (q = 4 ∧ fitN A c v = true) ∧ ¬ (q = 5 ∧ ¬ c = d)) → ∃ A', Ok A' ∧ aT A' ≤ 40
      ∧ (∀ L, RepL L A → ∀ (Q : LnS → Prop), (∀ L', RepL L' A' → Q L') → wp_X3_takeTurn L (nI n) Q)
      ∧ (∀ M, RepR (M 3) A → ∀ (Q : MS → Prop), (∀ M', RepR (M' 3) (bt A') → (∀ j, j ≠ 3 → j ≠ 7 → j ≠ 8 → M' j = M j) → Q M') → wp_X4_turn M (nI n) Q) := fun hcl hno =>
    ⟨A, hO, hT, hcl, fun M hM Q hQ => rf M hM Q (fun h1 h2 => absurd ⟨h1, h2⟩ hno.1) (fun h1 h2 => absurd ⟨h1, h2⟩ hno.2.1) (fun h1 h2 => absurd ⟨h1, h2⟩ hno.2.2.1) (fun h1 h2 => absurd ⟨h1, h2⟩ hno.2.2.2) (fun _ => ok_beat_t hM hO (fun M' hM' hF' => hQ M' hM' hF'))⟩
  have eqc : ∀ {c'}, c' < aC A → nI c = nI c' → c' = c := fun {c'} hc' e => ((i_eq (by omega) (by omega)).mp e).symm
  by_cases q3 : q < 3
  · by_cases h40 : aT A < 40
    · have td : ∀ L, RepL L A → ∀ (Q : LnS → Prop), (∀ L', RepL L' (dr A c) → Q L') → wp_X1_tryDraw L (nI c) (fun _ u => Q u) := fun L hL Q hQ => ok_tryDraw hL hO (fun h => absurd h (ctrM hO hcc (by omega))) (fun c' _ _ h => absurd h (by omega)) (fun c' hc' e _ L' hL' => by
        rw [eqc hc' e] at hL'
        exact hQ L' hL')
      have hB := dr_ok hO hcc (by omega)
      refine ⟨dr A c, hB, h40, fun L hL Q hQ => cl L hL Q (fun _ => td L hL Q hQ) (fun _ => td L hL Q hQ) (fun _ => td L hL Q hQ) (fun h => absurd h (by omega)) (fun h => absurd h (by omega)) (fun h => absurd h (by omega)) (fun h => absurd h (by omega)), fun M hM Q hQ => ?_⟩
      exact rf M hM Q (fun _ _ => ok_drawOn hM hO h6 (by omega) (fun r' hr' => ok_beat_t (M := zr2 M 3 r') hr' hB (fun M' hM' hF' => hQ M' hM' (frm M r' M' hF')))) (fun h => absurd h (by omega)) (fun h => absurd h (by omega)) (fun h => absurd h (by omega)) (fun h => absurd ⟨q3, h40⟩ h.1)
    · have td : ∀ L, RepL L A → ∀ (Q : LnS → Prop), (∀ L', RepL L' A → Q L') → wp_X1_tryDraw L (nI c) (fun _ u => Q u) := fun L hL Q hQ => ok_tryDraw hL hO (fun h => hQ L hL) (fun c' _ _ h => hQ L hL) (fun c' hc' e h L' hL' => absurd h h40)
      refine same (fun L hL Q hQ => cl L hL Q (fun _ => td L hL Q hQ) (fun _ => td L hL Q hQ) (fun _ => td L hL Q hQ) (fun h => absurd h (by omega)) (fun h => absurd h (by omega)) (fun h => absurd h (by omega)) (fun h => absurd h (by omega))) ⟨fun h => h40 h.2, by omega, by omega, by omega⟩
  · by_cases q4 : q = 3 ∨ q = 4
    · by_cases hf : fitN A c v = true
      · obtain ⟨s, hs3, hs4⟩ : ∃ s : Bool, (q = 3 → s = false) ∧ (q = 4 → s = true) := by
          rcases q4 with h | h
          · exact ⟨false, fun _ => rfl, fun h2 => by omega⟩
          · exact ⟨true, fun h2 => by omega, fun _ => rfl⟩
        have hB := pd_ok hO s c v (aP A c) (Nat.le_refl _)
        have fr := pd_fr A s c v (aP A c)
        have eT : aT (pd A s c v (aP A c)) = aT A := congrArg (fun z => z.2.2.2) fr.1
        have tq : ∀ L, RepL L A → ∀ (Q : LnS → Prop), (∀ L', RepL L' (pd A s c v (aP A c)) → Q L') → wp_X1_tryPutDigits L (nI c) (sv s v) (fun _ u => Q u) := fun L hL Q hQ => ok_tryPutDigits hL hO (by omega) (fun h => absurd h (ctrM hO hcc (by omega))) (fun c' hc' e h => by
            rw [eqc hc' e] at h
            exact absurd hf h) (fun c' hc' e _ L' hL' => by
            rw [eqc hc' e] at hL'
            exact hQ L' hL')
        refine ⟨pd A s c v (aP A c), hB, by rw [eT]; exact hT, fun L hL Q hQ => cl L hL Q (fun h => absurd h (by omega)) (fun h => absurd h (by omega)) (fun h => absurd h (by omega)) (fun h => ?_) (fun h => ?_) (fun h => absurd h (by omega)) (fun h => absurd h (by omega)), fun M hM Q hQ => ?_⟩
        · have := tq L hL Q hQ
          rw [hs3 h] at this
          exact this
        · have := tq L hL Q hQ
          rw [hs4 h] at this
          exact this
        · have ta : wp_X4_addOn (M 3) (nI c) (sv s v) (fun _ u => wp_X4_beat_t (zr2 M 3 u) (fun u => Q u)) := ok_addOn hM hO h6 (by omega) (fun r' hr' => ok_beat_t (M := zr2 M 3 r') hr' hB (fun M' hM' hF' => hQ M' hM' (frm M r' M' hF')))
          refine rf M hM Q (fun h => absurd h q3) (fun h _ => ?_) (fun h _ => ?_) (fun h => absurd h (by omega)) (fun h => ?_)
          · rw [hs3 h] at ta
            exact ta
          · rw [hs4 h] at ta
            exact ta
          · rcases q4 with h2 | h2
            · exact absurd ⟨h2, hf⟩ h.2.1
            · exact absurd ⟨h2, hf⟩ h.2.2.1
      · have tq : ∀ (s : Bool) L, RepL L A → ∀ (Q : LnS → Prop), (∀ L', RepL L' A → Q L') → wp_X1_tryPutDigits L (nI c) (sv s v) (fun _ u => Q u) := fun s L hL Q hQ => ok_tryPutDigits hL hO (by omega) (fun h => hQ L hL) (fun c' hc' e h => hQ L hL) (fun c' hc' e h L' hL' => by
            rw [eqc hc' e] at h
            exact absurd h hf)
        exact same (fun L hL Q hQ => cl L hL Q (fun h => absurd h (by omega)) (fun h => absurd h (by omega)) (fun h => absurd h (by omega)) (fun h => tq false L hL Q hQ) (fun h => tq true L hL Q hQ) (fun h => absurd h (by omega)) (fun h => absurd h (by omega))) ⟨fun h => q3 h.1, fun h => hf h.2, fun h => hf h.2, by omega⟩
    · by_cases q5 : q = 5
      · by_cases hcd : c = d
        · exact same (fun L hL Q hQ => cl L hL Q (fun h => absurd h (by omega)) (fun h => absurd h (by omega)) (fun h => absurd h (by omega)) (fun h => absurd h (by omega)) (fun h => absurd h (by omega)) (fun _ => ok_tryPour hL hO hcc hdd (fun _ => hQ L hL) (fun h => absurd hcd h)) (fun h => absurd h (by omega))) ⟨fun h => q3 h.1, by omega, by omega, fun h => h.2 hcd⟩
        · have hB := pr_ok hO c d (aP A c) (Nat.le_refl _)
          have fr := pr_fr A c d (aP A c)
          have eT : aT (pr A c d (aP A c)) = aT A := congrArg (fun z => z.2.2.2) fr.1
          refine ⟨pr A c d (aP A c), hB, by rw [eT]; exact hT, fun L hL Q hQ => cl L hL Q (fun h => absurd h (by omega)) (fun h => absurd h (by omega)) (fun h => absurd h (by omega)) (fun h => absurd h (by omega)) (fun h => absurd h (by omega)) (fun _ => ok_tryPour hL hO hcc hdd (fun h => absurd h hcd) (fun _ L' hL' => hQ L' hL')) (fun h => absurd h (by omega)), fun M hM Q hQ => ?_⟩
          exact rf M hM Q (fun h => absurd h q3) (fun h => absurd h (by omega)) (fun h => absurd h (by omega)) (fun _ h => ok_pourOn hM hO h6 d6 h (fun r' hr' => ok_beat_t (M := zr2 M 3 r') hr' hB (fun M' hM' hF' => hQ M' hM' (frm M r' M' hF')))) (fun h => absurd ⟨q5, hcd⟩ h.2.2.2)
      · exact same (fun L hL Q hQ => cl L hL Q (fun h => absurd h (by omega)) (fun h => absurd h (by omega)) (fun h => absurd h (by omega)) (fun h => absurd h (by omega)) (fun h => absurd h (by omega)) (fun h => absurd h (by omega)) (fun _ => hQ L hL)) ⟨fun h => q3 h.1, by omega, by omega, by omega⟩
/-- all the turns -/
theorem sim_joint {N : Nat} (hN : N ≤ 99) {w : Int32} : ∀ (m k : Nat) (y : Int64) (A : AL), k + m = N → Ok A → aT A ≤ 40 → ∃ res : Int32,
    (∀ (S : XO) (tx : TS) (hs : HS) (Ls0 Ls : Nat → LnS) (Q : Int32 → XO → TS → HS → (Nat → LnS) → Prop) (QX : String → XO → TS → HS → (Nat → LnS) → Prop) (fuel : Nat), m < fuel → RepL (Ls 1) A → (∀ i, i ≠ 1 → Ls i = Ls0 i) → (∀ Ls', (∀ i, i ≠ 1 → Ls' i = Ls0 i) → Q res S tx hs Ls') → wl_X3_simulate_33 (nI N) w Q QX fuel S tx hs Ls y (nI k))
    ∧ (∀ (M0 M : MS) (A0 : AL) (Q : Int32 → MS → Prop) (fuel : Nat), m < fuel → RepR (M0 2) A0 → Ok A0 → nI (aDb A0) = w → RepR (M 3) A → (∀ j, j ≠ 3 → j ≠ 7 → j ≠ 8 → M j = M0 j) → (∀ M', (∀ j, j ≠ 3 → j ≠ 7 → j ≠ 8 → M' j = M0 j) → Q res M') → wl_X4_simulate_45 (nI N) Q fuel M y (nI k)) := by
  intro m
  induction m with
  | zero =>
    intro k y A hk hO hT
    refine ⟨(1000 : Int32) * (nI (aDb A) - w) + nI (aI A), fun S tx hs Ls0 Ls Q QX fuel hf hL hF hQ => ?_, fun M0 M A0 Q fuel hf hR0 hO0 hw hM hF hQ => ?_⟩
    · obtain ⟨fuel, rfl, -⟩ := fuel1 hf
      exact ⟨fun _ => ok_pairs hL hO (ok_waitingInAll hL hO (hQ Ls hF)), fun h => absurd ((i_le (by omega) (by omega)).mpr (by omega)) h⟩
    · obtain ⟨fuel, rfl, -⟩ := fuel1 hf
      have hR2 : RepR (M 2) A0 := by
        rw [hF 2 (by decide) (by decide) (by decide)]
        exact hR0
      refine ⟨fun _ => ok_doublesOn hM hO (ok_doublesOn hR2 hO0 (ok_waitsInAll hM hO ?_)), fun h => absurd ((i_le (by omega) (by omega)).mpr (by omega)) h⟩
      rw [hw]
      exact hQ M hF
  | succ m ih =>
    intro k y A hk hO hT
    obtain ⟨n, hn, en⟩ := rnd (y * (6364136223846793005 : Int64) + (1442695040888963407 : Int64))
    obtain ⟨A', hA', hT', hcl, hrf⟩ := tn_joint hO hT hn
    obtain ⟨res, i1, i2⟩ := ih (k + 1) (y * (6364136223846793005 : Int64) + (1442695040888963407 : Int64)) (bt A') (by omega) (bt_ok hA') hT'
    refine ⟨res, fun S tx hs Ls0 Ls Q QX fuel hf hL hF hQ => ?_, fun M0 M A0 Q fuel hf hR0 hO0 hw hM hF hQ => ?_⟩
    · obtain ⟨fuel, rfl, hf⟩ := fuel1 hf
      refine ⟨fun h => absurd ((i_le (by omega) (by omega)).mp h) (by omega), fun _ => ?_⟩
      intro y7 h7
      subst h7
      rw [en]
      refine hcl (Ls 1) hL _ (fun L8 hL8 => ok_passBeats (N := 1) hL8 hA' (by omega) (fun L9 hL9 => ?_))
      rw [i_p1]
      refine i1 S tx hs Ls0 _ Q QX fuel (by omega) ?_ (fun i hi => (if_neg hi).trans (hF i hi)) hQ
      show RepL (if 1 = 1 then L9 else Ls 1) _
      rw [if_pos rfl]
      exact hL9
    · obtain ⟨fuel, rfl, hf⟩ := fuel1 hf
      refine ⟨fun h => absurd ((i_le (by omega) (by omega)).mp h) (by omega), fun _ => ?_⟩
      intro y7 h7
      subst h7
      rw [en]
      refine hrf M hM _ (fun M' hM' hF' => ?_)
      rw [i_p1]
      exact i2 M0 M' A0 Q fuel (by omega) hR0 hO0 hw hM' (fun j h3 h7 h8 => (hF' j h3 h7 h8).trans (hF j h3 h7 h8)) hQ
theorem sim_simulate {k : Nat} {M : MS} {S : XO} {tx : TS} {hs : HS} {Ls : Nat → LnS} (h : Rl k M S tx hs Ls) {f : Nat → Int64} {z : Int64} { x : Int32} {C : CT} {P : Int32 → (Nat → Int64) → XO → TS → HS → (Nat → LnS) → Prop} (hC : NX k C) (hP : ∀ r g S' tx' hs' Ls', wp_X4_simulate M z x (JI C r g S' tx' hs' Ls') → P r g S' tx' hs' Ls') : wp_L_simulate f S tx hs Ls z x P := by
  obtain ⟨σ, hc, hr, hi⟩ := h
  have hO := hi.2.1.1
  unfold wp_L_simulate wp_X3_simulate
  obtain ⟨t, A, hh, b⟩ := σ
  have hO : Ok A := hO
  have hL : RepL (Ls 0) A := hc.2.1
  have hRr : RepR (M 2) A := hr.2.1
  have hT : aT A ≤ 40 := hi.2.1.2.1
  rcases rgc x 1 99 (by decide) with ⟨N, -, hN, rfl, hx⟩ | hx
  · obtain ⟨res, i1, i2⟩ := sim_joint hN (w := nI (aDb A)) N 0 z A (by omega) hO hT
    refine rg_yes (l := 1) (h := 99) (by decide) (by decide) hx (ok_copyFrom hL hO (fun L2 hL2 => ok_pairs hL2 hO ⟨N + 1, ?_⟩))
    refine i1 S tx hs Ls _ _ _ (N + 1) (by omega) ?_ (fun i hi2 => if_neg hi2) (fun Ls' hF => hP _ _ _ _ _ _ ?_)
    · show RepL (if 1 = 1 then L2 else Ls 1) A
      rw [if_pos rfl]
      exact hL2
    · refine in_yes (l := 1) (h := 99) (by decide) (by decide) hx (t1 (ok_rn (t0 (ok_cp hRr hO.2.2.1 (fun G hG => ⟨N + 1, ?_⟩)))))
      refine i2 (zr2 (zs2 M 0 0 0) 3 G) _ A _ (N + 1) (by omega) hRr hO rfl hG (fun _ _ _ _ => rfl) (fun M' hF' => ?_)
      have h3 := hr.tri hF'
      exact fin_ok h3.2 rfl (hC.go (hc.mild hF rfl) h3.1 hi)
  · refine rg_no (l := 1) (h := 99) (by decide) (by decide) hx (x1 (hP _ _ _ _ _ _ ?_))
    exact in_no (l := 1) (h := 99) (by decide) (by decide) hx (t0 (ok_ry (by decide) (t1 (fin_ex n1 rfl (hC.go hc (hr.ref _) hi)))))

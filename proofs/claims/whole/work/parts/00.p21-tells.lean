/-! The calls that tell of the line. -/
theorem sim_about {k : Nat} {M : MS} {S : XO} {tx : TS} {hs : HS} {Ls : Nat → LnS} (h : Rl k M S tx hs Ls) {f : Nat → Int64} {x : Int32} {C : CT} {P : Int32 → (Nat → Int64) → XO → TS → HS → (Nat → LnS) → Prop} (hC : NX k C) (hP : ∀ r g S' tx' hs' Ls', wp_X4_about M x (JI C r g S' tx' hs' Ls') → P r g S' tx' hs' Ls') : wp_L_about f S tx hs Ls x P := by
  obtain ⟨σ, hc, hr, hi⟩ := h
  have hO := hi.2.1.1
  unfold wp_L_about wp_X3_about
  rcases rgc x 0 6 (by decide) with ⟨n, -, hn, rfl, hx⟩ | hx
  · refine rg_yes (l := 0) (h := 6) (by decide) (by decide) hx ?_
    have yes : ∀ {Q : Int32 → Prop}, Q 1 → wp_X4_in (nI n).toInt64 0 6 Q := fun h => in_yes (l := 0) (h := 6) (by decide) (by decide) hx h
    have e : n = 0 ∨ n = 1 ∨ n = 2 ∨ n = 3 ∨ n = 4 ∨ n = 5 ∨ n = 6 := by omega
    rcases e with rfl | rfl | rfl | rfl | rfl | rfl | rfl
    · refine tp (by decide) (hP _ _ _ _ _ _ ?_)
      exact yes (t1 (ok_rn (t0 (tn (by decide) ⟨i_in (by omega) (by decide), fin_ok rfl (hc.2.1.1.1.trans hr.2.1.1.1.symm) (hC.go hc (hr.ref _) hi)⟩))))
    · refine tn (by decide) (tp (by decide) (hP _ _ _ _ _ _ ?_))
      exact yes (t1 (ok_rn (t0 (tn (by decide) ⟨i_in (by omega) (by decide), fin_ok rfl (hc.2.1.1.2.1.trans hr.2.1.1.2.1.symm) (hC.go hc (hr.ref _) hi)⟩))))
    · refine tn (by decide) (tn (by decide) (tp (by decide) (hP _ _ _ _ _ _ ?_)))
      exact yes (t1 (ok_rn (t0 (tn (by decide) ⟨i_in (by omega) (by decide), fin_ok rfl (hc.2.1.1.2.2.1.trans hr.2.1.1.2.2.1.symm) (hC.go hc (hr.ref _) hi)⟩))))
    · refine tn (by decide) (tn (by decide) (tn (by decide) (tp (by decide) (hP _ _ _ _ _ _ ?_))))
      exact yes (t1 (ok_rn (t0 (tn (by decide) ⟨i_in (by omega) (by decide), fin_ok rfl (hc.2.1.1.2.2.2.trans hr.2.1.1.2.2.2.symm) (hC.go hc (hr.ref _) hi)⟩))))
    · refine tn (by decide) (tn (by decide) (tn (by decide) (tn (by decide) (tp (by decide) (ok_countersAtRest hc.2.1 hO (hP _ _ _ _ _ _ ?_))))))
      exact yes (t1 (ok_rn (t0 (tp (by decide) (tp (by decide) (ok_settledOn hr.2.1 hO (fin_ok rfl rfl (hC.go hc (hr.ref _) hi))))))))
    · refine tn (by decide) (tn (by decide) (tn (by decide) (tn (by decide) (tn (by decide) (tp (by decide) (ok_waitingInAll hc.2.1 hO (hP _ _ _ _ _ _ ?_)))))))
      exact yes (t1 (ok_rn (t0 (tp (by decide) (tn (by decide) (tp (by decide) (ok_waitsInAll hr.2.1 hO (fin_ok rfl rfl (hC.go hc (hr.ref _) hi)))))))))
    · refine tn (by decide) (tn (by decide) (tn (by decide) (tn (by decide) (tn (by decide) (tn (by decide) (ok_pairs hc.2.1 hO (hP _ _ _ _ _ _ ?_)))))))
      exact yes (t1 (ok_rn (t0 (tp (by decide) (tn (by decide) (tn (by decide) (ok_doublesOn hr.2.1 hO (fin_ok rfl rfl (hC.go hc (hr.ref _) hi)))))))))
  · refine rg_no (l := 0) (h := 6) (by decide) (by decide) hx (x1 (hP _ _ _ _ _ _ ?_))
    exact in_no (l := 0) (h := 6) (by decide) (by decide) hx (t0 (ok_ry (by decide) (t1 (fin_ex n1 rfl (hC.go hc (hr.ref _) hi)))))
theorem ctl_loop {M : MS} {A : AL} (hR : RepR (M 2) A) (hO : Ok A) {c : Nat} (hc : c < 6) {w : Nat} (hw : w ≤ 5) {Q : Int32 → MS → Prop} (h5 : w = 5 → Q (nI (sm (aD A c) (aP A c))) M) (h0 : ¬ w = 5 → Q (M 2 (4 + 22 * c + w)) M) : ∀ (m k n : Nat), k + m = aP A c → m < n → wl_X4_counter_60 M (nI c) (nI w) Q n (nI (sm (aD A c) k)) (nI k) := by
  have h9 := hO.p9 c
  have hp := hR.2.1 c hc
  intro m
  induction m with
  | zero =>
    intro k n hk hn
    obtain ⟨n, rfl, -⟩ := fuel1 hn
    refine ok_at ?_
    rw [ix_z]
    refine ⟨i_in (by omega) (by decide), ?_⟩
    rw [i_cl (by omega), hp, i_le (by omega) (by omega)]
    refine ⟨fun _ => ?_, fun h0 => absurd (by omega) h0⟩
    rw [show k = aP A c by omega, show (5 : Int32) = nI 5 from rfl, i_eq (by omega) (by omega)]
    refine ⟨h5, fun e => ok_at ?_⟩
    rw [nI_add, i_cl (by omega)]
    exact ⟨i_in (by omega) (by decide), h0 e⟩
  | succ m ih =>
    intro k n hk hn
    obtain ⟨n, rfl, hn⟩ := fuel1 hn
    refine ok_at ?_
    rw [ix_z]
    refine ⟨i_in (by omega) (by decide), ?_⟩
    rw [i_cl (by omega), hp, i_le (by omega) (by omega)]
    refine ⟨fun h0 => absurd h0 (by omega), fun _ => ok_at ?_⟩
    rw [ix_d]
    refine ⟨i_in (by omega) (by decide), ?_⟩
    intro y hy
    rw [i_cl (by omega), hR.2.2.2.2.1 c k hc (by omega), nI_add] at hy
    subst hy
    rw [i_p1]
    exact ih (k + 1) n (by omega) (by omega)
theorem ok_ctl {M : MS} {A : AL} (hR : RepR (M 2) A) (hO : Ok A) {c : Nat} (hc : c < 6) {w : Nat} (hw : w ≤ 5) {Q : Int32 → MS → Prop} (h5 : w = 5 → Q (nI (sm (aD A c) (aP A c))) M) (h0 : ¬ w = 5 → Q (M 2 (4 + 22 * c + w)) M) : ∃ n, wl_X4_counter_60 M (nI c) (nI w) Q n 0 0 := by
  have h9 := hO.p9 c
  exact ⟨10, ctl_loop hR hO hc hw h5 h0 (aP A c) 0 10 (by omega) (by omega)⟩
theorem sim_counter {k : Nat} {M : MS} {S : XO} {tx : TS} {hs : HS} {Ls : Nat → LnS} (h : Rl k M S tx hs Ls) {f : Nat → Int64} {x : Int32} { y : Int32} {C : CT} {P : Int32 → (Nat → Int64) → XO → TS → HS → (Nat → LnS) → Prop} (hC : NX k C) (hP : ∀ r g S' tx' hs' Ls', wp_X4_counter M x y (JI C r g S' tx' hs' Ls') → P r g S' tx' hs' Ls') : wp_L_counter f S tx hs Ls x y P := by
  obtain ⟨σ, hc, hr, hi⟩ := h
  have hO := hi.2.1.1
  unfold wp_L_counter wp_X3_counter
  unfold wp_X3_requireCounter
  rcases ctr x hO with hx | ⟨c, hcc, rfl⟩
  · refine ok_hasCounter_out hc.2.1 hO hx (t0 (x21 nBA (hP _ _ _ _ _ _ ?_)))
    exact ok_isCounter_out hr.2.1 hO hx (t0 (ok_ry (by decide) (t1 (fin_ex n1 rfl (hC.go hc (hr.ref _) hi)))))
  · have h6 := hO.c6 hcc
    refine ok_hasCounter_in hc.2.1 hO hcc ?_
    refine t1 ?_
    rcases rgc y 0 5 (by decide) with ⟨n, -, hn, rfl, hy⟩ | hy
    · refine rg_yes (l := 0) (h := 5) (by decide) (by decide) hy ?_
      have rf : ∀ {Q : Int32 → MS → Prop}, (n = 4 → Q (nI (aQ σ.2.1 c)) (zs2 M 0 0 0)) → (n = 5 → Q (nI (sm (aD σ.2.1 c) (aP σ.2.1 c))) (zs2 M 0 0 0)) → (¬ n = 4 → ¬ n = 5 → Q (M 2 (4 + 22 * c + n)) (zs2 M 0 0 0)) → wp_X4_counter M (nI c) (nI n) Q := by
        intro Q h4 h5 h0
        refine ok_isCounter_in hr.2.1 hO hcc ?_
        refine t1 (in_yes (l := 0) (h := 5) (by decide) (by decide) hy (t1 (ok_rn (t0 ?_))))
        rw [show (4 : Int32) = nI 4 from rfl, i_eq (by omega) (by omega)]
        exact ⟨fun e => ok_waitsOn hr.2.1 hO h6 (h4 e), fun e => ok_ctl (M := zs2 M 0 0 0) hr.2.1 hO h6 hn h5 (h0 e)⟩
      have v6 : vp_in (nI c) 6 := i_in h6 (by decide)
      rw [i_cl (by omega)]
      have e : n = 0 ∨ n = 1 ∨ n = 2 ∨ n = 3 ∨ n = 4 ∨ n = 5 := by omega
      rcases e with rfl | rfl | rfl | rfl | rfl | rfl
      · refine tp (by decide) ⟨v6, hP _ _ _ _ _ _ ?_⟩
        exact rf (fun h => absurd h (by decide)) (fun h => absurd h (by decide)) (fun _ _ => fin_ok rfl ((hc.2.1.2.1 c h6).trans (hr.2.1.2.1 c h6).symm) (hC.go hc (hr.ref _) hi))
      · refine tn (by decide) (tp (by decide) ⟨v6, ?_⟩)
        rw [hc.2.1.2.2.1 c h6]
        have e2 : M 2 (4 + 22 * c + 1) = if aK σ.2.1 c = true then 1 else 0 := by
          rw [show 4 + 22 * c + 1 = 5 + 22 * c by omega]
          exact hr.2.1.2.2.1 c h6
        refine tb (fun hb => hP _ _ _ _ _ _ ?_) (fun hb => hP _ _ _ _ _ _ ?_)
        · exact rf (fun h => absurd h (by decide)) (fun h => absurd h (by decide)) (fun _ _ => fin_ok rfl (by rw [e2, if_neg hb]) (hC.go hc (hr.ref _) hi))
        · exact rf (fun h => absurd h (by decide)) (fun h => absurd h (by decide)) (fun _ _ => fin_ok rfl (by rw [e2, if_pos hb]) (hC.go hc (hr.ref _) hi))
      · refine tn (by decide) (tn (by decide) (tp (by decide) ⟨v6, hP _ _ _ _ _ _ ?_⟩))
        exact rf (fun h => absurd h (by decide)) (fun h => absurd h (by decide)) (fun _ _ => fin_ok rfl ((hc.2.1.2.2.2.1 c h6).trans (by rw [show 4 + 22 * c + 2 = 6 + 22 * c by omega]; exact (hr.2.1.2.2.2.1 c h6).symm)) (hC.go hc (hr.ref _) hi))
      · refine tn (by decide) (tn (by decide) (tn (by decide) (tp (by decide) (ok_ticketsOf hc.2.1 hO h6 (hP _ _ _ _ _ _ ?_)))))
        exact rf (fun h => absurd h (by decide)) (fun h => absurd h (by decide)) (fun _ _ => fin_ok rfl (by rw [show 4 + 22 * c + 3 = 7 + 22 * c by omega]; exact (hr.2.1.2.2.2.2.2.2.2 c h6).symm) (hC.go hc (hr.ref _) hi))
      · refine tn (by decide) (tn (by decide) (tn (by decide) (tn (by decide) (tp (by decide) (ok_waitingAt hc.2.1 hO h6 (hP _ _ _ _ _ _ ?_))))))
        exact rf (fun _ => fin_ok rfl rfl (hC.go hc (hr.ref _) hi)) (fun h => absurd h (by decide)) (fun h _ => absurd rfl h)
      · refine tn (by decide) (tn (by decide) (tn (by decide) (tn (by decide) (tn (by decide) (ok_digitSum hc.2.1 hO h6 (hP _ _ _ _ _ _ ?_))))))
        exact rf (fun h => absurd h (by decide)) (fun _ => fin_ok rfl rfl (hC.go hc (hr.ref _) hi)) (fun _ h => absurd rfl h)
    · refine rg_no (l := 0) (h := 5) (by decide) (by decide) hy (x22 nAB (hP _ _ _ _ _ _ ?_))
      refine ok_isCounter_in hr.2.1 hO hcc ?_
      exact t1 (in_no (l := 0) (h := 5) (by decide) (by decide) hy (t0 (ok_ry (by decide) (t1 (fin_ex n2 rfl (hC.go hc (hr.ref _) hi))))))
theorem in_nat {x : Int32} {N : Nat} (hN : N < 100000) {Q : Int32 → Prop} (h0 : (x < 0 ∨ (¬ x < 0 ∧ nI N ≤ x)) → Q 0) (h1 : ∀ j, j < N → x = nI j → Q 1) : wp_X4_in x.toInt64 (0 : Int64) ((nI N - (1 : Int32)).toInt64) Q := by
  have e0 : (0 : Int64).toInt = 0 := by decide
  refine ok_in (fun h => h0 ?_) (fun h => ?_)
  · rw [Int32.toInt_toInt64, Int32.toInt_toInt64, i_toInt1 hN, e0] at h
    have h2 := (out_iff (x := x) hN).mpr (by omega)
    by_cases h3 : x < 0
    · exact Or.inl h3
    · exact Or.inr ⟨h3, h2.resolve_left h3⟩
  · rw [Int32.toInt_toInt64, Int32.toInt_toInt64, i_toInt1 hN, e0] at h
    obtain ⟨j, hj, e, ej⟩ := nat_of (x := x) hN h.1 (by omega)
    exact h1 j (by omega) e
theorem in_nat_in {j N : Nat} (hN : N < 100000) (hj : j < N) {Q : Int32 → Prop} (h : Q 1) : wp_X4_in (nI j).toInt64 (0 : Int64) ((nI N - (1 : Int32)).toInt64) Q := by
  refine in_nat hN (fun h2 => ?_) (fun _ _ _ => h)
  rcases h2 with h2 | h2
  · exact absurd h2 (i_neg j (by omega))
  · have := (i_le (by omega) (by omega)).mp h2.2
    omega
theorem in_nat_out {x : Int32} {N : Nat} (hN : N < 100000) (hx : x < 0 ∨ (¬ x < 0 ∧ nI N ≤ x)) {Q : Int32 → Prop} (h : Q 0) : wp_X4_in x.toInt64 (0 : Int64) ((nI N - (1 : Int32)).toInt64) Q := by
  refine in_nat hN (fun _ => h) (fun j hj e => ?_)
  subst e
  rcases hx with h2 | h2
  · exact absurd h2 (i_neg j (by omega))
  · have := (i_le (by omega) (by omega)).mp h2.2
    omega
theorem i_casesN (x : Int32) {n : Nat} (hn : n < 100000) : (x < 0 ∨ (¬ x < 0 ∧ nI n ≤ x)) ∨ ∃ j, j < n ∧ x = nI j := by
  rcases i_cases x hn with h | h | h
  · exact Or.inl (Or.inl h)
  · exact Or.inl (Or.inr h)
  · exact Or.inr h
theorem i_ltn {x : Int32} {n : Nat} (h : nI n ≤ x) : ¬ x < nI n := by
  rw [Int32.lt_iff_toInt_lt]
  rw [Int32.le_iff_toInt_le] at h
  omega
theorem sim_place {k : Nat} {M : MS} {S : XO} {tx : TS} {hs : HS} {Ls : Nat → LnS} (h : Rl k M S tx hs Ls) {f : Nat → Int64} {x : Int32} { y : Int32} { z : Int32} {C : CT} {P : Int32 → (Nat → Int64) → XO → TS → HS → (Nat → LnS) → Prop} (hC : NX k C) (hP : ∀ r g S' tx' hs' Ls', wp_X4_place M x y z (JI C r g S' tx' hs' Ls') → P r g S' tx' hs' Ls') : wp_L_place f S tx hs Ls x y z P := by
  obtain ⟨σ, hc, hr, hi⟩ := h
  have hO := hi.2.1.1
  unfold wp_L_place wp_X3_place
  unfold wp_X3_requireCounter
  rcases ctr x hO with hx | ⟨c, hcc, rfl⟩
  · refine ok_hasCounter_out hc.2.1 hO hx (t0 (x21 nBA (hP _ _ _ _ _ _ ?_)))
    exact ok_isCounter_out hr.2.1 hO hx (t0 (ok_ry (by decide) (t1 (fin_ex n1 rfl (hC.go hc (hr.ref _) hi)))))
  · have h6 := hO.c6 hcc
    have h9 := hO.p9 c
    refine ok_hasCounter_in hc.2.1 hO hcc ?_
    refine t1 ?_
    have v6 : vp_in (nI c) 6 := i_in h6 (by decide)
    have rf : ∀ {Q : Int32 → MS → Prop}, ((y < 0 ∨ (¬ y < 0 ∧ nI (aP σ.2.1 c) ≤ y)) → Q 0 (zs2 M 0 0 1)) → ((∃ p, p < aP σ.2.1 c ∧ y = nI p) → (z.toInt < 0 ∨ 1 < z.toInt) → Q 0 (zs2 M 0 0 2)) → (∀ p, p < aP σ.2.1 c → y = nI p → (0 ≤ z.toInt ∧ z.toInt ≤ 1) → (z = 0 → Q (M 2 (8 + 22 * c + p)) (zs2 M 0 0 0)) ∧ (¬ z = 0 → Q (M 2 (17 + 22 * c + p)) (zs2 M 0 0 0))) → wp_X4_place M (nI c) y z Q := by
      intro Q h1 h2 h0
      refine ok_isCounter_in hr.2.1 hO hcc ?_
      refine t1 (ok_at ?_)
      rw [ix_z]
      refine ⟨i_in (by omega) (by decide), ?_⟩
      rw [i_cl (by omega), hr.2.1.2.1 c h6]
      rcases i_casesN y (n := aP σ.2.1 c) (by omega) with hy | ⟨p, hp, rfl⟩
      · exact in_nat_out (by omega) hy (t0 (ok_ry (by decide) (t1 (h1 hy))))
      · refine in_nat_in (by omega) hp ?_
        refine t1 ?_
        by_cases hz : z.toInt < 0 ∨ 1 < z.toInt
        · exact in_no (l := 0) (h := 1) (by decide) (by decide) hz (t0 (ok_ry (by decide) (t1 (h2 ⟨p, hp, rfl⟩ hz))))
        · refine in_yes (l := 0) (h := 1) (by decide) (by decide) (by omega) (t1 (ok_rn (t0 (ok_at ?_))))
          rw [ix_d, ix_w, i_cl (by omega), i_cl (by omega)]
          have h3 := h0 p hp rfl (by omega)
          exact ⟨fun e => ⟨i_in (by omega) (by decide), h3.1 e⟩, fun e => ⟨i_in (by omega) (by decide), h3.2 e⟩⟩
    rcases i_casesN y (n := aP σ.2.1 c) (by omega) with hy | ⟨p, hp, rfl⟩
    · have fin : ∀ {P' : Prop}, (eIOB = eIOB ∨ eIOB = eIAE) ∧ (eIOB = eIOB → P 1 f S tx hs Ls) ∧ (eIOB = eIAE → P') := fun {P'} => x21 nBA (hP _ _ _ _ _ _ (rf (fun _ => fin_ex n1 rfl (hC.go hc (hr.ref _) hi)) (fun ⟨p, hp, e⟩ => by
        subst e
        rcases hy with hy | hy
        · exact absurd hy (i_neg p (by omega))
        · exact absurd ((i_le (by omega) (by omega)).mp hy.2) (by omega)) (fun p hp e => by
        subst e
        rcases hy with hy | hy
        · exact absurd hy (i_neg p (by omega))
        · exact absurd ((i_le (by omega) (by omega)).mp hy.2) (by omega))))
      by_cases hy0 : y < 0
      · exact tp hy0 fin
      · refine tn hy0 ⟨v6, ?_⟩
        rw [i_cl (by omega), hc.2.1.2.1 c h6]
        exact tn (i_ltn (hy.resolve_left hy0).2) fin
    · refine tn (i_neg p (by omega)) ⟨v6, ?_⟩
      rw [i_cl (by omega), hc.2.1.2.1 c h6]
      refine tp ((i_lt (by omega) (by omega)).mpr hp) ?_
      have ny : ¬ (nI p < 0 ∨ (¬ nI p < 0 ∧ nI (aP σ.2.1 c) ≤ nI p)) := fun hy => by
        rcases hy with hy | hy
        · exact absurd hy (i_neg p (by omega))
        · exact absurd ((i_le (by omega) (by omega)).mp hy.2) (by omega)
      by_cases hz : z.toInt < 0 ∨ 1 < z.toInt
      · refine rg_no (l := 0) (h := 1) (by decide) (by decide) hz (x22 nAB (hP _ _ _ _ _ _ ?_))
        exact rf (fun h => absurd h ny) (fun _ _ => fin_ex n2 rfl (hC.go hc (hr.ref _) hi)) (fun _ _ _ h => absurd h (by omega))
      · refine rg_yes (l := 0) (h := 1) (by decide) (by decide) (by omega) (ok_cellOf ?_)
        rw [i_cl (by omega), hc.2.1.2.2.2.2.1 c p h6 (by omega), hc.2.1.2.2.2.2.2.1 c p h6 (by omega)]
        have v54 : vp_in (nI (9 * c + p)) 54 := i_in (by omega) (by decide)
        refine ⟨fun e => ⟨v54, hP _ _ _ _ _ _ ?_⟩, fun e => ⟨v54, hP _ _ _ _ _ _ ?_⟩⟩
        · refine rf (fun h => absurd h ny) (fun _ h => absurd h hz) (fun p' hp' ep _ => ⟨fun _ => ?_, fun e2 => absurd e e2⟩)
          rw [i_eq (by omega) (by omega)] at ep
          subst ep
          exact fin_ok rfl (hr.2.1.2.2.2.2.1 c p h6 (by omega)).symm (hC.go hc (hr.ref _) hi)
        · refine rf (fun h => absurd h ny) (fun _ h => absurd h hz) (fun p' hp' ep _ => ⟨fun e2 => absurd e2 e, fun _ => ?_⟩)
          rw [i_eq (by omega) (by omega)] at ep
          subst ep
          exact fin_ok rfl (hr.2.1.2.2.2.2.2.1 c p h6 (by omega)).symm (hC.go hc (hr.ref _) hi)

/-! The calls that act. -/
theorem x31 {a b c : String} {P P' P'' : Prop} (hab : ¬ a = b) (hac : ¬ a = c) (h : P) : (a = a ∨ a = b ∨ a = c) ∧ (a = a → P) ∧ (a = b → P') ∧ (a = c → P'') := ⟨Or.inl rfl, fun _ => h, fun e => absurd e hab, fun e => absurd e hac⟩
theorem x32 {a b c : String} {P P' P'' : Prop} (hba : ¬ b = a) (hbc : ¬ b = c) (h : P') : (b = a ∨ b = b ∨ b = c) ∧ (b = a → P) ∧ (b = b → P') ∧ (b = c → P'') := ⟨Or.inr (Or.inl rfl), fun e => absurd e hba, fun _ => h, fun e => absurd e hbc⟩
theorem x33 {a b c : String} {P P' P'' : Prop} (hca : ¬ c = a) (hcb : ¬ c = b) (h : P'') : (c = a ∨ c = b ∨ c = c) ∧ (c = a → P) ∧ (c = b → P') ∧ (c = c → P'') := ⟨Or.inr (Or.inr rfl), fun e => absurd e hca, fun e => absurd e hcb, fun _ => h⟩
theorem IV.now {k : Nat} {t : Nat × (Nat → Nat)} {A B : AL} {hh : Nat × (Nat → AL)} {b : (Nat → Bool) × (Nat → AL)} (h : IV k (t, A, hh, b)) (hB : Gd (k + 1) B) : IV (k + 1) (t, B, hh, b) := by
  have h2 := h.mono (Nat.le_succ k)
  exact ⟨h2.1, hB, h2.2.2⟩
theorem IV.h49 {k : Nat} {t : Nat × (Nat → Nat)} {A : AL} {hh : Nat × (Nat → AL)} {b : (Nat → Bool) × (Nat → AL)} (h : IV k (t, A, hh, b)) : ∀ i, i < hh.1 → aT (hh.2 i) ≤ 49 := fun i hi => (h.2.2.1.2 i hi).1.2.2.1
theorem RR.nowr {t : Nat × (Nat → Nat)} {A B : AL} {hh : Nat × (Nat → AL)} {b : (Nat → Bool) × (Nat → AL)} {M : MS} {r : Nat → Int32} (h : RR (t, A, hh, b) M) (hR : RepR r B) : RR (t, B, hh, b) (zr2 M 2 r) :=
  h.now (M' := zr2 M 2 r) hR (fun _ h2 _ _ => if_neg h2)
theorem svc (v : Int32) : (∃ s a, a ≤ 19682 ∧ v = sv s a ∧ (-19682 ≤ v.toInt ∧ v.toInt ≤ 19682)) ∨ (v.toInt < -19682 ∨ 19682 < v.toInt) := by
  by_cases h : -19682 ≤ v.toInt ∧ v.toInt ≤ 19682
  · refine Or.inl ⟨decide (v.toInt < 0), v.toInt.natAbs, by omega, ?_, h⟩
    apply Int32.toInt_inj.mp
    rw [sv_toInt (by omega)]
    by_cases h0 : v.toInt < 0
    · rw [if_pos (by simpa using h0)]
      omega
    · rw [if_neg (by simpa using h0)]
      omega
  · exact Or.inr (by omega)
theorem sim_add {k : Nat} {M : MS} {S : XO} {tx : TS} {hs : HS} {Ls : Nat → LnS} (h : Rl k M S tx hs Ls) {f : Nat → Int64} {x : Int32} { v : Int32} {C : CT} {P : Int32 → (Nat → Int64) → XO → TS → HS → (Nat → LnS) → Prop} (hC : NX k C) (hP : ∀ r g S' tx' hs' Ls', wp_X4_add M x v (JI C r g S' tx' hs' Ls') → P r g S' tx' hs' Ls') : wp_L_add f S tx hs Ls x v P := by
  obtain ⟨σ, hc, hr, hi⟩ := h
  have hO := hi.2.1.1
  unfold wp_L_add wp_X3_add
  unfold wp_X3_requireCounter
  obtain ⟨t, A, hh, b⟩ := σ
  have hO : Ok A := hO
  have hL : RepL (Ls 0) A := hc.2.1
  have hRr : RepR (M 2) A := hr.2.1
  have h14 : hh.1 ≤ 14 := hi.2.2.1.1
  rcases ctr x hO with hx | ⟨c, hcc, rfl⟩
  · refine ok_hasCounter_out hL hO hx (t0 (x31 nBA nBS (hP _ _ _ _ _ _ ?_)))
    exact ok_isCounter_out hRr hO hx (t0 (ok_ry (by decide) (t1 (fin_ex n1 rfl (hC.go hc (hr.ref _) hi)))))
  · have h6 := hO.c6 hcc
    refine ok_hasCounter_in hL hO hcc ?_
    refine t1 ?_
    rcases svc v with ⟨s, a, ha, rfl, hv⟩ | hv
    · refine rg_yes (l := -19682) (h := 19682) (by decide) (by decide) hv (ok_hasPlacesFor hL hO h6 (by omega) ?_)
      refine tb (fun hf => x33 nSB nSA (hP _ _ _ _ _ _ ?_)) (fun hf => ?_)
      · refine ok_isCounter_in hRr hO hcc ?_
        refine t1 (in_yes (l := -19682) (h := 19682) (by decide) (by decide) hv (t1 (ok_fits hRr hO h6 (by omega) ?_)))
        exact tb (fun _ => ok_ry (by decide) (t1 (fin_ex n3 rfl (hC.go hc (hr.ref _) hi)))) (fun h => absurd h hf)
      · refine hc.mem hO h14 (fun hs' Ls' hc' => ok_putDigits hc'.2.1 hO h6 (by omega) (fun L' hL' => hP _ _ _ _ _ _ ?_))
        refine ok_isCounter_in hRr hO hcc ?_
        refine t1 (in_yes (l := -19682) (h := 19682) (by decide) (by decide) hv (t1 (ok_fits hRr hO h6 (by omega) ?_)))
        refine tb (fun h => absurd hf h) (fun _ => ok_rn (t0 ((hr.ref 0).mem hO h14 hi.h49 (fun M' hr' e0 => ok_addOn hr'.2.1 hO h6 (by omega) (fun r' hr2 => ?_)))))
        exact fin_ok e0 rfl (hC.go1 (hc'.now hL') (hr'.nowr hr2) (hi.mem.now (gd_pd hi.2.1 s h6 a)))
    · refine rg_no (l := -19682) (h := 19682) (by decide) (by decide) hv (x32 nAB nAS (hP _ _ _ _ _ _ ?_))
      refine ok_isCounter_in hRr hO hcc ?_
      exact t1 (in_no (l := -19682) (h := 19682) (by decide) (by decide) hv (t0 (ok_ry (by decide) (t1 (fin_ex n2 rfl (hC.go hc (hr.ref _) hi))))))
theorem sim_draw {k : Nat} {M : MS} {S : XO} {tx : TS} {hs : HS} {Ls : Nat → LnS} (h : Rl k M S tx hs Ls) {f : Nat → Int64} {x : Int32} {C : CT} {P : Int32 → (Nat → Int64) → XO → TS → HS → (Nat → LnS) → Prop} (hk : k ≤ 900) (hC : NX k C) (hP : ∀ r g S' tx' hs' Ls', wp_X4_draw M x (JI C r g S' tx' hs' Ls') → P r g S' tx' hs' Ls') : wp_L_draw f S tx hs Ls x P := by
  obtain ⟨σ, hc, hr, hi⟩ := h
  have hO := hi.2.1.1
  unfold wp_L_draw wp_X3_draw
  unfold wp_X3_requireCounter
  obtain ⟨t, A, hh, b⟩ := σ
  have hO : Ok A := hO
  have hL : RepL (Ls 0) A := hc.2.1
  have hRr : RepR (M 2) A := hr.2.1
  have h14 : hh.1 ≤ 14 := hi.2.2.1.1
  have hT : aT A ≤ 40 := hi.2.1.2.1
  rcases ctr x hO with hx | ⟨c, hcc, rfl⟩
  · refine ok_hasCounter_out hL hO hx (t0 (x21 nBS (hP _ _ _ _ _ _ ?_)))
    exact ok_isCounter_out hRr hO hx (t0 (ok_ry (by decide) (t1 (fin_ex n1 rfl (hC.go hc (hr.ref _) hi)))))
  · have h6 := hO.c6 hcc
    refine ok_hasCounter_in hL hO hcc ?_
    refine t1 ?_
    have rf : ∀ {Q : Int32 → MS → Prop}, (40 ≤ aT A → Q 0 (zs2 M 0 0 2)) → (¬ 40 ≤ aT A → wp_X4_remember (zs2 M 0 0 0) (fun M' => wp_X4_drawOn (M' 2) (nI c) (fun r u => Q r (zr2 M' 2 u)))) → wp_X4_draw M (nI c) Q := by
      intro Q h2 h0
      refine ok_isCounter_in hRr hO hcc ?_
      refine t1 ?_
      rw [z3, hRr.1.2.2.2, show (40 : Int32) = nI 40 from rfl, i_le (by omega) (by omega)]
      exact ⟨fun e => ok_ry (by decide) (t1 (h2 e)), fun e => ok_rn (t0 (h0 e))⟩
    have e40 : ((Ls 0).1 0 3 < (40 : Int32)) ↔ aT A < 40 := by rw [hL.1.2.2.2, show (40 : Int32) = nI 40 from rfl, i_lt (by omega) (by omega)]
    refine ⟨fun hlt => ?_, fun hge => x22 nSB (hP _ _ _ _ _ _ ?_)⟩
    · have hlt := e40.mp hlt
      refine hc.mem hO h14 (fun hs' Ls' hc' => ok_drawFrom (A := A) hc'.2.1 hO h6 (by omega) (fun L' hL' => hP _ _ _ _ _ _ ?_))
      refine rf (fun h => absurd h (by omega)) (fun _ => (hr.ref 0).mem hO h14 hi.h49 (fun M' hr' e0 => ok_drawOn (A := A) hr'.2.1 hO h6 (by omega) (fun r' hr2 => ?_)))
      exact fin_ok e0 rfl (hC.go1 (hc'.now hL') (hr'.nowr hr2) (hi.mem.now (gd_dr hk hi.2.1 hcc hlt)))
    · have hge := fun h => hge (e40.mpr h)
      exact rf (fun _ => fin_ex n2 rfl (hC.go hc (hr.ref _) hi)) (fun h => absurd (by omega) hge)
theorem sim_beats {k : Nat} {M : MS} {S : XO} {tx : TS} {hs : HS} {Ls : Nat → LnS} (h : Rl k M S tx hs Ls) {f : Nat → Int64} {x : Int32} {C : CT} {P : Int32 → (Nat → Int64) → XO → TS → HS → (Nat → LnS) → Prop} (hC : NX k C) (hP : ∀ r g S' tx' hs' Ls', wp_X4_beats M x (JI C r g S' tx' hs' Ls') → P r g S' tx' hs' Ls') : wp_L_beats f S tx hs Ls x P := by
  obtain ⟨σ, hc, hr, hi⟩ := h
  have hO := hi.2.1.1
  unfold wp_L_beats wp_X3_beats
  obtain ⟨t, A, hh, b⟩ := σ
  have hO : Ok A := hO
  have hL : RepL (Ls 0) A := hc.2.1
  have hRr : RepR (M 2) A := hr.2.1
  have h14 : hh.1 ≤ 14 := hi.2.2.1.1
  rcases rgc x 1 99 (by decide) with ⟨n, -, hn, rfl, hx⟩ | hx
  · refine rg_yes (l := 1) (h := 99) (by decide) (by decide) hx ?_
    refine hc.mem hO h14 (fun hs' Ls' hc' => ok_passBeats hc'.2.1 hO (by omega) (fun L' hL' => ok_countersAtRest hL' (bts_ok n hO) (hP _ _ _ _ _ _ ?_)))
    refine in_yes (l := 1) (h := 99) (by decide) (by decide) hx (t1 (ok_rn (t0 ((hr.ref 0).mem hO h14 hi.h49 (fun M' hr' e0 => ok_beatsOn_n hr'.2.1 hO (by omega) (fun M'' hr2 hF => ?_))))))
    exact fin_ok ((congrFun (hF 0 (by decide) (by decide) (by decide)) 0).trans e0) rfl (hC.go1 (hc'.now hL') (hr'.now hr2 hF) (hi.mem.now ((gd_bts hi.2.1 n).mono (Nat.le_succ k))))
  · refine rg_no (l := 1) (h := 99) (by decide) (by decide) hx (x1 (hP _ _ _ _ _ _ ?_))
    exact in_no (l := 1) (h := 99) (by decide) (by decide) hx (t0 (ok_ry (by decide) (t1 (fin_ex n1 rfl (hC.go hc (hr.ref _) hi)))))
theorem sim_setPace {k : Nat} {M : MS} {S : XO} {tx : TS} {hs : HS} {Ls : Nat → LnS} (h : Rl k M S tx hs Ls) {f : Nat → Int64} {x : Int32} {C : CT} {P : Int32 → (Nat → Int64) → XO → TS → HS → (Nat → LnS) → Prop} (hC : NX k C) (hP : ∀ r g S' tx' hs' Ls', wp_X4_setPace M x (JI C r g S' tx' hs' Ls') → P r g S' tx' hs' Ls') : wp_L_setPace f S tx hs Ls x P := by
  obtain ⟨σ, hc, hr, hi⟩ := h
  have hO := hi.2.1.1
  unfold wp_L_setPace wp_X3_setPace
  obtain ⟨t, A, hh, b⟩ := σ
  have hO : Ok A := hO
  have hL : RepL (Ls 0) A := hc.2.1
  have hRr : RepR (M 2) A := hr.2.1
  have h14 : hh.1 ≤ 14 := hi.2.2.1.1
  rcases rgc x 1 9 (by decide) with ⟨n, hn1, hn, rfl, hx⟩ | hx
  · refine rg_yes (l := 1) (h := 9) (by decide) (by decide) hx ?_
    refine hc.mem hO h14 (fun hs' Ls' hc' => hP _ _ _ _ _ _ ?_)
    refine in_yes (l := 1) (h := 9) (by decide) (by decide) hx (t1 (ok_rn (t0 ((hr.ref 0).mem hO h14 hi.h49 (fun M' hr' e0 => ?_)))))
    have hL2 : RepL (Ls' 0) A := hc'.2.1
    have hR2 : RepR (M' 2) A := hr'.2.1
    rw [z1]
    exact fin_ok e0 (hL2.1.2.1.trans hR2.1.2.1.symm) (hC.go1 (hc'.now (rep_G hL2 n)) (hr'.nowr (rr_G hR2 n)) (hi.mem.now ((gd_G hi.2.1 ⟨hn1, hn⟩).mono (Nat.le_succ k))))
  · refine rg_no (l := 1) (h := 9) (by decide) (by decide) hx (x1 (hP _ _ _ _ _ _ ?_))
    exact in_no (l := 1) (h := 9) (by decide) (by decide) hx (t0 (ok_ry (by decide) (t1 (fin_ex n1 rfl (hC.go hc (hr.ref _) hi)))))
theorem toInt_2 {n : Nat} (h1 : 1 ≤ n) (h : n < 1000) : (nI n - 2).toInt = (n : Int) - 2 := by
  have e2 : (2 : Int32).toInt = 2 := by decide
  have : (2 : Int) ^ 32 = 4294967296 := by decide
  rw [Int32.toInt_sub, i_toInt (by omega), e2, Int.bmod_def]
  split <;> omega
theorem in_lk {x : Int32} {N : Nat} (h1 : 1 ≤ N) (hN : N < 1000) {Q : Int32 → Prop} (h0 : (¬ ∃ c, c + 1 < N ∧ x = nI c) → Q 0) (hin : (∃ c, c + 1 < N ∧ x = nI c) → Q 1) : wp_X4_in x.toInt64 (0 : Int64) ((nI N - (2 : Int32)).toInt64) Q := by
  have e0 : (0 : Int64).toInt = 0 := by decide
  refine ok_in (fun h => h0 (fun ⟨c, hc, e⟩ => ?_)) (fun h => hin ?_)
  · rw [Int32.toInt_toInt64, Int32.toInt_toInt64, toInt_2 h1 hN, e0, e, i_toInt (by omega)] at h
    omega
  · rw [Int32.toInt_toInt64, Int32.toInt_toInt64, toInt_2 h1 hN, e0] at h
    obtain ⟨c, hc, e, ec⟩ := nat_of (x := x) (b := 1000) (by decide) h.1 (by omega)
    exact ⟨c, by omega, e⟩
theorem canLink_out {L : LnS} {A : AL} (hR : RepL L A) (hO : Ok A) {x : Int32} (hx : ¬ ∃ c, c + 1 < aC A ∧ x = nI c) {Q : Int32 → Prop} (h : Q 0) : wp_X1_canLink L x Q :=
  ok_canLink hR hO (fun _ => h) (fun c hc e => absurd ⟨c, hc, e⟩ hx)
theorem canLink_in {L : LnS} {A : AL} (hR : RepL L A) (hO : Ok A) {c : Nat} (hc : c + 1 < aC A) {Q : Int32 → Prop} (h : Q 1) : wp_X1_canLink L (nI c) Q := by
  have hC := hO.1.2
  refine ok_canLink hR hO (fun h2 => ?_) (fun _ _ _ => h)
  rcases h2 with h2 | h2
  · exact absurd h2 (i_neg c (by omega))
  · have h3 := h2.2
    rw [Int32.le_iff_toInt_le, i_toInt1 (by omega), i_toInt (by omega)] at h3
    omega
theorem nar0 : vp_nar .boolean (0 : Int32) = 0 := by decide
theorem nar1 : vp_nar .boolean (1 : Int32) = 1 := by decide
theorem sim_link {k : Nat} {M : MS} {S : XO} {tx : TS} {hs : HS} {Ls : Nat → LnS} (h : Rl k M S tx hs Ls) {f : Nat → Int64} {x : Int32} { w : Int32} {C : CT} {P : Int32 → (Nat → Int64) → XO → TS → HS → (Nat → LnS) → Prop} (hw : w = 0 ∨ w = 1) (hC : NX k C) (hP : ∀ r g S' tx' hs' Ls', wp_X4_link M x w (JI C r g S' tx' hs' Ls') → P r g S' tx' hs' Ls') : wp_L_link f S tx hs Ls x w P := by
  obtain ⟨σ, hc, hr, hi⟩ := h
  have hO := hi.2.1.1
  unfold wp_L_link wp_X3_link
  obtain ⟨t, A, hh, b⟩ := σ
  have hO : Ok A := hO
  have hL : RepL (Ls 0) A := hc.2.1
  have hRr : RepR (M 2) A := hr.2.1
  have h14 : hh.1 ≤ 14 := hi.2.2.1.1
  have hCC := hO.1
  by_cases hx : ∃ c, c + 1 < aC A ∧ x = nI c
  · obtain ⟨c, hcc, rfl⟩ := hx
    obtain ⟨bb, e1, e2, e3⟩ : ∃ bb : Bool, vp_nar .boolean w = (if bb = true then 1 else 0) ∧ (w = 0 → bb = false) ∧ (¬ w = 0 → bb = true) := by
      rcases hw with rfl | rfl
      · exact ⟨false, nar0, fun _ => rfl, fun h => absurd rfl h⟩
      · exact ⟨true, nar1, fun h => absurd h (by decide), fun _ => rfl⟩
    refine canLink_in hL hO hcc ?_
    refine t1 (hc.mem hO h14 (fun hs' Ls' hc' => ⟨i_in (by omega) (by decide), ?_⟩))
    have hL2 : RepL (Ls' 0) A := hc'.2.1
    rw [i_cl (by omega)]
    have hL3 := rep_K hL2 c bb e1
    refine ok_linkedCounters hL3 (ok_K hO hcc bb) (hP _ _ _ _ _ _ ?_)
    unfold wp_X4_link
    rw [z0, hRr.1.1]
    refine in_lk (by omega) (by omega) (fun h => absurd ⟨c, hcc, rfl⟩ h) (fun _ => ?_)
    refine t1 (ok_rn (t0 ((hr.ref 0).mem hO h14 hi.h49 (fun M' hr' e0 => ok_linkOn hr'.2.1 hO hcc e2 e3 (fun r' hr2 => ?_)))))
    exact fin_ok e0 rfl (hC.go1 (hc'.now hL3) (hr'.nowr hr2) (hi.mem.now ((gd_K hi.2.1 hcc bb).mono (Nat.le_succ k))))
  · refine canLink_out hL hO hx (t0 (x1 (hP _ _ _ _ _ _ ?_)))
    unfold wp_X4_link
    rw [z0, hRr.1.1]
    refine in_lk (by omega) (by omega) (fun _ => ?_) (fun h => absurd h hx)
    exact t0 (ok_ry (by decide) (t1 (fin_ex n1 rfl (hC.go hc (hr.ref _) hi))))
theorem rsz_loop {A : AL} {c nn : Nat} (hc : c < 6) (hnn : nn ≤ 9) {y : Int32} {M0 : MS} {Q : Int32 → MS → Prop} (h : ∀ M', RepR (M' 2) (rz A c nn) → (∀ j, j ≠ 2 → M' j = M0 j) → Q y M') : ∀ (m k n : Nat) (M : MS), k + m = 9 → m < n → nn ≤ k → RepR (M 2) (rzk A c nn k) → (∀ j, j ≠ 2 → M j = M0 j) → wl_X4_resize_60 (nI c) (nI nn) y Q n M (nI k) := by
  intro m
  induction m with
  | zero =>
    intro k n M hk hn hn2 hR hF
    obtain ⟨n, rfl, -⟩ := fuel1 hn
    rw [show k = 9 by omega] at hR ⊢
    refine ⟨fun _ => ok_at ?_, fun h0 => absurd (show (9 : Int32) ≤ nI 9 by decide) h0⟩
    rw [ix_z]
    refine ⟨i_in (by omega) (by decide), h _ ?_ (fun j hj => ?_)⟩
    · rw [i_cl (by omega)]
      exact rr_P hR hc nn rfl
    · show (if j = 2 then _ else M j) = M0 j
      rw [if_neg hj]
      exact hF j hj
  | succ m ih =>
    intro k n M hk hn hn2 hR hF
    obtain ⟨n, rfl, hn⟩ := fuel1 hn
    refine ⟨fun h0 => ?_, fun _ => ok_at ?_⟩
    · rw [show (9 : Int32) = nI 9 from rfl, i_le (by omega) (by omega)] at h0
      omega
    · rw [ix_d]
      refine ⟨i_in (by omega) (by decide), ok_at ?_⟩
      intro M16 h16
      rw [i_cl (by omega)] at h16
      have R16 : RepR (M16 2) (sD (rzk A c nn k) c k 0) := by
        rw [h16]
        exact rr_D hR hc (by omega) 0 rfl
      rw [ix_w]
      refine ⟨i_in (by omega) (by decide), ?_⟩
      rw [i_cl (by omega), i_p1]
      have R17 := rr_W R16 (c := c) (p := k) hc (by omega) 0 rfl
      rw [rzk_s A hn2] at R17
      refine ih (k + 1) n _ (by omega) (by omega) (by omega) R17 (fun j hj => ?_)
      show (if j = 2 then _ else M16 j) = M0 j
      rw [if_neg hj, h16]
      show (if j = 2 then _ else M j) = M0 j
      rw [if_neg hj]
      exact hF j hj
theorem sim_resize {k : Nat} {M : MS} {S : XO} {tx : TS} {hs : HS} {Ls : Nat → LnS} (h : Rl k M S tx hs Ls) {f : Nat → Int64} {x : Int32} { y : Int32} {C : CT} {P : Int32 → (Nat → Int64) → XO → TS → HS → (Nat → LnS) → Prop} (hC : NX k C) (hP : ∀ r g S' tx' hs' Ls', wp_X4_resize M x y (JI C r g S' tx' hs' Ls') → P r g S' tx' hs' Ls') : wp_L_resize f S tx hs Ls x y P := by
  obtain ⟨σ, hc, hr, hi⟩ := h
  have hO := hi.2.1.1
  unfold wp_L_resize wp_X3_resize
  unfold wp_X3_requireCounter
  obtain ⟨t, A, hh, b⟩ := σ
  have hO : Ok A := hO
  have hL : RepL (Ls 0) A := hc.2.1
  have hRr : RepR (M 2) A := hr.2.1
  have h14 : hh.1 ≤ 14 := hi.2.2.1.1
  rcases ctr x hO with hx | ⟨c, hcc, rfl⟩
  · refine ok_hasCounter_out hL hO hx (t0 (x21 nBA (hP _ _ _ _ _ _ ?_)))
    exact ok_isCounter_out hRr hO hx (t0 (ok_ry (by decide) (t1 (fin_ex n1 rfl (hC.go hc (hr.ref _) hi)))))
  · have h6 := hO.c6 hcc
    refine ok_hasCounter_in hL hO hcc ?_
    refine t1 ?_
    rcases rgc y 1 9 (by decide) with ⟨n, hn1, hn, rfl, hy⟩ | hy
    · refine rg_yes (l := 1) (h := 9) (by decide) (by decide) hy ?_
      refine hc.mem hO h14 (fun hs' Ls' hc' => ⟨i_in (by omega) (by decide), ok_changePlaces hc'.2.1 hO h6 hn (fun L' hL' => hP _ _ _ _ _ _ ?_)⟩)
      refine ok_isCounter_in hRr hO hcc ?_
      refine t1 (in_yes (l := 1) (h := 9) (by decide) (by decide) hy (t1 (ok_rn (t0 ((hr.ref 0).mem hO h14 hi.h49 (fun M' hr' e0 => ok_at ?_))))))
      have hL2 : RepL (Ls' 0) A := hc'.2.1
      have hR2 : RepR (M' 2) A := hr'.2.1
      rw [ix_z]
      refine ⟨i_in (by omega) (by decide), 10, ?_⟩
      refine rsz_loop (A := A) (M0 := M') h6 hn (fun M'' hr2 hF => ?_) (9 - n) n 10 M' (by omega) (by omega) (Nat.le_refl _) (by rw [rzk_0]; exact hR2) (fun _ _ => rfl)
      rw [i_cl (by omega), i_cl (by omega)]
      exact fin_ok ((congrFun (hF 0 (by decide)) 0).trans e0) ((hL2.2.1 c h6).trans (hR2.2.1 c h6).symm) (hC.go1 (hc'.now hL') (hr'.now hr2 (fun j h2 _ _ => hF j h2)) (hi.mem.now ((gd_rz hi.2.1 hcc ⟨hn1, hn⟩).mono (Nat.le_succ k))))
    · refine rg_no (l := 1) (h := 9) (by decide) (by decide) hy (x22 nAB (hP _ _ _ _ _ _ ?_))
      refine ok_isCounter_in hRr hO hcc ?_
      exact t1 (in_no (l := 1) (h := 9) (by decide) (by decide) hy (t0 (ok_ry (by decide) (t1 (fin_ex n2 rfl (hC.go hc (hr.ref _) hi))))))
theorem sim_pour {k : Nat} {M : MS} {S : XO} {tx : TS} {hs : HS} {Ls : Nat → LnS} (h : Rl k M S tx hs Ls) {f : Nat → Int64} {x : Int32} { y : Int32} {C : CT} {P : Int32 → (Nat → Int64) → XO → TS → HS → (Nat → LnS) → Prop} (hC : NX k C) (hP : ∀ r g S' tx' hs' Ls', wp_X4_pour M x y (JL C r g S' tx' hs' Ls') → P r g S' tx' hs' Ls') : wp_L_pour f S tx hs Ls x y P := by
  obtain ⟨σ, hc, hr, hi⟩ := h
  have hO := hi.2.1.1
  unfold wp_L_pour wp_X3_pour
  unfold wp_X3_requireCounter
  obtain ⟨t, A, hh, b⟩ := σ
  have hO : Ok A := hO
  have hL : RepL (Ls 0) A := hc.2.1
  have hRr : RepR (M 2) A := hr.2.1
  have h14 : hh.1 ≤ 14 := hi.2.2.1.1
  rcases ctr x hO with hx | ⟨c, hcc, rfl⟩
  · refine ok_hasCounter_out hL hO hx (t0 (x21 nBA (hP _ _ _ _ _ _ ?_)))
    exact ok_isCounter_out hRr hO hx (t0 (ok_ry (by decide) (t1 (fin_exL n1 rfl (hC.go hc (hr.ref _) hi)))))
  · have h6 := hO.c6 hcc
    refine ok_hasCounter_in hL hO hcc ?_
    refine t1 ?_
    rcases ctr y hO with hy | ⟨d, hdd, rfl⟩
    · refine ok_hasCounter_out hL hO hy (t0 (x21 nBA (hP _ _ _ _ _ _ ?_)))
      refine ok_isCounter_in hRr hO hcc ?_
      refine t1 ?_
      exact ok_isCounter_out hRr hO hy (t0 (ok_ry (by decide) (t1 (fin_exL n1 rfl (hC.go hc (hr.ref _) hi)))))
    · have d6 := hO.c6 hdd
      refine ok_hasCounter_in hL hO hdd ?_
      refine t1 ?_
      rw [i_eq (by omega) (by omega)]
      refine ⟨fun e => x22 nAB (hP _ _ _ _ _ _ ?_), fun e => ?_⟩
      · refine ok_isCounter_in hRr hO hcc ?_
        refine t1 ?_
        refine ok_isCounter_in hRr hO hdd ?_
        exact t1 (tp (by rw [e]) (ok_ry (by decide) (t1 (fin_exL n2 rfl (hC.go hc (hr.ref _) hi)))))
      · refine hc.mem hO h14 (fun hs' Ls' hc' => ok_fullReading hc'.2.1 hO d6 (ok_pourInto hc'.2.1 hO h6 d6 e (fun L' hL' => ok_fullReading hL' (pr_ok hO c d _ (Nat.le_refl _)) d6 (hP _ _ _ _ _ _ ?_))))
        refine ok_isCounter_in hRr hO hcc ?_
        refine t1 ?_
        refine ok_isCounter_in hRr hO hdd ?_
        refine t1 (tn (fun h => e ((i_eq (by omega) (by omega)).mp h)) (ok_rn (t0 ((hr.ref 0).mem hO h14 hi.h49 (fun M' hr' e0 => ok_pourOn hr'.2.1 hO h6 d6 e (fun r' hr2 => ?_))))))
        exact fin_okL e0 rfl (hC.go1 (hc'.now hL') (hr'.nowr hr2) (hi.mem.now (gd_pr hi.2.1 h6 d6 e)))

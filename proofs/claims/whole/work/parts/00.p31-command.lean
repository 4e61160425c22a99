/-! One command of a script. -/
def CM (A : AL) (kd c rr : Nat) (bb : Bool) (A' : AL) : Prop :=
  Ok A' ∧ aT A' ≤ 40
  ∧ (∀ L, RepL L A → ∀ (g : Nat), g < 1000000 → g / 100000 = kd → g / 10000 % 10 = c → g % 10000 = rr → ∀ (Q : Int32 → LnS → Prop), (∀ L', (bb = true → RepL L' A') → Q (if bb = true then 1 else 0) L') → wp_X3_obeys L (nI g) Q)
  ∧ (∀ M, RepR (M 3) A → ∀ (Q : Int32 → MS → Prop), (∀ M', (bb = true → RepR (M' 3) A') → (∀ j, j ≠ 3 → j ≠ 7 → j ≠ 8 → M' j = M j) → Q (if bb = true then 1 else 0) M') → wp_X4_command M (nI kd) (nI c) (nI rr) Q)
theorem ob_n1 {g : Nat} (hg : g < 1000000) : nI g / (100000 : Int32) = nI (g / 100000) := by
  rw [show (100000 : Int32) = nI 100000 from rfl, pk_div (by omega) (by decide) (by decide)]
theorem ob_n2 {g : Nat} (hg : g < 1000000) : nI g / (10000 : Int32) - nI g / (10000 : Int32) / (10 : Int32) * (10 : Int32) = nI (g / 10000 % 10) := by
  rw [show (10000 : Int32) = nI 10000 from rfl, show (10 : Int32) = nI 10 from rfl, pk_div (by omega) (by decide) (by decide), pk_rem (by omega) (by decide) (by decide)]
theorem ob_n3 {g : Nat} (hg : g < 1000000) : nI g - nI g / (10000 : Int32) * (10000 : Int32) = nI (g % 10000) := by
  rw [show (10000 : Int32) = nI 10000 from rfl, pk_rem (by omega) (by decide) (by decide)]
theorem ob_start {L : LnS} {g kd c rr : Nat} (hg : g < 1000000) (h1 : g / 100000 = kd) (h2 : g / 10000 % 10 = c) (h3 : g % 10000 = rr) {Q : Int32 → LnS → Prop} (h : ∀ y1 y2 : Int32, y1 = nI c → y2 = nI rr → (∀ x : Int32, x = nI g → x / 100000 = nI kd) → wp_X3_obeys L (nI g) Q) : wp_X3_obeys L (nI g) Q :=
  h _ _ rfl rfl (fun x hx => by rw [hx, ob_n1 hg, h1])
theorem ctrN {A : AL} (hO : Ok A) {c : Nat} (hc : ¬ c < aC A) (h10 : c < 100000) : (nI c < 0 ∨ nI (aC A) ≤ nI c) := Or.inr ((i_le (by have := hO.1.2; omega) h10).mpr (by omega))
theorem ctrM {A : AL} (hO : Ok A) {c : Nat} (hc : c < aC A) (h10 : c < 100000) : ¬ (nI c < 0 ∨ nI (aC A) ≤ nI c) := fun h => by
  have hC := hO.1.2
  rcases h with h | h
  · exact i_neg c h10 h
  · have := (i_le (by omega) h10).mp h
    omega
theorem dsum_le (a n : Nat) : dsum a n ≤ n * 2 := sm_le (fun p => by omega) n
theorem t3f {r : Nat → Int32} {M : MS} (j : Nat) (h : j ≠ 3) : zr2 M 3 r j = M j := if_neg h
/-- refused, as it is: nothing changes -/
theorem CM_no {A : AL} (hO : Ok A) (hT : aT A ≤ 40) {kd c rr : Nat} (h1 : ∀ L, RepL L A → ∀ (Q : Int32 → LnS → Prop) (g : Nat), g < 1000000 → g / 100000 = kd → g / 10000 % 10 = c → g % 10000 = rr → (∀ L', Q 0 L') → wp_X3_obeys L (nI g) Q) (h2 : ∀ M, RepR (M 3) A → ∀ (Q : Int32 → MS → Prop), (∀ M', (∀ j, j ≠ 3 → j ≠ 7 → j ≠ 8 → M' j = M j) → Q 0 M') → wp_X4_command M (nI kd) (nI c) (nI rr) Q) : CM A kd c rr false A :=
  ⟨hO, hT, fun L hL g hg e1 e2 e3 Q hQ => h1 L hL Q g hg e1 e2 e3 (fun L' => hQ L' (fun h => Bool.noConfusion h)), fun M hM Q hQ => h2 M hM Q (fun M' hF => hQ M' (fun h => Bool.noConfusion h) hF)⟩
theorem CM_yes {A A' : AL} (hO : Ok A') (hT : aT A' ≤ 40) {kd c rr : Nat} (h1 : ∀ L, RepL L A → ∀ (Q : Int32 → LnS → Prop) (g : Nat), g < 1000000 → g / 100000 = kd → g / 10000 % 10 = c → g % 10000 = rr → (∀ L', RepL L' A' → Q 1 L') → wp_X3_obeys L (nI g) Q) (h2 : ∀ M, RepR (M 3) A → ∀ (Q : Int32 → MS → Prop), (∀ M', RepR (M' 3) A' → (∀ j, j ≠ 3 → j ≠ 7 → j ≠ 8 → M' j = M j) → Q 1 M') → wp_X4_command M (nI kd) (nI c) (nI rr) Q) : CM A kd c rr true A' :=
  ⟨hO, hT, fun L hL g hg e1 e2 e3 Q hQ => h1 L hL Q g hg e1 e2 e3 (fun L' hL' => hQ L' (fun _ => hL')), fun M hM Q hQ => h2 M hM Q (fun M' hR hF => hQ M' (fun _ => hR) hF)⟩
/-- the class goes to the kind of the command -/
theorem ob_go {L : LnS} {g kd c rr : Nat} (hg : g < 1000000) (h1 : g / 100000 = kd) (h2 : g / 10000 % 10 = c) (h3 : g % 10000 = rr) {Q : Int32 → LnS → Prop}
    (k1 : kd = 1 → wp_X1_tryPutDigits L (nI c) (nI rr) (fun r u => Q r u))
    (k2 : kd = 2 → wp_X1_tryPutDigits L (nI c) (-nI rr) (fun r u => Q r u))
    (k3 : kd = 3 → ((nI rr = 0 → wp_X1_tryDraw L (nI c) (fun r u => (r = 0 → Q 0 u) ∧ (¬ r = 0 → Q 1 u))) ∧ (¬ nI rr = 0 → Q 0 L)))
    (k4 : kd = 4 → ((nI c = 0 → wp_X3_obeysBeats L (nI rr) (fun r u => (r = 0 → Q 0 u) ∧ (¬ r = 0 → Q 1 u))) ∧ (¬ nI c = 0 → Q 0 L)))
    (k5 : kd = 5 → ((nI c = 0 → wp_X3_obeysPace L (nI rr) (fun r u => (r = 0 → Q 0 u) ∧ (¬ r = 0 → Q 1 u))) ∧ (¬ nI c = 0 → Q 0 L)))
    (k6 : kd = 6 → wp_X3_obeysLink L (nI c) (nI rr) (fun r u => Q r u))
    (k7 : kd = 7 → wp_X1_hasCounter L (nI c) (fun r => (r = 0 → Q 0 L) ∧ (¬ r = 0 → wp_X1_reading L (nI c) (fun r2 => (r2 = nI rr → Q 1 L) ∧ (¬ r2 = nI rr → Q 0 L)))))
    (k8 : kd = 8 → ((1 < nI rr → Q 0 L) ∧ (¬ 1 < nI rr → wp_X1_hasCounter L (nI c) (fun r => (r = 0 → Q 0 L) ∧ (¬ r = 0 → wp_X1_isAtRest L (nI c) (fun r2 => (nI rr = 1 → ((r2 = 1 → Q 1 L) ∧ (¬ r2 = 1 → Q 0 L))) ∧ (¬ nI rr = 1 → ((r2 = 0 → Q 1 L) ∧ (¬ r2 = 0 → Q 0 L)))))))))
    (k9 : kd = 9 → ((nI rr - nI rr / 1000 * 1000 = 0 → wp_X3_obeysGreater L (nI c) (nI rr / 1000) (fun r => (r = 0 → Q 0 L) ∧ (¬ r = 0 → Q 1 L))) ∧ (¬ nI rr - nI rr / 1000 * 1000 = 0 → Q 0 L)))
    (k0 : kd = 0 → Q 0 L) : wp_X3_obeys L (nI g) Q := by
  have hk : kd < 10 := by omega
  intro y1 e1 y2 e2
  rw [ob_n2 hg, h2] at e1
  rw [ob_n3 hg, h3] at e2
  subst e1
  subst e2
  rw [ob_n1 hg, h1]
  have e : ∀ q : Nat, q < 10 → (nI kd = nI q ↔ kd = q) := fun q hq => i_eq (by omega) (by omega)
  rw [show ((1 : Int32)) = nI 1 from rfl] at k8 ⊢
  rw [show ((2 : Int32)) = nI 2 from rfl, show ((3 : Int32)) = nI 3 from rfl, show ((4 : Int32)) = nI 4 from rfl, show ((5 : Int32)) = nI 5 from rfl, show ((6 : Int32)) = nI 6 from rfl, show ((7 : Int32)) = nI 7 from rfl, show ((8 : Int32)) = nI 8 from rfl, show ((9 : Int32)) = nI 9 from rfl, e 1 (by omega), e 2 (by omega), e 3 (by omega), e 4 (by omega), e 5 (by omega), e 6 (by omega), e 7 (by omega), e 8 (by omega), e 9 (by omega)]
  exact ⟨k1, fun _ => ⟨k2, fun _ => ⟨k3, fun _ => ⟨k4, fun _ => ⟨k5, fun _ => ⟨k6, fun _ => ⟨k7, fun _ => ⟨k8, fun _ => ⟨k9, fun _ => k0 (by omega)⟩⟩⟩⟩⟩⟩⟩⟩⟩
theorem cmd1 {A : AL} (hO : Ok A) (hT : aT A ≤ 40) {c rr : Nat} (hc : c < 10) (hr : rr < 10000) : ∃ bb A', CM A 1 c rr bb A' := by
  have hC := hO.1.2
  by_cases hcc : c < aC A
  · have h6 := hO.c6 hcc
    have h9 := hO.p9 c
    by_cases hf : fitN A c rr = true
    · have fr := pd_fr A false c rr (aP A c)
      have eT : aT (pd A false c rr (aP A c)) = aT A := congrArg (fun z => z.2.2.2) fr.1
      refine ⟨true, pd A false c rr (aP A c), CM_yes (pd_ok hO false c rr _ (Nat.le_refl _)) (by rw [eT]; exact hT) (fun L hL Q g hg e1 e2 e3 hQ => ?_) (fun M hM Q hQ => ?_)⟩
      · refine ob_go hg e1 e2 e3 (fun _ => ok_tryPutDigits (s := false) hL hO (by omega) (fun h => absurd h (ctrM hO hcc (by omega))) (fun c' hc' e hnf => ?_) (fun c' hc' e _ L' hL' => ?_)) (fun h => absurd h (by decide)) (fun h => absurd h (by decide)) (fun h => absurd h (by decide)) (fun h => absurd h (by decide)) (fun h => absurd h (by decide)) (fun h => absurd h (by decide)) (fun h => absurd h (by decide)) (fun h => absurd h (by decide)) (fun h => absurd h (by decide))
        · rw [i_eq (by omega) (by omega)] at e
          subst e
          exact absurd hf hnf
        · rw [i_eq (by omega) (by omega)] at e
          subst e
          exact hQ L' hL'
      · refine ok_isCounter_in hM hO hcc ?_
        have hd := dsum_le rr (aP A c)
        refine tp (by decide) (t1 (ok_fits (s := false) hM hO h6 (by omega) ?_))
        exact tb (fun h => absurd hf h) (fun _ => tp (by decide) (ok_addOn (s := false) hM hO h6 (by omega) (fun r' hr' => tn (i_neg _ (by omega)) (hQ (zr2 M 3 r') hr' (fun j h3 _ _ => t3f j h3)))))
    · refine ⟨false, A, CM_no hO hT (fun L hL Q g hg e1 e2 e3 hQ => ?_) (fun M hM Q hQ => ?_)⟩
      · refine ob_go hg e1 e2 e3 (fun _ => ok_tryPutDigits (s := false) hL hO (by omega) (fun h => hQ L) (fun c' hc' e hnf => hQ L) (fun c' hc' e hf2 L' hL' => ?_)) (fun h => absurd h (by decide)) (fun h => absurd h (by decide)) (fun h => absurd h (by decide)) (fun h => absurd h (by decide)) (fun h => absurd h (by decide)) (fun h => absurd h (by decide)) (fun h => absurd h (by decide)) (fun h => absurd h (by decide)) (fun h => absurd h (by decide))
        rw [i_eq (by omega) (by omega)] at e
        subst e
        exact absurd hf2 hf
      · refine ok_isCounter_in hM hO hcc ?_
        refine tp (by decide) (t1 (ok_fits (s := false) hM hO h6 (by omega) ?_))
        exact tb (fun _ => hQ M (fun _ _ _ _ => rfl)) (fun h => absurd h hf)
  · refine ⟨false, A, CM_no hO hT (fun L hL Q g hg e1 e2 e3 hQ => ?_) (fun M hM Q hQ => ?_)⟩
    · refine ob_go hg e1 e2 e3 (fun _ => ok_tryPutDigits (s := false) hL hO (by omega) (fun h => hQ L) (fun c' hc' e hnf => hQ L) (fun c' hc' e hf2 L' hL' => ?_)) (fun h => absurd h (by decide)) (fun h => absurd h (by decide)) (fun h => absurd h (by decide)) (fun h => absurd h (by decide)) (fun h => absurd h (by decide)) (fun h => absurd h (by decide)) (fun h => absurd h (by decide)) (fun h => absurd h (by decide)) (fun h => absurd h (by decide))
      rw [i_eq (by omega) (by omega)] at e
      subst e
      exact absurd hc' hcc
    · refine ok_isCounter_out hM hO (ctrN hO hcc (by omega)) ?_
      exact tp (by decide) (t0 (hQ M (fun _ _ _ _ => rfl)))
theorem cmd2 {A : AL} (hO : Ok A) (hT : aT A ≤ 40) {c rr : Nat} (hc : c < 10) (hr : rr < 10000) : ∃ bb A', CM A 2 c rr bb A' := by
  have hC := hO.1.2
  by_cases hcc : c < aC A
  · have h6 := hO.c6 hcc
    have h9 := hO.p9 c
    by_cases hf : fitN A c rr = true
    · have fr := pd_fr A true c rr (aP A c)
      have eT : aT (pd A true c rr (aP A c)) = aT A := congrArg (fun z => z.2.2.2) fr.1
      refine ⟨true, pd A true c rr (aP A c), CM_yes (pd_ok hO true c rr _ (Nat.le_refl _)) (by rw [eT]; exact hT) (fun L hL Q g hg e1 e2 e3 hQ => ?_) (fun M hM Q hQ => ?_)⟩
      · refine ob_go hg e1 e2 e3 (fun h => absurd h (by decide)) (fun _ => ok_tryPutDigits (s := true) hL hO (by omega) (fun h => absurd h (ctrM hO hcc (by omega))) (fun c' hc' e hnf => ?_) (fun c' hc' e _ L' hL' => ?_)) (fun h => absurd h (by decide)) (fun h => absurd h (by decide)) (fun h => absurd h (by decide)) (fun h => absurd h (by decide)) (fun h => absurd h (by decide)) (fun h => absurd h (by decide)) (fun h => absurd h (by decide)) (fun h => absurd h (by decide))
        · rw [i_eq (by omega) (by omega)] at e
          subst e
          exact absurd hf hnf
        · rw [i_eq (by omega) (by omega)] at e
          subst e
          exact hQ L' hL'
      · refine ok_isCounter_in hM hO hcc ?_
        have hd := dsum_le rr (aP A c)
        refine tn (by decide) (tp (by decide) (t1 (ok_fits (s := false) hM hO h6 (by omega) ?_)))
        exact tb (fun h => absurd hf h) (fun _ => tn (by decide) (ok_addOn (s := true) hM hO h6 (by omega) (fun r' hr' => tn (i_neg _ (by omega)) (hQ (zr2 M 3 r') hr' (fun j h3 _ _ => t3f j h3)))))
    · refine ⟨false, A, CM_no hO hT (fun L hL Q g hg e1 e2 e3 hQ => ?_) (fun M hM Q hQ => ?_)⟩
      · refine ob_go hg e1 e2 e3 (fun h => absurd h (by decide)) (fun _ => ok_tryPutDigits (s := true) hL hO (by omega) (fun h => hQ L) (fun c' hc' e hnf => hQ L) (fun c' hc' e hf2 L' hL' => ?_)) (fun h => absurd h (by decide)) (fun h => absurd h (by decide)) (fun h => absurd h (by decide)) (fun h => absurd h (by decide)) (fun h => absurd h (by decide)) (fun h => absurd h (by decide)) (fun h => absurd h (by decide)) (fun h => absurd h (by decide))
        rw [i_eq (by omega) (by omega)] at e
        subst e
        exact absurd hf2 hf
      · refine ok_isCounter_in hM hO hcc ?_
        refine tn (by decide) (tp (by decide) (t1 (ok_fits (s := false) hM hO h6 (by omega) ?_)))
        exact tb (fun _ => hQ M (fun _ _ _ _ => rfl)) (fun h => absurd h hf)
  · refine ⟨false, A, CM_no hO hT (fun L hL Q g hg e1 e2 e3 hQ => ?_) (fun M hM Q hQ => ?_)⟩
    · refine ob_go hg e1 e2 e3 (fun h => absurd h (by decide)) (fun _ => ok_tryPutDigits (s := true) hL hO (by omega) (fun h => hQ L) (fun c' hc' e hnf => hQ L) (fun c' hc' e hf2 L' hL' => ?_)) (fun h => absurd h (by decide)) (fun h => absurd h (by decide)) (fun h => absurd h (by decide)) (fun h => absurd h (by decide)) (fun h => absurd h (by decide)) (fun h => absurd h (by decide)) (fun h => absurd h (by decide)) (fun h => absurd h (by decide))
      rw [i_eq (by omega) (by omega)] at e
      subst e
      exact absurd hc' hcc
    · refine ok_isCounter_out hM hO (ctrN hO hcc (by omega)) ?_
      exact tn (by decide) (tp (by decide) (t0 (hQ M (fun _ _ _ _ => rfl))))
theorem cmd3 {A : AL} (hO : Ok A) (hT : aT A ≤ 40) {c rr : Nat} (hc : c < 10) (hr : rr < 10000) : ∃ bb A', CM A 3 c rr bb A' := by
  have hC := hO.1.2
  by_cases hz : rr = 0
  · by_cases hcc : c < aC A
    · have h6 := hO.c6 hcc
      by_cases h40 : aT A < 40
      · refine ⟨true, dr A c, CM_yes (dr_ok hO hcc (by omega)) h40 (fun L hL Q g hg e1 e2 e3 hQ => ?_) (fun M hM Q hQ => ?_)⟩
        · refine ob_go hg e1 e2 e3 (fun h => absurd h (by decide)) (fun h => absurd h (by decide)) (fun _ => tp (by rw [hz]; rfl) (ok_tryDraw hL hO (fun h => absurd h (ctrM hO hcc (by omega))) (fun c' hc' e h => absurd h (by omega)) (fun c' hc' e _ L' hL' => t1 ?_))) (fun h => absurd h (by decide)) (fun h => absurd h (by decide)) (fun h => absurd h (by decide)) (fun h => absurd h (by decide)) (fun h => absurd h (by decide)) (fun h => absurd h (by decide)) (fun h => absurd h (by decide))
          rw [i_eq (by omega) (by omega)] at e
          subst e
          exact hQ L' hL'
        · refine ok_isCounter_in hM hO hcc ?_
          have hl := aR_lt hO c
          refine tn (by decide) (tn (by decide) (tp (by decide) (t1 (tp (by rw [hz]; rfl) (tn ?_ (ok_drawOn hM hO h6 (by omega) (fun r' hr' => tn (i_neg _ (by omega)) (hQ (zr2 M 3 r') hr' (fun j h3 _ _ => t3f j h3)))))))))
          rw [z3, hM.1.2.2.2, show (40 : Int32) = nI 40 from rfl, i_le (by omega) (by omega)]
          omega
      · refine ⟨false, A, CM_no hO hT (fun L hL Q g hg e1 e2 e3 hQ => ?_) (fun M hM Q hQ => ?_)⟩
        · exact ob_go hg e1 e2 e3 (fun h => absurd h (by decide)) (fun h => absurd h (by decide)) (fun _ => tp (by rw [hz]; rfl) (ok_tryDraw hL hO (fun h => absurd h (ctrM hO hcc (by omega))) (fun c' hc' e h => t0 (hQ L)) (fun c' hc' e h L' hL' => absurd h h40))) (fun h => absurd h (by decide)) (fun h => absurd h (by decide)) (fun h => absurd h (by decide)) (fun h => absurd h (by decide)) (fun h => absurd h (by decide)) (fun h => absurd h (by decide)) (fun h => absurd h (by decide))
        · refine ok_isCounter_in hM hO hcc ?_
          refine tn (by decide) (tn (by decide) (tp (by decide) (t1 (tp (by rw [hz]; rfl) (tp ?_ (hQ M (fun _ _ _ _ => rfl)))))))
          rw [z3, hM.1.2.2.2, show (40 : Int32) = nI 40 from rfl, i_le (by omega) (by omega)]
          omega
    · refine ⟨false, A, CM_no hO hT (fun L hL Q g hg e1 e2 e3 hQ => ?_) (fun M hM Q hQ => ?_)⟩
      · refine ob_go hg e1 e2 e3 (fun h => absurd h (by decide)) (fun h => absurd h (by decide)) (fun _ => tp (by rw [hz]; rfl) (ok_tryDraw hL hO (fun h => t0 (hQ L)) (fun c' hc' e h => t0 (hQ L)) (fun c' hc' e h L' hL' => ?_))) (fun h => absurd h (by decide)) (fun h => absurd h (by decide)) (fun h => absurd h (by decide)) (fun h => absurd h (by decide)) (fun h => absurd h (by decide)) (fun h => absurd h (by decide)) (fun h => absurd h (by decide))
        rw [i_eq (by omega) (by omega)] at e
        subst e
        exact absurd hc' hcc
      · refine ok_isCounter_out hM hO (ctrN hO hcc (by omega)) ?_
        exact tn (by decide) (tn (by decide) (tp (by decide) (t0 (hQ M (fun _ _ _ _ => rfl)))))
  · have nz : ¬ nI rr = 0 := fun h => hz ((i0 (by omega)).mp h)
    refine ⟨false, A, CM_no hO hT (fun L hL Q g hg e1 e2 e3 hQ => ?_) (fun M hM Q hQ => ?_)⟩
    · exact ob_go hg e1 e2 e3 (fun h => absurd h (by decide)) (fun h => absurd h (by decide)) (fun _ => tn nz (hQ L)) (fun h => absurd h (by decide)) (fun h => absurd h (by decide)) (fun h => absurd h (by decide)) (fun h => absurd h (by decide)) (fun h => absurd h (by decide)) (fun h => absurd h (by decide)) (fun h => absurd h (by decide))
    · by_cases hcc : c < aC A
      · refine ok_isCounter_in hM hO hcc ?_
        exact tn (by decide) (tn (by decide) (tp (by decide) (t1 (tn nz (hQ M (fun _ _ _ _ => rfl))))))
      · refine ok_isCounter_out hM hO (ctrN hO hcc (by omega)) ?_
        exact tn (by decide) (tn (by decide) (tp (by decide) (t0 (hQ M (fun _ _ _ _ => rfl)))))
theorem ic_any {r : Nat → Int32} {A : AL} (hR : RepR r A) (hO : Ok A) {c : Nat} (hc : c < 100000) {Q : Int32 → Prop} (h : ∀ x, Q x) : wp_X4_isCounter r (nI c) Q := by
  by_cases hcc : c < aC A
  · exact ok_isCounter_in hR hO hcc (h 1)
  · exact ok_isCounter_out hR hO (ctrN hO hcc hc) (h 0)
theorem cmd4 {A : AL} (hO : Ok A) (hT : aT A ≤ 40) {c rr : Nat} (hc : c < 10) (hr : rr < 10000) : ∃ bb A', CM A 4 c rr bb A' := by
  have hC := hO.1.2
  have er := i_toInt (n := rr) (by omega)
  by_cases hz : c = 0
  · have z : nI c = 0 := by rw [hz]; rfl
    by_cases hb : 1 ≤ rr ∧ rr ≤ 99
    · have fr := bts_fr rr A
      have hB := bts_ok rr hO
      refine ⟨true, bts rr A, CM_yes hB (by rw [fr.2.2.1]; exact hT) (fun L hL Q g hg e1 e2 e3 hQ => ?_) (fun M hM Q hQ => ?_)⟩
      · refine ob_go hg e1 e2 e3 (fun h => absurd h (by decide)) (fun h => absurd h (by decide)) (fun h => absurd h (by decide)) (fun _ => tp z ?_) (fun h => absurd h (by decide)) (fun h => absurd h (by decide)) (fun h => absurd h (by decide)) (fun h => absurd h (by decide)) (fun h => absurd h (by decide)) (fun h => absurd h (by decide))
        unfold wp_X3_obeysBeats
        rw [show (1 : Int32) = nI 1 from rfl, show (99 : Int32) = nI 99 from rfl, i_lt (by omega) (by omega), i_le (by omega) (by omega)]
        exact tn (by omega) (tp hb.2 (ok_passBeats hL hO (by omega) (fun L' hL' => t1 (hQ L' hL'))))
      · refine ic_any hM hO (by omega) (fun r1 => ?_)
        have hE : aE (bts rr A) ≤ aC (bts rr A) := cnt_le _ _
        rw [fr.1] at hE
        exact tn (by decide) (tn (by decide) (tn (by decide) (tp (by decide) (tp z (in_yes (l := 1) (h := 99) (by decide) (by decide) (by omega) (t1 (ok_beatsOn_t hM hO (by omega) (fun M' hR' hF' => tn (i_neg _ (by omega)) (hQ M' hR' hF')))))))))
    · refine ⟨false, A, CM_no hO hT (fun L hL Q g hg e1 e2 e3 hQ => ?_) (fun M hM Q hQ => ?_)⟩
      · refine ob_go hg e1 e2 e3 (fun h => absurd h (by decide)) (fun h => absurd h (by decide)) (fun h => absurd h (by decide)) (fun _ => tp z ?_) (fun h => absurd h (by decide)) (fun h => absurd h (by decide)) (fun h => absurd h (by decide)) (fun h => absurd h (by decide)) (fun h => absurd h (by decide)) (fun h => absurd h (by decide))
        unfold wp_X3_obeysBeats
        rw [show (1 : Int32) = nI 1 from rfl, show (99 : Int32) = nI 99 from rfl, i_lt (by omega) (by omega), i_le (by omega) (by omega)]
        exact ⟨fun _ => t0 (hQ L), fun _ => tn (by omega) (t0 (hQ L))⟩
      · refine ic_any hM hO (by omega) (fun r1 => ?_)
        exact tn (by decide) (tn (by decide) (tn (by decide) (tp (by decide) (tp z (in_no (l := 1) (h := 99) (by decide) (by decide) (by omega) (t0 (hQ M (fun _ _ _ _ => rfl))))))))
  · have z : ¬ nI c = 0 := fun h => hz ((i0 (by omega)).mp h)
    refine ⟨false, A, CM_no hO hT (fun L hL Q g hg e1 e2 e3 hQ => ?_) (fun M hM Q hQ => ?_)⟩
    · exact ob_go hg e1 e2 e3 (fun h => absurd h (by decide)) (fun h => absurd h (by decide)) (fun h => absurd h (by decide)) (fun _ => tn z (hQ L)) (fun h => absurd h (by decide)) (fun h => absurd h (by decide)) (fun h => absurd h (by decide)) (fun h => absurd h (by decide)) (fun h => absurd h (by decide)) (fun h => absurd h (by decide))
    · refine ic_any hM hO (by omega) (fun r1 => ?_)
      exact tn (by decide) (tn (by decide) (tn (by decide) (tp (by decide) (tn z (hQ M (fun _ _ _ _ => rfl))))))
theorem cmd5 {A : AL} (hO : Ok A) (hT : aT A ≤ 40) {c rr : Nat} (hc : c < 10) (hr : rr < 10000) : ∃ bb A', CM A 5 c rr bb A' := by
  have hC := hO.1.2
  have er := i_toInt (n := rr) (by omega)
  by_cases hz : c = 0
  · have z : nI c = 0 := by rw [hz]; rfl
    have z2 : ¬ 0 < nI c := by rw [z]; decide
    by_cases hb : 1 ≤ rr ∧ rr ≤ 9
    · refine ⟨true, sG A rr, CM_yes (ok_G hO hb) hT (fun L hL Q g hg e1 e2 e3 hQ => ?_) (fun M hM Q hQ => ?_)⟩
      · refine ob_go hg e1 e2 e3 (fun h => absurd h (by decide)) (fun h => absurd h (by decide)) (fun h => absurd h (by decide)) (fun h => absurd h (by decide)) (fun _ => tp z ?_) (fun h => absurd h (by decide)) (fun h => absurd h (by decide)) (fun h => absurd h (by decide)) (fun h => absurd h (by decide)) (fun h => absurd h (by decide))
        unfold wp_X3_obeysPace
        rw [show (1 : Int32) = nI 1 from rfl, show (9 : Int32) = nI 9 from rfl, i_lt (by omega) (by omega), i_le (by omega) (by omega)]
        exact tn (by omega) (tp hb.2 (t1 (hQ _ (rep_G hL rr))))
      · refine ic_any hM hO (by omega) (fun r1 => ?_)
        rw [z1]
        exact tn (by decide) (tn (by decide) (tn (by decide) (tn (by decide) (tp (by decide) (tn z2 (in_yes (l := 1) (h := 9) (by decide) (by decide) (by omega) (t1 (hQ _ (rr_G hM rr) (fun j h3 _ _ => t3f j h3)))))))))
    · refine ⟨false, A, CM_no hO hT (fun L hL Q g hg e1 e2 e3 hQ => ?_) (fun M hM Q hQ => ?_)⟩
      · refine ob_go hg e1 e2 e3 (fun h => absurd h (by decide)) (fun h => absurd h (by decide)) (fun h => absurd h (by decide)) (fun h => absurd h (by decide)) (fun _ => tp z ?_) (fun h => absurd h (by decide)) (fun h => absurd h (by decide)) (fun h => absurd h (by decide)) (fun h => absurd h (by decide)) (fun h => absurd h (by decide))
        unfold wp_X3_obeysPace
        rw [show (1 : Int32) = nI 1 from rfl, show (9 : Int32) = nI 9 from rfl, i_lt (by omega) (by omega), i_le (by omega) (by omega)]
        exact ⟨fun _ => t0 (hQ L), fun _ => tn (by omega) (t0 (hQ L))⟩
      · refine ic_any hM hO (by omega) (fun r1 => ?_)
        exact tn (by decide) (tn (by decide) (tn (by decide) (tn (by decide) (tp (by decide) (tn z2 (in_no (l := 1) (h := 9) (by decide) (by decide) (by omega) (t0 (hQ M (fun _ _ _ _ => rfl)))))))))
  · have z : ¬ nI c = 0 := fun h => hz ((i0 (by omega)).mp h)
    have z2 : 0 < nI c := by
      rw [show (0 : Int32) = nI 0 from rfl, i_lt (by omega) (by omega)]
      omega
    refine ⟨false, A, CM_no hO hT (fun L hL Q g hg e1 e2 e3 hQ => ?_) (fun M hM Q hQ => ?_)⟩
    · exact ob_go hg e1 e2 e3 (fun h => absurd h (by decide)) (fun h => absurd h (by decide)) (fun h => absurd h (by decide)) (fun h => absurd h (by decide)) (fun _ => tn z (hQ L)) (fun h => absurd h (by decide)) (fun h => absurd h (by decide)) (fun h => absurd h (by decide)) (fun h => absurd h (by decide)) (fun h => absurd h (by decide))
    · refine ic_any hM hO (by omega) (fun r1 => ?_)
      exact tn (by decide) (tn (by decide) (tn (by decide) (tn (by decide) (tp (by decide) (tp z2 (hQ M (fun _ _ _ _ => rfl)))))))
theorem cmd6 {A : AL} (hO : Ok A) (hT : aT A ≤ 40) {c rr : Nat} (hc : c < 10) (hr : rr < 10000) : ∃ bb A', CM A 6 c rr bb A' := by
  have hC := hO.1
  by_cases hcc : c + 1 < aC A
  · have h6 : c < 6 := by omega
    by_cases h2 : rr ≤ 1
    · refine ⟨true, sK A c (decide (rr = 1)), CM_yes (ok_K hO hcc _) hT (fun L hL Q g hg e1 e2 e3 hQ => ?_) (fun M hM Q hQ => ?_)⟩
      · refine ob_go hg e1 e2 e3 (fun h => absurd h (by decide)) (fun h => absurd h (by decide)) (fun h => absurd h (by decide)) (fun h => absurd h (by decide)) (fun h => absurd h (by decide)) (fun _ => ?_) (fun h => absurd h (by decide)) (fun h => absurd h (by decide)) (fun h => absurd h (by decide)) (fun h => absurd h (by decide))
        unfold wp_X3_obeysLink
        rw [show (1 : Int32) = nI 1 from rfl, i_lt (by omega) (by omega), i_eq (a := rr) (by omega) (by omega)]
        refine tn (by omega) (canLink_in hL hO hcc (t1 ⟨fun e => ⟨i_in (by omega) (by decide), ?_⟩, fun e => ⟨i_in (by omega) (by decide), ?_⟩⟩))
        · rw [show vp_nar .boolean (nI 1) = 1 from nar1, i_cl (by omega)]
          exact hQ _ (rep_K hL c _ (by rw [decide_eq_true e]; rfl))
        · rw [nar0, i_cl (by omega)]
          exact hQ _ (rep_K hL c _ (by rw [decide_eq_false e]; rfl))
      · refine ic_any hM hO (by omega) (fun r1 => ?_)
        rw [z0, hM.1.1]
        refine tn (by decide) (tn (by decide) (tn (by decide) (tn (by decide) (tn (by decide) (tp (by decide) (in_lk (by omega) (by omega) (fun h => absurd ⟨c, hcc, rfl⟩ h) (fun _ => t1 (tn ?_ ?_))))))))
        · rw [show (2 : Int32) = nI 2 from rfl, i_le (by omega) (by omega)]
          omega
        · have hk : ∀ B : AL, Ok B → aKn B < 100000 := fun B hB => by
            have h1 : aKn B ≤ aC B := cnt_le _ _
            have h2 := hB.1.2
            omega
          have e1 : (nI rr = 1) ↔ rr = 1 := i_eq (b := 1) (by omega) (by omega)
          refine ⟨fun e => ?_, fun e => ?_⟩
          · rw [e1] at e
            rw [decide_eq_true e] at hQ
            exact ok_linkOn hM hO hcc (b := true) (fun h => absurd h (by decide)) (fun _ => rfl) (fun r' hr' => tn (i_neg _ (hk _ (ok_K hO hcc _))) (hQ (zr2 M 3 r') hr' (fun j h3 _ _ => t3f j h3)))
          · rw [e1] at e
            rw [decide_eq_false e] at hQ
            exact ok_linkOn hM hO hcc (b := false) (fun _ => rfl) (fun h => absurd rfl h) (fun r' hr' => tn (i_neg _ (hk _ (ok_K hO hcc _))) (hQ (zr2 M 3 r') hr' (fun j h3 _ _ => t3f j h3)))
    · refine ⟨false, A, CM_no hO hT (fun L hL Q g hg e1 e2 e3 hQ => ?_) (fun M hM Q hQ => ?_)⟩
      · refine ob_go hg e1 e2 e3 (fun h => absurd h (by decide)) (fun h => absurd h (by decide)) (fun h => absurd h (by decide)) (fun h => absurd h (by decide)) (fun h => absurd h (by decide)) (fun _ => tp ?_ (hQ L)) (fun h => absurd h (by decide)) (fun h => absurd h (by decide)) (fun h => absurd h (by decide)) (fun h => absurd h (by decide))
        rw [show (1 : Int32) = nI 1 from rfl, i_lt (by omega) (by omega)]
        omega
      · refine ic_any hM hO (by omega) (fun r1 => ?_)
        rw [z0, hM.1.1]
        refine tn (by decide) (tn (by decide) (tn (by decide) (tn (by decide) (tn (by decide) (tp (by decide) (in_lk (by omega) (by omega) (fun h => absurd ⟨c, hcc, rfl⟩ h) (fun _ => t1 (tp ?_ (hQ M (fun _ _ _ _ => rfl))))))))))
        rw [show (2 : Int32) = nI 2 from rfl, i_le (by omega) (by omega)]
        omega
  · have nx : ¬ ∃ c', c' + 1 < aC A ∧ nI c = nI c' := fun ⟨c', h1, h2⟩ => by
      rw [i_eq (by omega) (by omega)] at h2
      omega
    refine ⟨false, A, CM_no hO hT (fun L hL Q g hg e1 e2 e3 hQ => ?_) (fun M hM Q hQ => ?_)⟩
    · refine ob_go hg e1 e2 e3 (fun h => absurd h (by decide)) (fun h => absurd h (by decide)) (fun h => absurd h (by decide)) (fun h => absurd h (by decide)) (fun h => absurd h (by decide)) (fun _ => ?_) (fun h => absurd h (by decide)) (fun h => absurd h (by decide)) (fun h => absurd h (by decide)) (fun h => absurd h (by decide))
      unfold wp_X3_obeysLink
      exact ⟨fun _ => hQ L, fun _ => canLink_out hL hO nx (t0 (hQ L))⟩
    · refine ic_any hM hO (by omega) (fun r1 => ?_)
      rw [z0, hM.1.1]
      exact tn (by decide) (tn (by decide) (tn (by decide) (tn (by decide) (tn (by decide) (tp (by decide) (in_lk (by omega) (by omega) (fun _ => t0 (hQ M (fun _ _ _ _ => rfl))) (fun h => absurd h nx)))))))
theorem cmd7 {A : AL} (hO : Ok A) (hT : aT A ≤ 40) {c rr : Nat} (hc : c < 10) (hr : rr < 10000) : ∃ bb A', CM A 7 c rr bb A' := by
  have hC := hO.1
  have hl := aR_lt hO c
  by_cases hcc : c < aC A
  · have h6 := hO.c6 hcc
    by_cases hv : aR A c = rr
    · refine ⟨true, A, CM_yes hO hT (fun L hL Q g hg e1 e2 e3 hQ => ?_) (fun M hM Q hQ => ?_)⟩
      · exact ob_go hg e1 e2 e3 (fun h => absurd h (by decide)) (fun h => absurd h (by decide)) (fun h => absurd h (by decide)) (fun h => absurd h (by decide)) (fun h => absurd h (by decide)) (fun h => absurd h (by decide)) (fun _ => ok_hasCounter_in hL hO hcc (t1 (ok_reading hL hO h6 (tp (by rw [hv]) (hQ L hL))))) (fun h => absurd h (by decide)) (fun h => absurd h (by decide)) (fun h => absurd h (by decide))
      · refine ok_isCounter_in hM hO hcc ?_
        exact tn (by decide) (tn (by decide) (tn (by decide) (tn (by decide) (tn (by decide) (tn (by decide) (tp (by decide) (t1 (ok_shownOn hM hO h6 (tp (by rw [hv]) (hQ M hM (fun _ _ _ _ => rfl)))))))))))
    · have nv : ¬ nI (aR A c) = nI rr := fun h => hv ((i_eq (by omega) (by omega)).mp h)
      refine ⟨false, A, CM_no hO hT (fun L hL Q g hg e1 e2 e3 hQ => ?_) (fun M hM Q hQ => ?_)⟩
      · exact ob_go hg e1 e2 e3 (fun h => absurd h (by decide)) (fun h => absurd h (by decide)) (fun h => absurd h (by decide)) (fun h => absurd h (by decide)) (fun h => absurd h (by decide)) (fun h => absurd h (by decide)) (fun _ => ok_hasCounter_in hL hO hcc (t1 (ok_reading hL hO h6 (tn nv (hQ L))))) (fun h => absurd h (by decide)) (fun h => absurd h (by decide)) (fun h => absurd h (by decide))
      · refine ok_isCounter_in hM hO hcc ?_
        exact tn (by decide) (tn (by decide) (tn (by decide) (tn (by decide) (tn (by decide) (tn (by decide) (tp (by decide) (t1 (ok_shownOn hM hO h6 (tn nv (hQ M (fun _ _ _ _ => rfl)))))))))))
  · refine ⟨false, A, CM_no hO hT (fun L hL Q g hg e1 e2 e3 hQ => ?_) (fun M hM Q hQ => ?_)⟩
    · exact ob_go hg e1 e2 e3 (fun h => absurd h (by decide)) (fun h => absurd h (by decide)) (fun h => absurd h (by decide)) (fun h => absurd h (by decide)) (fun h => absurd h (by decide)) (fun h => absurd h (by decide)) (fun _ => ok_hasCounter_out hL hO (ctrN hO hcc (by omega)) (t0 (hQ L))) (fun h => absurd h (by decide)) (fun h => absurd h (by decide)) (fun h => absurd h (by decide))
    · refine ok_isCounter_out hM hO (ctrN hO hcc (by omega)) ?_
      exact tn (by decide) (tn (by decide) (tn (by decide) (tn (by decide) (tn (by decide) (tn (by decide) (tp (by decide) (t0 (hQ M (fun _ _ _ _ => rfl)))))))))
theorem cmd8 {A : AL} (hO : Ok A) (hT : aT A ≤ 40) {c rr : Nat} (hc : c < 10) (hr : rr < 10000) : ∃ bb A', CM A 8 c rr bb A' := by
  have hC := hO.1
  have f1 : (1 < nI rr) ↔ 1 < rr := i_lt (a := 1) (by omega) (by omega)
  have f2 : ((2 : Int32) ≤ nI rr) ↔ 2 ≤ rr := i_le (a := 2) (by omega) (by omega)
  have f3 : (nI rr = 1) ↔ rr = 1 := i_eq (b := 1) (by omega) (by omega)
  have hq := aQ_le hO c
  have f4 : (nI (aQ A c) = 0) ↔ aQ A c = 0 := i0 (by omega)
  by_cases hcc : c < aC A
  · have h6 := hO.c6 hcc
    by_cases h2 : rr ≤ 1
    · by_cases hv : (aQ A c = 0 ∧ rr = 1) ∨ (¬ aQ A c = 0 ∧ ¬ rr = 1)
      · refine ⟨true, A, CM_yes hO hT (fun L hL Q g hg e1 e2 e3 hQ => ?_) (fun M hM Q hQ => ?_)⟩
        · refine ob_go hg e1 e2 e3 (fun h => absurd h (by decide)) (fun h => absurd h (by decide)) (fun h => absurd h (by decide)) (fun h => absurd h (by decide)) (fun h => absurd h (by decide)) (fun h => absurd h (by decide)) (fun h => absurd h (by decide)) (fun _ => tn (by rw [f1]; omega) (ok_hasCounter_in hL hO hcc (t1 (ok_isAtRest hL hO h6 ?_)))) (fun h => absurd h (by decide)) (fun h => absurd h (by decide))
          rw [f3]
          rcases hv with hv | hv
          · rw [if_pos hv.1]
            exact tp hv.2 (tp rfl (hQ L hL))
          · rw [if_neg hv.1]
            exact tn hv.2 (tp rfl (hQ L hL))
        · refine ok_isCounter_in hM hO hcc ?_
          refine tn (by decide) (tn (by decide) (tn (by decide) (tn (by decide) (tn (by decide) (tn (by decide) (tn (by decide) (tp (by decide) (t1 (tn (by rw [f2]; omega) (ok_waitsOn hM hO h6 ?_))))))))))
          rw [f4, f3]
          rcases hv with hv | hv
          · exact tp hv.1 (tp hv.2 (hQ M hM (fun _ _ _ _ => rfl)))
          · exact tn hv.1 (tn hv.2 (hQ M hM (fun _ _ _ _ => rfl)))
      · refine ⟨false, A, CM_no hO hT (fun L hL Q g hg e1 e2 e3 hQ => ?_) (fun M hM Q hQ => ?_)⟩
        · refine ob_go hg e1 e2 e3 (fun h => absurd h (by decide)) (fun h => absurd h (by decide)) (fun h => absurd h (by decide)) (fun h => absurd h (by decide)) (fun h => absurd h (by decide)) (fun h => absurd h (by decide)) (fun h => absurd h (by decide)) (fun _ => tn (by rw [f1]; omega) (ok_hasCounter_in hL hO hcc (t1 (ok_isAtRest hL hO h6 ?_)))) (fun h => absurd h (by decide)) (fun h => absurd h (by decide))
          rw [f3]
          by_cases hz : aQ A c = 0
          · rw [if_pos hz]
            exact tn (fun h => hv (Or.inl ⟨hz, h⟩)) (tn (by decide) (hQ L))
          · rw [if_neg hz]
            exact tp (Classical.byContradiction fun h => hv (Or.inr ⟨hz, h⟩)) (tn (by decide) (hQ L))
        · refine ok_isCounter_in hM hO hcc ?_
          refine tn (by decide) (tn (by decide) (tn (by decide) (tn (by decide) (tn (by decide) (tn (by decide) (tn (by decide) (tp (by decide) (t1 (tn (by rw [f2]; omega) (ok_waitsOn hM hO h6 ?_))))))))))
          rw [f4, f3]
          by_cases hz : aQ A c = 0
          · exact tp hz (tn (fun h => hv (Or.inl ⟨hz, h⟩)) (hQ M (fun _ _ _ _ => rfl)))
          · exact tn hz (tp (Classical.byContradiction fun h => hv (Or.inr ⟨hz, h⟩)) (hQ M (fun _ _ _ _ => rfl)))
    · refine ⟨false, A, CM_no hO hT (fun L hL Q g hg e1 e2 e3 hQ => ?_) (fun M hM Q hQ => ?_)⟩
      · exact ob_go hg e1 e2 e3 (fun h => absurd h (by decide)) (fun h => absurd h (by decide)) (fun h => absurd h (by decide)) (fun h => absurd h (by decide)) (fun h => absurd h (by decide)) (fun h => absurd h (by decide)) (fun h => absurd h (by decide)) (fun _ => tp (by rw [f1]; omega) (hQ L)) (fun h => absurd h (by decide)) (fun h => absurd h (by decide))
      · refine ok_isCounter_in hM hO hcc ?_
        exact tn (by decide) (tn (by decide) (tn (by decide) (tn (by decide) (tn (by decide) (tn (by decide) (tn (by decide) (tp (by decide) (t1 (tp (by rw [f2]; omega) (hQ M (fun _ _ _ _ => rfl)))))))))))
  · refine ⟨false, A, CM_no hO hT (fun L hL Q g hg e1 e2 e3 hQ => ?_) (fun M hM Q hQ => ?_)⟩
    · exact ob_go hg e1 e2 e3 (fun h => absurd h (by decide)) (fun h => absurd h (by decide)) (fun h => absurd h (by decide)) (fun h => absurd h (by decide)) (fun h => absurd h (by decide)) (fun h => absurd h (by decide)) (fun h => absurd h (by decide)) (fun _ => ⟨fun _ => hQ L, fun _ => ok_hasCounter_out hL hO (ctrN hO hcc (by omega)) (t0 (hQ L))⟩) (fun h => absurd h (by decide)) (fun h => absurd h (by decide))
    · refine ok_isCounter_out hM hO (ctrN hO hcc (by omega)) ?_
      exact tn (by decide) (tn (by decide) (tn (by decide) (tn (by decide) (tn (by decide) (tn (by decide) (tn (by decide) (tp (by decide) (t0 (hQ M (fun _ _ _ _ => rfl))))))))))
theorem cmd9 {A : AL} (hO : Ok A) (hT : aT A ≤ 40) {c rr : Nat} (hc : c < 10) (hr : rr < 10000) : ∃ bb A', CM A 9 c rr bb A' := by
  have hC := hO.1
  have f1 : (nI rr - nI rr / 1000 * 1000 = 0) ↔ rr % 1000 = 0 := by
    rw [show (1000 : Int32) = nI 1000 from rfl, pk_rem (by omega) (by decide) (by decide)]
    exact i0 (by omega)
  have f2 : nI rr / 1000 = nI (rr / 1000) := by
    rw [show (1000 : Int32) = nI 1000 from rfl, pk_div (by omega) (by decide) (by decide)]
  by_cases hm : rr % 1000 = 0
  · by_cases hcc : c < aC A
    · have h6 := hO.c6 hcc
      by_cases hdd : rr / 1000 < aC A
      · have d6 := hO.c6 hdd
        by_cases hv : lg_cmp (aV A c) (aV A (rr / 1000)) ≤ 0
        · refine ⟨false, A, CM_no hO hT (fun L hL Q g hg e1 e2 e3 hQ => ?_) (fun M hM Q hQ => ?_)⟩
          · refine ob_go hg e1 e2 e3 (fun h => absurd h (by decide)) (fun h => absurd h (by decide)) (fun h => absurd h (by decide)) (fun h => absurd h (by decide)) (fun h => absurd h (by decide)) (fun h => absurd h (by decide)) (fun h => absurd h (by decide)) (fun h => absurd h (by decide)) (fun _ => tp (f1.mpr hm) ?_) (fun h => absurd h (by decide))
            rw [f2]
            exact ok_hasCounter_in hL hO hcc (t1 (ok_hasCounter_in hL hO hdd (t1 (ok_fullReading hL hO h6 (ok_fullReading hL hO d6 (tp hv (t0 (hQ L))))))))
          · refine ok_isCounter_in hM hO hcc ?_
            rw [f2]
            refine tn (by decide) (tn (by decide) (tn (by decide) (tn (by decide) (tn (by decide) (tn (by decide) (tn (by decide) (tn (by decide) (tp (by decide) (t1 (tp ?_ (ok_isCounter_in hM hO hdd (t1 (ok_worthOn hM hO h6 (ok_worthOn hM hO d6 (tp hv (hQ M (fun _ _ _ _ => rfl)))))))))))))))))
            rw [← f2]
            exact f1.mpr hm
        · refine ⟨true, A, CM_yes hO hT (fun L hL Q g hg e1 e2 e3 hQ => ?_) (fun M hM Q hQ => ?_)⟩
          · refine ob_go hg e1 e2 e3 (fun h => absurd h (by decide)) (fun h => absurd h (by decide)) (fun h => absurd h (by decide)) (fun h => absurd h (by decide)) (fun h => absurd h (by decide)) (fun h => absurd h (by decide)) (fun h => absurd h (by decide)) (fun h => absurd h (by decide)) (fun _ => tp (f1.mpr hm) ?_) (fun h => absurd h (by decide))
            rw [f2]
            exact ok_hasCounter_in hL hO hcc (t1 (ok_hasCounter_in hL hO hdd (t1 (ok_fullReading hL hO h6 (ok_fullReading hL hO d6 (tn hv (t1 (hQ L hL))))))))
          · refine ok_isCounter_in hM hO hcc ?_
            rw [f2]
            refine tn (by decide) (tn (by decide) (tn (by decide) (tn (by decide) (tn (by decide) (tn (by decide) (tn (by decide) (tn (by decide) (tp (by decide) (t1 (tp ?_ (ok_isCounter_in hM hO hdd (t1 (ok_worthOn hM hO h6 (ok_worthOn hM hO d6 (tn hv (hQ M hM (fun _ _ _ _ => rfl)))))))))))))))))
            rw [← f2]
            exact f1.mpr hm
      · refine ⟨false, A, CM_no hO hT (fun L hL Q g hg e1 e2 e3 hQ => ?_) (fun M hM Q hQ => ?_)⟩
        · refine ob_go hg e1 e2 e3 (fun h => absurd h (by decide)) (fun h => absurd h (by decide)) (fun h => absurd h (by decide)) (fun h => absurd h (by decide)) (fun h => absurd h (by decide)) (fun h => absurd h (by decide)) (fun h => absurd h (by decide)) (fun h => absurd h (by decide)) (fun _ => tp (f1.mpr hm) ?_) (fun h => absurd h (by decide))
          rw [f2]
          exact ok_hasCounter_in hL hO hcc (t1 (ok_hasCounter_out hL hO (ctrN hO hdd (by omega)) (t0 (t0 (hQ L)))))
        · refine ok_isCounter_in hM hO hcc ?_
          rw [f2]
          refine tn (by decide) (tn (by decide) (tn (by decide) (tn (by decide) (tn (by decide) (tn (by decide) (tn (by decide) (tn (by decide) (tp (by decide) (t1 (tp ?_ (ok_isCounter_out hM hO (ctrN hO hdd (by omega)) (t0 (hQ M (fun _ _ _ _ => rfl))))))))))))))
          rw [← f2]
          exact f1.mpr hm
    · refine ⟨false, A, CM_no hO hT (fun L hL Q g hg e1 e2 e3 hQ => ?_) (fun M hM Q hQ => ?_)⟩
      · refine ob_go hg e1 e2 e3 (fun h => absurd h (by decide)) (fun h => absurd h (by decide)) (fun h => absurd h (by decide)) (fun h => absurd h (by decide)) (fun h => absurd h (by decide)) (fun h => absurd h (by decide)) (fun h => absurd h (by decide)) (fun h => absurd h (by decide)) (fun _ => tp (f1.mpr hm) ?_) (fun h => absurd h (by decide))
        exact ok_hasCounter_out hL hO (ctrN hO hcc (by omega)) (t0 (t0 (hQ L)))
      · refine ok_isCounter_out hM hO (ctrN hO hcc (by omega)) ?_
        exact tn (by decide) (tn (by decide) (tn (by decide) (tn (by decide) (tn (by decide) (tn (by decide) (tn (by decide) (tn (by decide) (tp (by decide) (t0 (hQ M (fun _ _ _ _ => rfl)))))))))))
  · refine ⟨false, A, CM_no hO hT (fun L hL Q g hg e1 e2 e3 hQ => ?_) (fun M hM Q hQ => ?_)⟩
    · exact ob_go hg e1 e2 e3 (fun h => absurd h (by decide)) (fun h => absurd h (by decide)) (fun h => absurd h (by decide)) (fun h => absurd h (by decide)) (fun h => absurd h (by decide)) (fun h => absurd h (by decide)) (fun h => absurd h (by decide)) (fun h => absurd h (by decide)) (fun _ => tn (fun h => hm (f1.mp h)) (hQ L)) (fun h => absurd h (by decide))
    · by_cases hcc : c < aC A
      · refine ok_isCounter_in hM hO hcc ?_
        exact tn (by decide) (tn (by decide) (tn (by decide) (tn (by decide) (tn (by decide) (tn (by decide) (tn (by decide) (tn (by decide) (tp (by decide) (t1 (tn (fun h => hm (f1.mp h)) (hQ M (fun _ _ _ _ => rfl))))))))))))
      · refine ok_isCounter_out hM hO (ctrN hO hcc (by omega)) ?_
        exact tn (by decide) (tn (by decide) (tn (by decide) (tn (by decide) (tn (by decide) (tn (by decide) (tn (by decide) (tn (by decide) (tp (by decide) (t0 (hQ M (fun _ _ _ _ => rfl)))))))))))
theorem cmd0 {A : AL} (hO : Ok A) (hT : aT A ≤ 40) {c rr : Nat} (hc : c < 10) (hr : rr < 10000) : ∃ bb A', CM A 0 c rr bb A' := by
  refine ⟨false, A, CM_no hO hT (fun L hL Q g hg e1 e2 e3 hQ => ?_) (fun M hM Q hQ => ?_)⟩
  · exact ob_go hg e1 e2 e3 (fun h => absurd h (by decide)) (fun h => absurd h (by decide)) (fun h => absurd h (by decide)) (fun h => absurd h (by decide)) (fun h => absurd h (by decide)) (fun h => absurd h (by decide)) (fun h => absurd h (by decide)) (fun h => absurd h (by decide)) (fun h => absurd h (by decide)) (fun _ => hQ L)
  · refine ic_any hM hO (by omega) (fun r1 => ?_)
    exact tn (by decide) (tn (by decide) (tn (by decide) (tn (by decide) (tn (by decide) (tn (by decide) (tn (by decide) (tn (by decide) (tn (by decide) (hQ M (fun _ _ _ _ => rfl))))))))))
theorem cmd {A : AL} (hO : Ok A) (hT : aT A ≤ 40) {c rr : Nat} (hc : c < 10) (hr : rr < 10000) {kd : Nat} (hk : kd < 10) : ∃ bb A', CM A kd c rr bb A' := by
  have e : kd = 0 ∨ kd = 1 ∨ kd = 2 ∨ kd = 3 ∨ kd = 4 ∨ kd = 5 ∨ kd = 6 ∨ kd = 7 ∨ kd = 8 ∨ kd = 9 := by omega
  rcases e with rfl | rfl | rfl | rfl | rfl | rfl | rfl | rfl | rfl | rfl
  · exact cmd0 hO hT hc hr
  · exact cmd1 hO hT hc hr
  · exact cmd2 hO hT hc hr
  · exact cmd3 hO hT hc hr
  · exact cmd4 hO hT hc hr
  · exact cmd5 hO hT hc hr
  · exact cmd6 hO hT hc hr
  · exact cmd7 hO hT hc hr
  · exact cmd8 hO hT hc hr
  · exact cmd9 hO hT hc hr

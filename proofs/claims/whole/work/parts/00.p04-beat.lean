/-! A beat. -/
def tk (A : AL) (c p : Nat) : Int := max (-(aG A : Int)) (min (aG A : Int) (aW A c p).toInt)
def tv (A : AL) (c p : Nat) : Int32 := Int32.ofInt (tk A c p)
def su (A : AL) (c p : Nat) : Int := (aD A c p : Int) + tk A c p
def mo (A : AL) (c p : Nat) : Nat := (su A c p % 3).toNat
def ov (A : AL) (c p : Nat) : Int32 := Int32.ofInt (su A c p / 3)
theorem tk_b {A : AL} (hO : Ok A) (c p : Nat) : -9 ≤ tk A c p ∧ tk A c p ≤ 9 := by
  have h := hO.2.1
  unfold tk
  omega
theorem su_b {A : AL} (hO : Ok A) (c p : Nat) : -9 ≤ su A c p ∧ su A c p ≤ 11 := by
  have h := tk_b hO c p
  have h2 := hO.2.2.2.2.2.2.1 c p
  unfold su
  omega
theorem mo_b (A : AL) (c p : Nat) : mo A c p ≤ 2 := by
  unfold mo
  omega
theorem tk_0 {A : AL} {c p : Nat} (h : aW A c p = 0) : tk A c p = 0 := by
  unfold tk
  rw [h]
  have : (0 : Int32).toInt = 0 := by decide
  rw [this]
  omega
theorem mo_0 {A : AL} (hO : Ok A) {c p : Nat} (h : aW A c p = 0) : mo A c p = aD A c p := by
  have h2 := hO.2.2.2.2.2.2.1 c p
  unfold mo su
  rw [tk_0 h]
  omega
theorem ov_0 {A : AL} (hO : Ok A) {c p : Nat} (h : aW A c p = 0) : ov A c p = 0 := by
  have h2 := hO.2.2.2.2.2.2.1 c p
  unfold ov su
  rw [tk_0 h, show ((aD A c p : Int) + 0) / 3 = 0 by omega]
  decide
theorem tv_0 {A : AL} {c p : Nat} (h : aW A c p = 0) : tv A c p = 0 := by
  unfold tv
  rw [tk_0 h]
  decide
theorem nI_oI {n : Nat} (h : n < 100000) : nI n = Int32.ofInt (n : Int) := by
  apply Int32.toInt_inj.mp
  rw [nI_toInt (by omega), Int32.toInt_ofInt_of_le (by omega) (by omega)]
theorem cl_max {g : Nat} (hg : g ≤ 9) (w : Int32) : (if -(nI g) < (if w < nI g then w else nI g) then (if w < nI g then w else nI g) else -(nI g)) = Int32.ofInt (max (-(g : Int)) (min (g : Int) w.toInt)) := by
  have eg : (nI g).toInt = g := nI_toInt (by omega)
  have en : (-(nI g)).toInt = -(g : Int) := sv_toInt (s := true) (by omega)
  have ng : -(nI g) = Int32.ofInt (-(g : Int)) := sv_neg (by omega)
  by_cases h1 : w < nI g
  · rw [if_pos h1]
    rw [Int32.lt_iff_toInt_lt, eg] at h1
    by_cases h2 : -(nI g) < w
    · rw [if_pos h2]
      rw [Int32.lt_iff_toInt_lt, en] at h2
      rw [show max (-(g : Int)) (min (g : Int) w.toInt) = w.toInt by omega, Int32.ofInt_toInt]
    · rw [if_neg h2]
      rw [Int32.lt_iff_toInt_lt, en] at h2
      rw [show max (-(g : Int)) (min (g : Int) w.toInt) = -(g : Int) by omega, ng]
  · rw [if_neg h1]
    rw [Int32.lt_iff_toInt_lt, eg] at h1
    by_cases h2 : -(nI g) < nI g
    · rw [if_pos h2]
      rw [show max (-(g : Int)) (min (g : Int) w.toInt) = (g : Int) by omega, nI_oI (by omega)]
    · rw [if_neg h2]
      rw [Int32.lt_iff_toInt_lt, en, eg] at h2
      rw [show max (-(g : Int)) (min (g : Int) w.toInt) = -(g : Int) by omega, ng]
theorem fm_tab : ∀ j : Fin 21, (0 ≤ (Int32.ofInt ((j.1 : Int) - 9) ^^^ 3) → Int32.ofInt ((j.1 : Int) - 9) - Int32.ofInt ((j.1 : Int) - 9) / 3 * 3 = nI (((j.1 : Int) - 9) % 3).toNat) ∧ (¬ 0 ≤ (Int32.ofInt ((j.1 : Int) - 9) ^^^ 3) → (Int32.ofInt ((j.1 : Int) - 9) - Int32.ofInt ((j.1 : Int) - 9) / 3 * 3 = 0 → Int32.ofInt ((j.1 : Int) - 9) - Int32.ofInt ((j.1 : Int) - 9) / 3 * 3 = nI (((j.1 : Int) - 9) % 3).toNat) ∧ (¬ Int32.ofInt ((j.1 : Int) - 9) - Int32.ofInt ((j.1 : Int) - 9) / 3 * 3 = 0 → Int32.ofInt ((j.1 : Int) - 9) - Int32.ofInt ((j.1 : Int) - 9) / 3 * 3 + 3 = nI (((j.1 : Int) - 9) % 3).toNat)) := by decide +kernel
theorem fd_tab : ∀ j : Fin 21, (0 ≤ (Int32.ofInt ((j.1 : Int) - 9) ^^^ 3) → Int32.ofInt ((j.1 : Int) - 9) / 3 = Int32.ofInt (((j.1 : Int) - 9) / 3)) ∧ (¬ 0 ≤ (Int32.ofInt ((j.1 : Int) - 9) ^^^ 3) → (Int32.ofInt ((j.1 : Int) - 9) / 3 * 3 = Int32.ofInt ((j.1 : Int) - 9) → Int32.ofInt ((j.1 : Int) - 9) / 3 = Int32.ofInt (((j.1 : Int) - 9) / 3)) ∧ (¬ Int32.ofInt ((j.1 : Int) - 9) / 3 * 3 = Int32.ofInt ((j.1 : Int) - 9) → Int32.ofInt ((j.1 : Int) - 9) / 3 - 1 = Int32.ofInt (((j.1 : Int) - 9) / 3))) := by decide +kernel
theorem fl_tab : ∀ j : Fin 21, (Int32.ofInt ((j.1 : Int) - 9) < 0 → -((2 - Int32.ofInt ((j.1 : Int) - 9)) / 3) = Int32.ofInt (((j.1 : Int) - 9) / 3)) ∧ (¬ Int32.ofInt ((j.1 : Int) - 9) < 0 → Int32.ofInt ((j.1 : Int) - 9) / 3 = Int32.ofInt (((j.1 : Int) - 9) / 3)) := by decide +kernel
theorem fin21 {s : Int} (h : -9 ≤ s ∧ s ≤ 11) : ∃ j : Fin 21, s = (j.1 : Int) - 9 := ⟨⟨(s + 9).toNat, by omega⟩, by show s = ((s + 9).toNat : Int) - 9; omega⟩
theorem ok_floorMod {s : Int} (h : -9 ≤ s ∧ s ≤ 11) {Q : Int32 → Prop} (hQ : Q (nI (s % 3).toNat)) : wp_J9_floorMod_7cf53 (Int32.ofInt s) 3 Q := by
  obtain ⟨j, rfl⟩ := fin21 h
  have t := fm_tab j
  refine ⟨by decide, fun h0 => ?_, fun h0 => ⟨fun h1 => ?_, fun h1 => ?_⟩⟩
  · rw [t.1 h0]
    exact hQ
  · rw [(t.2 h0).1 h1]
    exact hQ
  · rw [(t.2 h0).2 h1]
    exact hQ
theorem ok_floorDiv {s : Int} (h : -9 ≤ s ∧ s ≤ 11) {Q : Int32 → Prop} (hQ : Q (Int32.ofInt (s / 3))) : wp_J9_floorDiv_7cf53 (Int32.ofInt s) 3 Q := by
  obtain ⟨j, rfl⟩ := fin21 h
  have t := fd_tab j
  refine ⟨by decide, fun h0 => ?_, fun h0 => ⟨fun h1 => ?_, fun h1 => ?_⟩⟩
  · rw [t.1 h0]
    exact hQ
  · rw [(t.2 h0).1 h1]
    exact hQ
  · rw [(t.2 h0).2 h1]
    exact hQ
theorem ok_floor {s : Int} (h : -9 ≤ s ∧ s ≤ 11) {Q : Int32 → Prop} (hQ : Q (Int32.ofInt (s / 3))) : wp_X4_floor (Int32.ofInt s) Q := by
  obtain ⟨j, rfl⟩ := fin21 h
  have t := fl_tab j
  refine ⟨fun h0 => ?_, fun h0 => ?_⟩
  · rw [t.1 h0]
    exact hQ
  · rw [t.2 h0]
    exact hQ
/-! One place takes up what waits there, as the class does it. -/
def ho (A : AL) (c p : Nat) (v : Int32) : AL :=
  if p + 1 < aP A c then sW A c (p + 1) (aW A c (p + 1) + v) else if aK A c = true then sW A (c + 1) 0 (aW A (c + 1) 0 + v) else sS A c (aS A c + v)
def tu (A : AL) (c p : Nat) : AL := ho (sD (sW A c p (aW A c p - tv A c p)) c p (mo A c p)) c p (ov A c p)
theorem ho_fr (A : AL) (c p : Nat) (v : Int32) : (ho A c p v).1 = A.1 ∧ aP (ho A c p v) = aP A ∧ aK (ho A c p v) = aK A ∧ aX (ho A c p v) = aX A ∧ aD (ho A c p v) = aD A := by
  unfold ho
  split
  · exact ⟨rfl, rfl, rfl, rfl, rfl⟩
  · split <;> exact ⟨rfl, rfl, rfl, rfl, rfl⟩
theorem ho_ok {A : AL} (hO : Ok A) (c p : Nat) (v : Int32) : Ok (ho A c p v) := by
  unfold ho
  split
  · rename_i h
    exact ok_W hO h _
  · split
    · rename_i h
      exact ok_W hO ((hO.2.2.2.2.1 (c + 1)).1 (hO.2.2.2.2.2.1 c h)) _
    · exact hO
theorem tu_fr (A : AL) (c p : Nat) : (tu A c p).1 = A.1 ∧ aP (tu A c p) = aP A ∧ aK (tu A c p) = aK A ∧ aX (tu A c p) = aX A := by
  have h := ho_fr (sD (sW A c p (aW A c p - tv A c p)) c p (mo A c p)) c p (ov A c p)
  exact ⟨h.1, h.2.1, h.2.2.1, h.2.2.2.1⟩
theorem tu_ok {A : AL} (hO : Ok A) {c p : Nat} (hp : p < aP A c) : Ok (tu A c p) :=
  ho_ok (ok_D (ok_W hO hp _) hp (mo_b A c p)) c p _
theorem ok_handOn {L : LnS} {A : AL} (hR : RepL L A) (hO : Ok A) {c p : Nat} (hc : c < 6) (hp : p < 9) {v : Int32} {Q : LnS → Prop} (h : ∀ L', RepL L' (ho A c p v) → Q L') : wp_X1_handOn L (nI c) (nI p) v Q := by
  have h9 := hO.p9 c
  have vc : vp_in (nI c) 6 := i_in hc (by decide)
  unfold ho at h
  refine ⟨vc, ?_⟩
  rw [i_cl (by omega), hR.2.1 c hc, i_p1, i_le (by omega) (by omega), hR.2.2.1 c hc, bool_ite]
  refine ⟨fun h0 => ⟨vc, fun h1 => ⟨vc, vc, ?_⟩, fun h1 => ?_⟩, fun h0 => ok_cellOf ⟨i_in (by omega) (by decide), i_in (by omega) (by decide), ?_⟩⟩
  · rw [if_neg (by omega), if_neg h1] at h
    rw [hR.2.2.2.1 c hc]
    exact h _ (rep_S hR c _)
  · have hk := Classical.not_not.mp h1
    have hc1 := hO.2.2.2.2.2.1 c hk
    have hC := hO.1.2
    rw [if_neg (by omega), if_pos hk] at h
    refine ok_canLink hR hO (fun e => ?_) (fun c' hc' e => ⟨fun e1 => absurd e1 (by decide), fun _ => ?_⟩)
    · rcases e with e | e
      · exact absurd e (i_neg c (by omega))
      · have e2 := e.2
        obtain ⟨k, hk2⟩ : ∃ k, aC A = k + 1 := ⟨aC A - 1, by omega⟩
        rw [hk2, show nI (k + 1) - 1 = nI k from i_s1 k, i_le (by omega) (by omega)] at e2
        omega
    · rw [i_p1]
      refine ok_cellOf (p := 0) ⟨i_in (by omega) (by decide), i_in (by omega) (by decide), ?_⟩
      rw [i_cl (by omega), hR.2.2.2.2.2.1 (c + 1) 0 (by omega) (by omega)]
      exact h _ (rep_W hR (by omega) _ rfl)
  · rw [if_pos (by omega)] at h
    rw [i_cl (by omega), hR.2.2.2.2.2.1 c (p + 1) hc (by omega)]
    exact h _ (rep_W hR (by omega) _ rfl)
theorem ok_takeUp {L : LnS} {A : AL} (hR : RepL L A) (hO : Ok A) {c p : Nat} (hc : c < 6) (hp : p < aP A c) {Q : LnS → Prop} (h : ∀ L', RepL L' (tu A c p) → Q L') : wp_X1_takeUp L (nI c) (nI p) Q := by
  have h9 := hO.p9 c
  have v1 : vp_in (nI (9 * c + p)) 54 := i_in (by omega) (by decide)
  refine ok_cellOf ⟨v1, ?_⟩
  intro y hy
  rw [i_cl (by omega), hR.1.2.1, hR.2.2.2.2.2.1 c p hc (by omega), cl_max hO.2.1.2] at hy
  have ey : y = tv A c p := hy
  subst ey
  refine ⟨v1, v1, v1, ?_⟩
  rw [i_cl (by omega), hR.2.2.2.2.1 c p hc (by omega), hR.2.2.2.2.2.1 c p hc (by omega)]
  have es : nI (aD A c p) + tv A c p = Int32.ofInt (su A c p) := by
    have := hO.2.2.2.2.2.2.1 c p
    unfold su tv
    rw [nI_oI (by omega), Int32.ofInt_add]
  rw [es]
  refine ok_floorMod (su_b hO c p) ?_
  intro L8 h8
  have R8 : RepL L8 (sW A c p (aW A c p - tv A c p)) := h8 ▸ rep_W hR (by omega) _ rfl
  refine ⟨v1, ok_floorDiv (su_b hO c p) ?_⟩
  have R9 := rep_D R8 (c := c) (p := p) (by omega) (mo A c p) rfl
  exact ok_handOn R9 (ok_D (ok_W hO hp _) hp (mo_b A c p)) hc (by omega) h

/-! The reference's beat: all is noted first, then every place is changed, from the lowest on. -/
abbrev dn (c k x y : Nat) : Prop := x < c ∨ (x = c ∧ y < k)
abbrev arP (A : AL) (c k x y : Nat) : Prop := (0 < y ∧ dn c k x (y - 1) ∧ y < aP A x) ∨ (y = 0 ∧ 0 < x ∧ aK A (x - 1) = true ∧ dn c k (x - 1) (aP A (x - 1) - 1))
def sr (A : AL) (x y : Nat) : Int32 := if 0 < y then ov A x (y - 1) else ov A (x - 1) (aP A (x - 1) - 1)
def UBI (A : AL) (c k : Nat) (B : AL) : Prop :=
  (B.1 = A.1 ∧ aP B = aP A ∧ aK B = aK A ∧ aX B = aX A)
  ∧ (∀ x y, aD B x y = if dn c k x y then mo A x y else aD A x y)
  ∧ (∀ x y, aW B x y = aW A x y + (if arP A c k x y then sr A x y else 0) - (if dn c k x y then tv A x y else 0))
  ∧ (∀ x, aS B x = if ¬ aK A x = true ∧ dn c k x (aP A x - 1) then aS A x + ov A x (aP A x - 1) else aS A x)
theorem ho_W (B : AL) (c p : Nat) (v : Int32) (x y : Nat) : aW (ho B c p v) x y = if (p + 1 < aP B c ∧ x = c ∧ y = p + 1) ∨ (¬ p + 1 < aP B c ∧ aK B c = true ∧ x = c + 1 ∧ y = 0) then aW B x y + v else aW B x y := by
  unfold ho
  by_cases h1 : p + 1 < aP B c
  · rw [if_pos h1]
    show (if x = c ∧ y = p + 1 then aW B c (p + 1) + v else aW B x y) = _
    by_cases h2 : x = c ∧ y = p + 1
    · rw [if_pos h2, if_pos (Or.inl ⟨h1, h2⟩), h2.1, h2.2]
    · rw [if_neg h2, if_neg (fun h => h.elim (fun h => h2 h.2) (fun h => h.1 h1))]
  · rw [if_neg h1]
    by_cases hK : aK B c = true
    · rw [if_pos hK]
      show (if x = c + 1 ∧ y = 0 then aW B (c + 1) 0 + v else aW B x y) = _
      by_cases h2 : x = c + 1 ∧ y = 0
      · rw [if_pos h2, if_pos (Or.inr ⟨h1, hK, h2⟩), h2.1, h2.2]
      · rw [if_neg h2, if_neg (fun h => h.elim (fun h => h1 h.1) (fun h => h2 h.2.2))]
    · rw [if_neg hK, if_neg (fun h => h.elim (fun h => h1 h.1) (fun h => hK h.2.1))]
      rfl
theorem ho_S (B : AL) (c p : Nat) (v : Int32) (x : Nat) : aS (ho B c p v) x = if ¬ p + 1 < aP B c ∧ ¬ aK B c = true ∧ x = c then aS B x + v else aS B x := by
  unfold ho
  by_cases h1 : p + 1 < aP B c
  · rw [if_pos h1, if_neg (fun h => h.1 h1)]
    rfl
  · rw [if_neg h1]
    by_cases hK : aK B c = true
    · rw [if_pos hK, if_neg (fun h => h.2.1 hK)]
      rfl
    · rw [if_neg hK]
      show (if x = c then aS B c + v else aS B x) = _
      by_cases h2 : x = c
      · rw [if_pos h2, if_pos ⟨h1, hK, h2⟩, h2]
      · rw [if_neg h2, if_neg (fun h => h2 h.2.2)]
def stp (A B : AL) (c p : Nat) : AL := ho (sD (sW B c p (aW B c p - tv A c p)) c p (mo A c p)) c p (ov A c p)
theorem stp_ok {A B : AL} (hB : Ok B) {c p : Nat} (hp : p < aP B c) : Ok (stp A B c p) :=
  ho_ok (ok_D (ok_W hB hp _) hp (mo_b A c p)) c p _
theorem ite_c {α : Type} {p q : Prop} [Decidable p] [Decidable q] (h : p ↔ q) (a b : α) : (if p then a else b) = (if q then a else b) := by
  by_cases hp : p
  · rw [if_pos hp, if_pos (h.mp hp)]
  · rw [if_neg hp, if_neg (fun hq => hp (h.mpr hq))]
theorem i32_asub (a i t : Int32) : a + i - t = a - t + i := by
  rw [Int32.sub_eq_add_neg, Int32.sub_eq_add_neg, Int32.add_assoc, Int32.add_comm i, ← Int32.add_assoc]
theorem UBI_0 (A : AL) : UBI A 0 0 A := by
  refine ⟨⟨rfl, rfl, rfl, rfl⟩, fun x y => ?_, fun x y => ?_, fun x => ?_⟩
  · rw [if_neg (by omega)]
  · rw [if_neg (by omega), if_neg (by omega), Int32.add_zero, Int32.sub_zero]
  · rw [if_neg (by omega)]
theorem UBI_s {A B : AL} {c k : Nat} (hk : k < aP A c) (h : UBI A c k B) : UBI A c (k + 1) (stp A B c k) := by
  obtain ⟨⟨e1, eP, eK, eX⟩, hD, hW, hS⟩ := h
  have fr := ho_fr (sD (sW B c k (aW B c k - tv A c k)) c k (mo A c k)) c k (ov A c k)
  have eP2 : aP (sD (sW B c k (aW B c k - tv A c k)) c k (mo A c k)) = aP A := eP
  have eK2 : aK (sD (sW B c k (aW B c k - tv A c k)) c k (mo A c k)) = aK A := eK
  refine ⟨⟨fr.1.trans e1, fr.2.1.trans eP, fr.2.2.1.trans eK, fr.2.2.2.1.trans eX⟩, fun x y => ?_, fun x y => ?_, fun x => ?_⟩
  · show aD (stp A B c k) x y = _
    unfold stp
    rw [fr.2.2.2.2]
    show (if x = c ∧ y = k then mo A c k else aD B x y) = _
    by_cases h1 : x = c ∧ y = k
    · rw [if_pos h1, if_pos (by omega), h1.1, h1.2]
    · rw [if_neg h1, hD]
      by_cases h2 : dn c k x y
      · rw [if_pos h2, if_pos (by omega)]
      · rw [if_neg h2, if_neg (by omega)]
  · unfold stp
    rw [ho_W, eP2, eK2]
    have ew : aW (sD (sW B c k (aW B c k - tv A c k)) c k (mo A c k)) x y = if x = c ∧ y = k then aW B c k - tv A c k else aW B x y := rfl
    rw [ew]
    by_cases h1 : x = c ∧ y = k
    · obtain ⟨rfl, rfl⟩ := h1
      have ea : arP A x (y + 1) x y ↔ arP A x y x y := by
        refine ⟨fun h2 => ?_, fun h2 => ?_⟩
        · rcases h2 with h2 | h2
          · exact Or.inl ⟨h2.1, by omega, h2.2.2⟩
          · exact Or.inr ⟨h2.1, h2.2.1, h2.2.2.1, by omega⟩
        · rcases h2 with h2 | h2
          · exact Or.inl ⟨h2.1, by omega, h2.2.2⟩
          · exact Or.inr ⟨h2.1, h2.2.1, h2.2.2.1, by omega⟩
      rw [if_neg (show ¬ ((y + 1 < aP A x ∧ x = x ∧ y = y + 1) ∨ (¬ y + 1 < aP A x ∧ aK A x = true ∧ x = x + 1 ∧ y = 0)) from fun h => h.elim (fun h => by omega) (fun h => by omega)), if_pos ⟨rfl, rfl⟩, hW, if_neg (show ¬ dn x y x y by omega), if_pos (show dn x (y + 1) x y by omega), Int32.sub_zero, ite_c ea]
    · rw [if_neg h1, hW]
      have ed : (if dn c (k + 1) x y then tv A x y else 0) = (if dn c k x y then tv A x y else 0) := by
        by_cases h2 : dn c k x y
        · rw [if_pos h2, if_pos (by omega)]
        · rw [if_neg h2, if_neg (by omega)]
      rw [ed]
      by_cases h2 : k + 1 < aP A c ∧ x = c ∧ y = k + 1
      · obtain ⟨h2, rfl, rfl⟩ := h2
        rw [if_pos (Or.inl ⟨h2, rfl, rfl⟩), if_neg (show ¬ dn x k x (k + 1) by omega), if_neg (show ¬ arP A x k x (k + 1) by rintro (h | h) <;> omega), if_pos (show arP A x (k + 1) x (k + 1) from Or.inl ⟨by omega, by omega, h2⟩), Int32.sub_zero, Int32.sub_zero, Int32.add_zero]
        unfold sr
        rw [if_pos (by omega), Nat.add_sub_cancel]
      · by_cases h3 : ¬ k + 1 < aP A c ∧ aK A c = true ∧ x = c + 1 ∧ y = 0
        · obtain ⟨h3, h4, rfl, rfl⟩ := h3
          have ek : aP A c - 1 = k := by omega
          have n0 : ¬ arP A c k (c + 1) 0 := by
            intro h
            rcases h with h | h
            · omega
            · have h := h.2.2.2
              rw [Nat.add_sub_cancel, ek] at h
              omega
          rw [if_pos (Or.inr ⟨h3, h4, rfl, rfl⟩), if_neg (show ¬ dn c k (c + 1) 0 by omega), if_neg n0, if_pos (show arP A c (k + 1) (c + 1) 0 from Or.inr ⟨rfl, by omega, by rw [Nat.add_sub_cancel]; exact h4, by rw [Nat.add_sub_cancel, ek]; omega⟩), Int32.sub_zero, Int32.sub_zero, Int32.add_zero]
          unfold sr
          rw [if_neg (by omega), Nat.add_sub_cancel, ek]
        · rw [if_neg (fun h => h.elim h2 h3)]
          have ea : arP A c (k + 1) x y ↔ arP A c k x y := by
            refine ⟨fun h5 => ?_, fun h4 => ?_⟩
            · rcases h5 with h5 | h5
              · by_cases h6 : x = c
                · subst h6
                  exact Or.inl ⟨h5.1, by omega, h5.2.2⟩
                · exact Or.inl ⟨h5.1, by omega, h5.2.2⟩
              · refine Or.inr ⟨h5.1, h5.2.1, h5.2.2.1, ?_⟩
                have h7 := h5.2.2
                by_cases h6 : x - 1 = c
                · rw [h6] at h7 ⊢
                  have : ¬ (¬ k + 1 < aP A c) := fun h8 => h3 ⟨h8, h7.1, by omega, h5.1⟩
                  omega
                · omega
            · rcases h4 with h4 | h4
              · exact Or.inl ⟨h4.1, by omega, h4.2.2⟩
              · exact Or.inr ⟨h4.1, h4.2.1, h4.2.2.1, by omega⟩
          rw [ite_c ea]
  · unfold stp
    rw [ho_S, eP2, eK2]
    have es : aS (sD (sW B c k (aW B c k - tv A c k)) c k (mo A c k)) x = aS B x := rfl
    rw [es, hS]
    by_cases h1 : ¬ k + 1 < aP A c ∧ ¬ aK A c = true ∧ x = c
    · obtain ⟨h1, h2, rfl⟩ := h1
      have ek : aP A x - 1 = k := by omega
      rw [if_pos ⟨h1, h2, rfl⟩, ek, if_neg (show ¬ (¬ aK A x = true ∧ dn x k x k) by omega), if_pos ⟨h2, by omega⟩]
    · rw [if_neg h1]
      refine ite_c ⟨fun h2 => ⟨h2.1, by omega⟩, fun h2 => ⟨h2.1, ?_⟩⟩ _ _
      by_cases h5 : x = c
      · subst h5
        have : ¬ (¬ k + 1 < aP A x) := fun h6 => h1 ⟨h6, h2.1, rfl⟩
        omega
      · omega
theorem UBI_c {A B : AL} (hO : Ok A) {c : Nat} (hc : c < aC A) (h : UBI A c (aP A c) B) : UBI A (c + 1) 0 B := by
  obtain ⟨f, hD, hW, hS⟩ := h
  have hP1 : 1 ≤ aP A c := (hO.2.2.2.2.1 c).1 hc
  refine ⟨f, fun x y => ?_, fun x y => ?_, fun x => ?_⟩
  · rw [hD]
    by_cases h1 : dn c (aP A c) x y
    · rw [if_pos h1, if_pos (by omega)]
    · rw [if_neg h1]
      by_cases h2 : x = c
      · rw [if_pos (by omega), h2]
        exact (mo_0 hO (hO.2.2.2.2.2.2.2.1 c y (by omega)).2).symm
      · rw [if_neg (by omega)]
  · rw [hW]
    have ed : (if dn c (aP A c) x y then tv A x y else 0) = (if dn (c + 1) 0 x y then tv A x y else 0) := by
      by_cases h1 : dn c (aP A c) x y
      · rw [if_pos h1, if_pos (by omega)]
      · rw [if_neg h1]
        by_cases h2 : x = c
        · rw [if_pos (by omega), h2]
          exact (tv_0 (hO.2.2.2.2.2.2.2.1 c y (by omega)).2).symm
        · rw [if_neg (by omega)]
    have ea : arP A c (aP A c) x y ↔ arP A (c + 1) 0 x y := by
      refine ⟨fun h4 => ?_, fun h5 => ?_⟩
      · rcases h4 with h4 | h4
        · exact Or.inl ⟨h4.1, by omega, h4.2.2⟩
        · exact Or.inr ⟨h4.1, h4.2.1, h4.2.2.1, by omega⟩
      · rcases h5 with h5 | h5
        · by_cases h6 : x = c
          · subst h6
            exact Or.inl ⟨h5.1, by omega, h5.2.2⟩
          · exact Or.inl ⟨h5.1, by omega, h5.2.2⟩
        · refine Or.inr ⟨h5.1, h5.2.1, h5.2.2.1, ?_⟩
          by_cases h6 : x - 1 = c
          · rw [h6]
            omega
          · omega
    rw [ed, ite_c ea]
  · rw [hS]
    refine ite_c ⟨fun h2 => ⟨h2.1, by omega⟩, fun h2 => ⟨h2.1, ?_⟩⟩ _ _
    by_cases h5 : x = c
    · subst h5
      omega
    · omega
theorem UBI_e {A B : AL} (hO : Ok A) (h : UBI A (aC A) 0 B) : B = bt0 A := by
  obtain ⟨⟨e1, eP, eK, eX⟩, hD, hW, hS⟩ := h
  have hz : ∀ x y, aC A ≤ x → aW A x y = 0 := fun x y hx => (hO.2.2.2.2.2.2.2.1 x y (by rw [(hO.2.2.2.2.1 x).2 hx]; omega)).2
  refine al_ext e1 eP eK (funext fun x => ?_) (funext fun x => funext fun y => ?_) (funext fun x => funext fun y => ?_) eX
  · rw [hS]
    show _ = aS A x + (if aK A x = true then 0 else ov A x (aP A x - 1))
    by_cases h1 : aK A x = true
    · rw [if_pos h1, if_neg (fun h => h.1 h1), Int32.add_zero]
    · rw [if_neg h1]
      by_cases h2 : x < aC A
      · rw [if_pos ⟨h1, Or.inl h2⟩]
      · rw [if_neg (fun h => by omega), ov_0 hO (hz x _ (by omega)), Int32.add_zero]
  · rw [hD]
    show _ = mo A x y
    by_cases h2 : x < aC A
    · rw [if_pos (Or.inl h2)]
    · rw [if_neg (by omega), mo_0 hO (hz x y (by omega))]
  · rw [hW]
    show _ = aW A x y - tv A x y + inn A 0 x y
    have et : (if dn (aC A) 0 x y then tv A x y else 0) = tv A x y := by
      by_cases h2 : x < aC A
      · rw [if_pos (Or.inl h2)]
      · rw [if_neg (by omega), tv_0 (hz x y (by omega))]
    have ei : (if arP A (aC A) 0 x y then sr A x y else 0) = inn A 0 x y := by
      unfold sr inn
      by_cases h4 : 0 < y
      · rw [if_pos h4, if_pos h4]
        by_cases h5 : y < aP A x
        · rw [if_pos h5, if_pos]
          refine Or.inl ⟨h4, Or.inl (Decidable.byContradiction fun h6 => ?_), h5⟩
          rw [(hO.2.2.2.2.1 x).2 (by omega)] at h5
          omega
        · rw [if_neg h5, if_neg (by rintro (h | h) <;> omega)]
      · rw [if_neg h4, if_neg h4]
        by_cases h5 : 0 < x ∧ aK A (x - 1) = true
        · have := hO.2.2.2.2.2.1 _ h5.2
          rw [if_pos h5, if_pos (Or.inr ⟨by omega, h5.1, h5.2, by omega⟩)]
        · rw [if_neg h5, if_neg]
          rintro (h | h)
          · omega
          · exact h5 ⟨h.2.1, h.2.2.1⟩
    rw [et, ei, i32_asub]
theorem ix_9 (c k : Nat) : (9 : Int32) * nI c + nI k = nI (9 * c + k) := by
  rw [show (9 : Int32) = nI 9 from rfl, pk_mul, nI_add]
theorem tv_cases {A : AL} (hO : Ok A) (c p : Nat) : (aW A c p ≤ nI (aG A) → (-(nI (aG A)) ≤ aW A c p → aW A c p = tv A c p) ∧ (¬ -(nI (aG A)) ≤ aW A c p → -(nI (aG A)) = tv A c p)) ∧ (¬ aW A c p ≤ nI (aG A) → nI (aG A) = tv A c p) := by
  have hg := hO.2.1
  have eg : (nI (aG A)).toInt = aG A := nI_toInt (by omega)
  have en : (-(nI (aG A))).toInt = -(aG A : Int) := sv_toInt (s := true) (by omega)
  have ng : -(nI (aG A)) = Int32.ofInt (-(aG A : Int)) := sv_neg (by omega)
  unfold tv tk
  rw [Int32.le_iff_toInt_le, Int32.le_iff_toInt_le, eg, en]
  refine ⟨fun h1 => ⟨fun h2 => ?_, fun h2 => ?_⟩, fun h1 => ?_⟩
  · rw [show max (-(aG A : Int)) (min (aG A : Int) (aW A c p).toInt) = (aW A c p).toInt by omega, Int32.ofInt_toInt]
  · rw [show max (-(aG A : Int)) (min (aG A : Int) (aW A c p).toInt) = -(aG A : Int) by omega, ng]
  · rw [show max (-(aG A : Int)) (min (aG A : Int) (aW A c p).toInt) = (aG A : Int) by omega, nI_oI (by omega)]
theorem es_su {A : AL} (hO : Ok A) (c p : Nat) : nI (aD A c p) + tv A c p = Int32.ofInt (su A c p) := by
  have := hO.2.2.2.2.2.2.1 c p
  unfold su tv
  rw [nI_oI (by omega), Int32.ofInt_add]
theorem mo_eq {A : AL} (hO : Ok A) (c p : Nat) : nI (aD A c p) + (tv A c p - 3 * ov A c p) = nI (mo A c p) := by
  have h2 := su_b hO c p
  have h3 := mo_b A c p
  have hm : (mo A c p : Int) = su A c p - 3 * (su A c p / 3) := by
    unfold mo
    omega
  rw [Int32.sub_eq_add_neg, ← Int32.add_assoc, es_su hO, ← Int32.sub_eq_add_neg]
  apply Int32.toInt_inj.mp
  rw [nI_toInt (by omega), show (3 : Int32) = Int32.ofInt 3 from rfl]
  unfold ov
  rw [← Int32.ofInt_mul, ← Int32.ofInt_sub, Int32.toInt_ofInt_of_le (by omega) (by omega)]
  omega
theorem b1_loop_n {M0 : MS} {A : AL} (hR : RepR (M0 2) A) (hO : Ok A) {c : Nat} (hc : c < aC A) {Q E : MS → Prop} : ∀ (m k n : Nat) (M : MS), k + m = aP A c → m < n → (∀ j, j ≠ 7 → j ≠ 8 → M j = M0 j) → (∀ x y, y < aP A x → dn c k x y → M 7 (9 * x + y) = tv A x y ∧ M 8 (9 * x + y) = ov A x y) → (∀ M', (∀ j, j ≠ 7 → j ≠ 8 → M' j = M0 j) → (∀ x y, y < aP A x → x < c + 1 → M' 7 (9 * x + y) = tv A x y ∧ M' 8 (9 * x + y) = ov A x y) → E M') → wl_X4_beat_n_11 (nI c) Q E n M (nI k) := by
  have h9 := hO.p9 c
  have h6 := hO.c6 hc
  intro m
  induction m with
  | zero =>
    intro k n M hk hn hF hN h
    obtain ⟨n, rfl, -⟩ := fuel1 hn
    refine ok_at ?_
    rw [ix_z]
    refine ⟨i_in (by omega) (by decide), ?_⟩
    rw [i_cl (by omega), hF 2 (by decide) (by decide), hR.2.1 c h6, i_le (by omega) (by omega)]
    refine ⟨fun _ => h M hF (fun x y hy hx => hN x y hy ?_), fun h0 => absurd (by omega) h0⟩
    by_cases e : x = c
    · subst e
      omega
    · omega
  | succ m ih =>
    intro k n M hk hn hF hN h
    obtain ⟨n, rfl, hn⟩ := fuel1 hn
    refine ok_at ?_
    rw [ix_z]
    refine ⟨i_in (by omega) (by decide), ?_⟩
    rw [i_cl (by omega), hF 2 (by decide) (by decide), hR.2.1 c h6, i_le (by omega) (by omega)]
    refine ⟨fun h0 => absurd h0 (by omega), fun _ => ok_at ?_⟩
    rw [ix_w]
    refine ⟨i_in (by omega) (by decide), ?_⟩
    intro y hy
    rw [i_cl (by omega), hR.2.2.2.2.2.1 c k h6 (by omega)] at hy
    subst hy
    have ht := tv_cases hO c k
    have v54 : vp_in (nI (9 * c + k)) 54 := i_in (by omega) (by decide)
    have step : ∀ v : Int32, v = tv A c k → wp_X4_at (nI c) (fun (r11 : Int32) => (vp_in ((r11 + (4 : Int32)) + nI k) 336 ∧ (wp_X4_floor ((M0 2 ((r11 + (4 : Int32)) + nI k).toNatClampNeg) + v) (fun (r13 : Int32) => (∀ M14 : MS, M14 = (zr2 M 7 (upd (M 7) (nI (9 * c + k)).toNatClampNeg v)) → (vp_in (nI (9 * c + k)) 54 ∧ (wl_X4_beat_n_11 (nI c) Q E n (zr2 M14 8 (upd (M14 8) (nI (9 * c + k)).toNatClampNeg r13)) (nI (k + 1))))))))) := by
      intro v hv
      subst hv
      refine ok_at ?_
      rw [ix_d]
      refine ⟨i_in (by omega) (by decide), ?_⟩
      rw [i_cl (by omega), hR.2.2.2.2.1 c k h6 (by omega), es_su hO]
      refine ok_floor (su_b hO c k) ?_
      intro M14 h14
      refine ⟨v54, ?_⟩
      rw [i_cl (by omega)] at h14 ⊢
      subst h14
      refine ih (k + 1) n _ (by omega) (by omega) (fun j h7 h8 => ?_) (fun x y hy hd => ?_) h
      · show (if j = 8 then _ else if j = 7 then _ else M j) = M0 j
        rw [if_neg h8, if_neg h7]
        exact hF j h7 h8
      · have hy9 := hO.p9 x
        show upd (M 7) (9 * c + k) (tv A c k) (9 * x + y) = tv A x y ∧ upd (M 8) (9 * c + k) (ov A c k) (9 * x + y) = ov A x y
        by_cases e : x = c ∧ y = k
        · rw [e.1, e.2]
          exact ⟨pk_us, pk_us⟩
        · rw [pk_un (by omega), pk_un (by omega)]
          exact hN x y hy (by omega)
    rw [z1, hR.1.2.1, ix_9, i_p1]
    exact ⟨fun h1 => ⟨fun h2 => ⟨v54, step _ ((ht.1 h1).1 h2)⟩, fun h2 => ⟨v54, step _ ((ht.1 h1).2 h2)⟩⟩, fun h1 => ⟨v54, step _ (ht.2 h1)⟩⟩
theorem b2_loop_n {M0 : MS} {A : AL} (hR : RepR (M0 2) A) (hO : Ok A) {Q E : MS → Prop} : ∀ (m k n : Nat) (M : MS), k + m = aC A → m < n → (∀ j, j ≠ 7 → j ≠ 8 → M j = M0 j) → (∀ x y, y < aP A x → x < k → M 7 (9 * x + y) = tv A x y ∧ M 8 (9 * x + y) = ov A x y) → (∀ M', (∀ j, j ≠ 7 → j ≠ 8 → M' j = M0 j) → (∀ x y, y < aP A x → x < aC A → M' 7 (9 * x + y) = tv A x y ∧ M' 8 (9 * x + y) = ov A x y) → E M') → wl_X4_beat_n_2 Q E n M (nI k) := by
  have hC := hO.1.2
  intro m
  induction m with
  | zero =>
    intro k n M hk hn hF hN h
    obtain ⟨n, rfl, -⟩ := fuel1 hn
    refine ⟨fun _ => h M hF (fun x y hy hx => hN x y hy (by omega)), fun h0 => absurd ?_ h0⟩
    rw [z0, hF 2 (by decide) (by decide), hR.1.1, i_le (by omega) (by omega)]
    omega
  | succ m ih =>
    intro k n M hk hn hF hN h
    obtain ⟨n, rfl, hn⟩ := fuel1 hn
    refine ⟨fun h0 => ?_, fun _ => ⟨10, ?_⟩⟩
    · rw [z0, hF 2 (by decide) (by decide), hR.1.1, i_le (by omega) (by omega)] at h0
      omega
    · have h9 := hO.p9 k
      refine b1_loop_n hR hO (by omega) (aP A k) 0 10 M (by omega) (by omega) hF (fun x y hy hd => hN x y hy (by omega)) (fun M' hF' hN' => ?_)
      rw [i_p1]
      exact ih (k + 1) n M' (by omega) (by omega) hF' hN' h
theorem b3_loop_n {T : MS} {A : AL} (hO : Ok A) (hT : ∀ x y, y < aP A x → x < aC A → T 7 (9 * x + y) = tv A x y ∧ T 8 (9 * x + y) = ov A x y) {c : Nat} (hc : c < aC A) {Q E : MS → Prop} (h : ∀ M' B, RepR (M' 2) B → Ok B → UBI A c (aP A c) B → (∀ j, j ≠ 2 → M' j = T j) → E M') : ∀ (m k n : Nat) (M : MS) (B : AL), k + m = aP A c → m < n → RepR (M 2) B → Ok B → UBI A c k B → (∀ j, j ≠ 2 → M j = T j) → wl_X4_beat_n_143 (nI c) (nI (aP A c)) Q E n M (nI k) := by
  have h9 := hO.p9 c
  have h6 := hO.c6 hc
  intro m
  induction m with
  | zero =>
    intro k n M B hk hn hR hB hU hF
    obtain ⟨n, rfl, -⟩ := fuel1 hn
    rw [show k = aP A c by omega] at hU ⊢
    exact ⟨fun _ => h M B hR hB hU hF, fun h0 => absurd ((i_le (by omega) (by omega)).mpr (Nat.le_refl _)) h0⟩
  | succ m ih =>
    intro k n M B hk hn hR hB hU hF
    obtain ⟨n, rfl, hn⟩ := fuel1 hn
    have v54 : vp_in (nI (9 * c + k)) 54 := i_in (by omega) (by decide)
    have vw : vp_in (nI (17 + 22 * c + k)) 336 := i_in (by omega) (by decide)
    have vd : vp_in (nI (8 + 22 * c + k)) 336 := i_in (by omega) (by decide)
    obtain ⟨hT7, hT8⟩ := hT c k (by omega) hc
    have eP : aP B = aP A := hU.1.2.1
    have eK : aK B = aK A := hU.1.2.2.1
    have eD : aD B c k = aD A c k := by rw [hU.2.1, if_neg (by omega)]
    have hU2 := UBI_s (by omega) hU
    have hB2 : Ok (stp A B c k) := stp_ok hB (by rw [eP]; omega)
    refine ⟨fun h0 => absurd ((i_le (by omega) (by omega)).mp h0) (by omega), fun _ => ?_⟩
    rw [ix_9, i_cl (by omega), hF 7 (by decide), hF 8 (by decide), hT7, hT8, i_p1 k]
    refine ⟨v54, ?_⟩
    intro y hy
    subst hy
    refine ok_at ?_
    rw [ix_w, i_cl (by omega), hR.2.2.2.2.2.1 c k h6 (by omega)]
    refine ⟨vw, v54, vw, ok_at ?_⟩
    rw [ix_d, i_cl (by omega)]
    refine ⟨vd, v54, ?_⟩
    intro M44 h44
    have e44 : M44 2 = upd (M 2) (17 + 22 * c + k) (aW B c k - tv A c k) := by rw [h44]; rfl
    have f44 : ∀ j, j ≠ 2 → M44 j = T j := fun j hj => by
      rw [h44]
      show (if j = 2 then _ else M j) = T j
      rw [if_neg hj]
      exact hF j hj
    have R1 : RepR (M44 2) (sW B c k (aW B c k - tv A c k)) := e44 ▸ rr_W hR h6 (by omega) _ rfl
    rw [← e44]
    have e8 : M44 2 (8 + 22 * c + k) = nI (aD A c k) := by
      rw [R1.2.2.2.2.1 c k h6 (by omega)]
      show nI (aD B c k) = _
      rw [eD]
    rw [e8, mo_eq hO]
    have R2 : RepR (upd (M44 2) (8 + 22 * c + k) (nI (mo A c k))) (sD (sW B c k (aW B c k - tv A c k)) c k (mo A c k)) := rr_D R1 h6 (by omega) _ rfl
    obtain ⟨B2, hB2e⟩ : ∃ B2, B2 = sD (sW B c k (aW B c k - tv A c k)) c k (mo A c k) := ⟨_, rfl⟩
    have est : stp A B c k = ho B2 c k (ov A c k) := by
      rw [hB2e]
      rfl
    rw [← hB2e] at R2
    have eP2 : aP B2 = aP A := by rw [hB2e]; exact eP
    have eK2 : aK B2 = aK A := by rw [hB2e]; exact eK
    rw [est] at hU2 hB2
    unfold ho at hU2 hB2
    rw [eP2, eK2] at hU2 hB2
    have eq1 : ((nI (aP A c) - 1 : Int32) ≤ nI k) ↔ ¬ k + 1 < aP A c := by
      obtain ⟨q, hq⟩ : ∃ q, aP A c = q + 1 := ⟨aP A c - 1, by omega⟩
      rw [hq, i_s1, i_le (by omega) (by omega)]
      omega
    rw [eq1]
    refine ⟨vd, fun h1 => ok_at ?_, fun h1 => ok_at ?_⟩
    · rw [if_neg h1] at hU2 hB2
      rw [ix_k, i_cl (by omega), R2.2.2.1 c h6, eK2]
      refine ⟨i_in (by omega) (by decide), fun h2 => ?_, fun h2 => ?_⟩
      · by_cases hK : aK A c = true
        · have hc1 := hO.2.2.2.2.2.1 c hK
          have hC := hO.1.2
          rw [if_pos hK] at hU2 hB2
          rw [i_p1 c]
          refine ok_at ?_
          have v13 : vp_in (nI (17 + 22 * (c + 1) + 0)) 336 := i_in (by omega) (by decide)
          rw [ix_w0, i_cl (by omega), R2.2.2.2.2.2.1 (c + 1) 0 (by omega) (by omega)]
          refine ⟨v13, ?_⟩
          intro M56 h56
          have e56 : M56 2 = upd (M44 2) (8 + 22 * c + k) (nI (mo A c k)) := by rw [h56]; rfl
          refine ⟨v13, ih (k + 1) n _ _ (by omega) (by omega) ?_ hB2 hU2 (fun j hj => ?_)⟩
          · show RepR (upd (M56 2) _ _) _
            rw [e56]
            exact rr_W R2 (by omega) (by omega) _ rfl
          · rw [h56]
            show (if j = 2 then _ else if j = 2 then _ else M44 j) = T j
            rw [if_neg hj, if_neg hj]
            exact f44 j hj
        · rw [if_neg hK] at h2
          exact absurd h2 (by decide)
      · by_cases hK : aK A c = true
        · rw [if_pos hK] at h2
          exact absurd rfl h2
        · rw [if_neg hK] at hU2 hB2
          refine ok_at ?_
          have v2 : vp_in (nI (6 + 22 * c)) 336 := i_in (by omega) (by decide)
          rw [ix_s, i_cl (by omega), R2.2.2.2.1 c h6]
          refine ⟨v2, ?_⟩
          intro M52 h52
          have e52 : M52 2 = upd (M44 2) (8 + 22 * c + k) (nI (mo A c k)) := by rw [h52]; rfl
          refine ⟨v2, ih (k + 1) n _ _ (by omega) (by omega) ?_ hB2 hU2 (fun j hj => ?_)⟩
          · show RepR (upd (M52 2) _ _) _
            rw [e52]
            exact rr_S R2 h6 _ rfl
          · rw [h52]
            show (if j = 2 then _ else if j = 2 then _ else M44 j) = T j
            rw [if_neg hj, if_neg hj]
            exact f44 j hj
    · have h1 := Classical.not_not.mp h1
      rw [if_pos h1] at hU2 hB2
      have e58 : nI (4 + 22 * c) + (13 : Int32) + nI k + 1 = nI (17 + 22 * c + (k + 1)) := by
        rw [ix_w, i_p1]
        congr 1
      have v13 : vp_in (nI (17 + 22 * c + (k + 1))) 336 := i_in (by omega) (by decide)
      rw [e58, i_cl (by omega), R2.2.2.2.2.2.1 c (k + 1) h6 (by omega)]
      refine ⟨v13, ?_⟩
      intro M60 h60
      have e60 : M60 2 = upd (M44 2) (8 + 22 * c + k) (nI (mo A c k)) := by rw [h60]; rfl
      refine ⟨v13, ih (k + 1) n _ _ (by omega) (by omega) ?_ hB2 hU2 (fun j hj => ?_)⟩
      · show RepR (upd (M60 2) _ _) _
        rw [e60]
        exact rr_W R2 h6 (by omega) _ rfl
      · rw [h60]
        show (if j = 2 then _ else if j = 2 then _ else M44 j) = T j
        rw [if_neg hj, if_neg hj]
        exact f44 j hj
theorem b4_loop_n {T : MS} {A : AL} (hO : Ok A) (hT : ∀ x y, y < aP A x → x < aC A → T 7 (9 * x + y) = tv A x y ∧ T 8 (9 * x + y) = ov A x y) {Q : MS → Prop} (h : ∀ M', RepR (M' 2) (bt A) → (∀ j, j ≠ 2 → M' j = T j) → Q M') : ∀ (m k n : Nat) (M : MS) (B : AL), k + m = aC A → m < n → RepR (M 2) B → Ok B → UBI A k 0 B → (∀ j, j ≠ 2 → M j = T j) → wl_X4_beat_n_124 Q n M (nI k) := by
  have hC := hO.1.2
  intro m
  induction m with
  | zero =>
    intro k n M B hk hn hR hB hU hF
    obtain ⟨n, rfl, -⟩ := fuel1 hn
    have eC : aC B = aC A := congrArg (fun z => z.1) hU.1.1
    rw [show k = aC A by omega] at hU ⊢
    have eB := UBI_e hO hU
    subst eB
    refine ⟨fun _ => h _ ?_ (fun j hj => ?_), fun h0 => absurd ?_ h0⟩
    · rw [z2, hR.1.2.2.1]
      exact rr_B hR _
    · show (if j = 2 then _ else M j) = T j
      rw [if_neg hj]
      exact hF j hj
    · rw [z0, hR.1.1, eC]
      exact (i_le (by omega) (by omega)).mpr (Nat.le_refl _)
  | succ m ih =>
    intro k n M B hk hn hR hB hU hF
    obtain ⟨n, rfl, hn⟩ := fuel1 hn
    have eC : aC B = aC A := congrArg (fun z => z.1) hU.1.1
    have h9 := hO.p9 k
    refine ⟨fun h0 => ?_, fun _ => ok_at ?_⟩
    · rw [z0, hR.1.1, eC, i_le (by omega) (by omega)] at h0
      omega
    · rw [ix_z]
      refine ⟨i_in (by omega) (by decide), 10, ?_⟩
      rw [i_cl (by omega), hR.2.1 k (by omega), hU.1.2.1, i_p1]
      exact b3_loop_n hO hT (by omega) (fun M' B' hR' hB' hU' hF' => ih (k + 1) n M' B' (by omega) (by omega) hR' hB' (UBI_c hO (by omega) hU') hF') (aP A k) 0 10 M B (by omega) (by omega) hR hB hU hF
theorem ok_beat_n {M : MS} {A : AL} (hR : RepR (M 2) A) (hO : Ok A) {Q : MS → Prop} (h : ∀ M', RepR (M' 2) (bt A) → (∀ j, j ≠ 2 → j ≠ 7 → j ≠ 8 → M' j = M j) → Q M') : wp_X4_beat_n M Q := by
  have hC := hO.1.2
  refine ⟨7, b2_loop_n hR hO (aC A) 0 7 M (by omega) (by omega) (fun _ _ _ => rfl) (fun x y _ hx => absurd hx (by omega)) (fun T hF hN => ⟨7, ?_⟩)⟩
  refine b4_loop_n hO hN (fun M' hR' hF' => h M' hR' (fun j h2 h7 h8 => (hF' j h2).trans (hF j h7 h8))) (aC A) 0 7 T A (by omega) (by omega) ?_ hO (UBI_0 A) (fun _ _ => rfl)
  rw [hF 2 (by decide) (by decide)]
  exact hR
theorem bs_loop_n {N : Nat} (hN : N < 1000) {Q : Int32 → MS → Prop} : ∀ (m k n : Nat) (A : AL) (M : MS), Ok A → RepR (M 2) A → k + m = N → m < n → (∀ M', RepR (M' 2) (bts m A) → (∀ j, j ≠ 2 → j ≠ 7 → j ≠ 8 → M' j = M j) → Q (nI (aE (bts m A))) M') → wl_X4_beatsOn_n_2 (nI N) Q n M (nI k) := by
  intro m
  induction m with
  | zero =>
    intro k n A M hO hR hk hn h
    obtain ⟨n, rfl, -⟩ := fuel1 hn
    exact ⟨fun _ => ok_settledOn hR hO (h M hR (fun _ _ _ _ => rfl)), fun h0 => absurd ((i_le (by omega) (by omega)).mpr (by omega)) h0⟩
  | succ m ih =>
    intro k n A M hO hR hk hn h
    obtain ⟨n, rfl, hn⟩ := fuel1 hn
    refine ⟨fun h0 => absurd ((i_le (by omega) (by omega)).mp h0) (by omega), fun _ => ok_beat_n hR hO (fun M' hR' hF' => ?_)⟩
    rw [i_p1]
    exact ih (k + 1) n (bt A) M' (bt_ok hO) hR' (by omega) (by omega) (fun M'' hR'' hF'' => h M'' hR'' (fun j h2 h7 h8 => (hF'' j h2 h7 h8).trans (hF' j h2 h7 h8)))
theorem ok_beatsOn_n {M : MS} {A : AL} (hR : RepR (M 2) A) (hO : Ok A) {N : Nat} (hN : N < 1000) {Q : Int32 → MS → Prop} (h : ∀ M', RepR (M' 2) (bts N A) → (∀ j, j ≠ 2 → j ≠ 7 → j ≠ 8 → M' j = M j) → Q (nI (aE (bts N A))) M') : wp_X4_beatsOn_n M (nI N) Q :=
  ⟨N + 1, bs_loop_n hN N 0 (N + 1) A M hO hR (by omega) (by omega) h⟩
theorem b1_loop_t {M0 : MS} {A : AL} (hR : RepR (M0 3) A) (hO : Ok A) {c : Nat} (hc : c < aC A) {Q E : MS → Prop} : ∀ (m k n : Nat) (M : MS), k + m = aP A c → m < n → (∀ j, j ≠ 7 → j ≠ 8 → M j = M0 j) → (∀ x y, y < aP A x → dn c k x y → M 7 (9 * x + y) = tv A x y ∧ M 8 (9 * x + y) = ov A x y) → (∀ M', (∀ j, j ≠ 7 → j ≠ 8 → M' j = M0 j) → (∀ x y, y < aP A x → x < c + 1 → M' 7 (9 * x + y) = tv A x y ∧ M' 8 (9 * x + y) = ov A x y) → E M') → wl_X4_beat_t_11 (nI c) Q E n M (nI k) := by
  have h9 := hO.p9 c
  have h6 := hO.c6 hc
  intro m
  induction m with
  | zero =>
    intro k n M hk hn hF hN h
    obtain ⟨n, rfl, -⟩ := fuel1 hn
    refine ok_at ?_
    rw [ix_z]
    refine ⟨i_in (by omega) (by decide), ?_⟩
    rw [i_cl (by omega), hF 3 (by decide) (by decide), hR.2.1 c h6, i_le (by omega) (by omega)]
    refine ⟨fun _ => h M hF (fun x y hy hx => hN x y hy ?_), fun h0 => absurd (by omega) h0⟩
    by_cases e : x = c
    · subst e
      omega
    · omega
  | succ m ih =>
    intro k n M hk hn hF hN h
    obtain ⟨n, rfl, hn⟩ := fuel1 hn
    refine ok_at ?_
    rw [ix_z]
    refine ⟨i_in (by omega) (by decide), ?_⟩
    rw [i_cl (by omega), hF 3 (by decide) (by decide), hR.2.1 c h6, i_le (by omega) (by omega)]
    refine ⟨fun h0 => absurd h0 (by omega), fun _ => ok_at ?_⟩
    rw [ix_w]
    refine ⟨i_in (by omega) (by decide), ?_⟩
    intro y hy
    rw [i_cl (by omega), hR.2.2.2.2.2.1 c k h6 (by omega)] at hy
    subst hy
    have ht := tv_cases hO c k
    have v54 : vp_in (nI (9 * c + k)) 54 := i_in (by omega) (by decide)
    have step : ∀ v : Int32, v = tv A c k → wp_X4_at (nI c) (fun (r11 : Int32) => (vp_in ((r11 + (4 : Int32)) + nI k) 336 ∧ (wp_X4_floor ((M0 3 ((r11 + (4 : Int32)) + nI k).toNatClampNeg) + v) (fun (r13 : Int32) => (∀ M14 : MS, M14 = (zr2 M 7 (upd (M 7) (nI (9 * c + k)).toNatClampNeg v)) → (vp_in (nI (9 * c + k)) 54 ∧ (wl_X4_beat_t_11 (nI c) Q E n (zr2 M14 8 (upd (M14 8) (nI (9 * c + k)).toNatClampNeg r13)) (nI (k + 1))))))))) := by
      intro v hv
      subst hv
      refine ok_at ?_
      rw [ix_d]
      refine ⟨i_in (by omega) (by decide), ?_⟩
      rw [i_cl (by omega), hR.2.2.2.2.1 c k h6 (by omega), es_su hO]
      refine ok_floor (su_b hO c k) ?_
      intro M14 h14
      refine ⟨v54, ?_⟩
      rw [i_cl (by omega)] at h14 ⊢
      subst h14
      refine ih (k + 1) n _ (by omega) (by omega) (fun j h7 h8 => ?_) (fun x y hy hd => ?_) h
      · show (if j = 8 then _ else if j = 7 then _ else M j) = M0 j
        rw [if_neg h8, if_neg h7]
        exact hF j h7 h8
      · have hy9 := hO.p9 x
        show upd (M 7) (9 * c + k) (tv A c k) (9 * x + y) = tv A x y ∧ upd (M 8) (9 * c + k) (ov A c k) (9 * x + y) = ov A x y
        by_cases e : x = c ∧ y = k
        · rw [e.1, e.2]
          exact ⟨pk_us, pk_us⟩
        · rw [pk_un (by omega), pk_un (by omega)]
          exact hN x y hy (by omega)
    rw [z1, hR.1.2.1, ix_9, i_p1]
    exact ⟨fun h1 => ⟨fun h2 => ⟨v54, step _ ((ht.1 h1).1 h2)⟩, fun h2 => ⟨v54, step _ ((ht.1 h1).2 h2)⟩⟩, fun h1 => ⟨v54, step _ (ht.2 h1)⟩⟩
theorem b2_loop_t {M0 : MS} {A : AL} (hR : RepR (M0 3) A) (hO : Ok A) {Q E : MS → Prop} : ∀ (m k n : Nat) (M : MS), k + m = aC A → m < n → (∀ j, j ≠ 7 → j ≠ 8 → M j = M0 j) → (∀ x y, y < aP A x → x < k → M 7 (9 * x + y) = tv A x y ∧ M 8 (9 * x + y) = ov A x y) → (∀ M', (∀ j, j ≠ 7 → j ≠ 8 → M' j = M0 j) → (∀ x y, y < aP A x → x < aC A → M' 7 (9 * x + y) = tv A x y ∧ M' 8 (9 * x + y) = ov A x y) → E M') → wl_X4_beat_t_2 Q E n M (nI k) := by
  have hC := hO.1.2
  intro m
  induction m with
  | zero =>
    intro k n M hk hn hF hN h
    obtain ⟨n, rfl, -⟩ := fuel1 hn
    refine ⟨fun _ => h M hF (fun x y hy hx => hN x y hy (by omega)), fun h0 => absurd ?_ h0⟩
    rw [z0, hF 3 (by decide) (by decide), hR.1.1, i_le (by omega) (by omega)]
    omega
  | succ m ih =>
    intro k n M hk hn hF hN h
    obtain ⟨n, rfl, hn⟩ := fuel1 hn
    refine ⟨fun h0 => ?_, fun _ => ⟨10, ?_⟩⟩
    · rw [z0, hF 3 (by decide) (by decide), hR.1.1, i_le (by omega) (by omega)] at h0
      omega
    · have h9 := hO.p9 k
      refine b1_loop_t hR hO (by omega) (aP A k) 0 10 M (by omega) (by omega) hF (fun x y hy hd => hN x y hy (by omega)) (fun M' hF' hN' => ?_)
      rw [i_p1]
      exact ih (k + 1) n M' (by omega) (by omega) hF' hN' h
theorem b3_loop_t {T : MS} {A : AL} (hO : Ok A) (hT : ∀ x y, y < aP A x → x < aC A → T 7 (9 * x + y) = tv A x y ∧ T 8 (9 * x + y) = ov A x y) {c : Nat} (hc : c < aC A) {Q E : MS → Prop} (h : ∀ M' B, RepR (M' 3) B → Ok B → UBI A c (aP A c) B → (∀ j, j ≠ 3 → M' j = T j) → E M') : ∀ (m k n : Nat) (M : MS) (B : AL), k + m = aP A c → m < n → RepR (M 3) B → Ok B → UBI A c k B → (∀ j, j ≠ 3 → M j = T j) → wl_X4_beat_t_143 (nI c) (nI (aP A c)) Q E n M (nI k) := by
  have h9 := hO.p9 c
  have h6 := hO.c6 hc
  intro m
  induction m with
  | zero =>
    intro k n M B hk hn hR hB hU hF
    obtain ⟨n, rfl, -⟩ := fuel1 hn
    rw [show k = aP A c by omega] at hU ⊢
    exact ⟨fun _ => h M B hR hB hU hF, fun h0 => absurd ((i_le (by omega) (by omega)).mpr (Nat.le_refl _)) h0⟩
  | succ m ih =>
    intro k n M B hk hn hR hB hU hF
    obtain ⟨n, rfl, hn⟩ := fuel1 hn
    have v54 : vp_in (nI (9 * c + k)) 54 := i_in (by omega) (by decide)
    have vw : vp_in (nI (17 + 22 * c + k)) 336 := i_in (by omega) (by decide)
    have vd : vp_in (nI (8 + 22 * c + k)) 336 := i_in (by omega) (by decide)
    obtain ⟨hT7, hT8⟩ := hT c k (by omega) hc
    have eP : aP B = aP A := hU.1.2.1
    have eK : aK B = aK A := hU.1.2.2.1
    have eD : aD B c k = aD A c k := by rw [hU.2.1, if_neg (by omega)]
    have hU2 := UBI_s (by omega) hU
    have hB2 : Ok (stp A B c k) := stp_ok hB (by rw [eP]; omega)
    refine ⟨fun h0 => absurd ((i_le (by omega) (by omega)).mp h0) (by omega), fun _ => ?_⟩
    rw [ix_9, i_cl (by omega), hF 7 (by decide), hF 8 (by decide), hT7, hT8, i_p1 k]
    refine ⟨v54, ?_⟩
    intro y hy
    subst hy
    refine ok_at ?_
    rw [ix_w, i_cl (by omega), hR.2.2.2.2.2.1 c k h6 (by omega)]
    refine ⟨vw, v54, vw, ok_at ?_⟩
    rw [ix_d, i_cl (by omega)]
    refine ⟨vd, v54, ?_⟩
    intro M44 h44
    have e44 : M44 3 = upd (M 3) (17 + 22 * c + k) (aW B c k - tv A c k) := by rw [h44]; rfl
    have f44 : ∀ j, j ≠ 3 → M44 j = T j := fun j hj => by
      rw [h44]
      show (if j = 3 then _ else M j) = T j
      rw [if_neg hj]
      exact hF j hj
    have R1 : RepR (M44 3) (sW B c k (aW B c k - tv A c k)) := e44 ▸ rr_W hR h6 (by omega) _ rfl
    rw [← e44]
    have e8 : M44 3 (8 + 22 * c + k) = nI (aD A c k) := by
      rw [R1.2.2.2.2.1 c k h6 (by omega)]
      show nI (aD B c k) = _
      rw [eD]
    rw [e8, mo_eq hO]
    have R2 : RepR (upd (M44 3) (8 + 22 * c + k) (nI (mo A c k))) (sD (sW B c k (aW B c k - tv A c k)) c k (mo A c k)) := rr_D R1 h6 (by omega) _ rfl
    obtain ⟨B2, hB2e⟩ : ∃ B2, B2 = sD (sW B c k (aW B c k - tv A c k)) c k (mo A c k) := ⟨_, rfl⟩
    have est : stp A B c k = ho B2 c k (ov A c k) := by
      rw [hB2e]
      rfl
    rw [← hB2e] at R2
    have eP2 : aP B2 = aP A := by rw [hB2e]; exact eP
    have eK2 : aK B2 = aK A := by rw [hB2e]; exact eK
    rw [est] at hU2 hB2
    unfold ho at hU2 hB2
    rw [eP2, eK2] at hU2 hB2
    have eq1 : ((nI (aP A c) - 1 : Int32) ≤ nI k) ↔ ¬ k + 1 < aP A c := by
      obtain ⟨q, hq⟩ : ∃ q, aP A c = q + 1 := ⟨aP A c - 1, by omega⟩
      rw [hq, i_s1, i_le (by omega) (by omega)]
      omega
    rw [eq1]
    refine ⟨vd, fun h1 => ok_at ?_, fun h1 => ok_at ?_⟩
    · rw [if_neg h1] at hU2 hB2
      rw [ix_k, i_cl (by omega), R2.2.2.1 c h6, eK2]
      refine ⟨i_in (by omega) (by decide), fun h2 => ?_, fun h2 => ?_⟩
      · by_cases hK : aK A c = true
        · have hc1 := hO.2.2.2.2.2.1 c hK
          have hC := hO.1.2
          rw [if_pos hK] at hU2 hB2
          rw [i_p1 c]
          refine ok_at ?_
          have v13 : vp_in (nI (17 + 22 * (c + 1) + 0)) 336 := i_in (by omega) (by decide)
          rw [ix_w0, i_cl (by omega), R2.2.2.2.2.2.1 (c + 1) 0 (by omega) (by omega)]
          refine ⟨v13, ?_⟩
          intro M56 h56
          have e56 : M56 3 = upd (M44 3) (8 + 22 * c + k) (nI (mo A c k)) := by rw [h56]; rfl
          refine ⟨v13, ih (k + 1) n _ _ (by omega) (by omega) ?_ hB2 hU2 (fun j hj => ?_)⟩
          · show RepR (upd (M56 3) _ _) _
            rw [e56]
            exact rr_W R2 (by omega) (by omega) _ rfl
          · rw [h56]
            show (if j = 3 then _ else if j = 3 then _ else M44 j) = T j
            rw [if_neg hj, if_neg hj]
            exact f44 j hj
        · rw [if_neg hK] at h2
          exact absurd h2 (by decide)
      · by_cases hK : aK A c = true
        · rw [if_pos hK] at h2
          exact absurd rfl h2
        · rw [if_neg hK] at hU2 hB2
          refine ok_at ?_
          have v2 : vp_in (nI (6 + 22 * c)) 336 := i_in (by omega) (by decide)
          rw [ix_s, i_cl (by omega), R2.2.2.2.1 c h6]
          refine ⟨v2, ?_⟩
          intro M52 h52
          have e52 : M52 3 = upd (M44 3) (8 + 22 * c + k) (nI (mo A c k)) := by rw [h52]; rfl
          refine ⟨v2, ih (k + 1) n _ _ (by omega) (by omega) ?_ hB2 hU2 (fun j hj => ?_)⟩
          · show RepR (upd (M52 3) _ _) _
            rw [e52]
            exact rr_S R2 h6 _ rfl
          · rw [h52]
            show (if j = 3 then _ else if j = 3 then _ else M44 j) = T j
            rw [if_neg hj, if_neg hj]
            exact f44 j hj
    · have h1 := Classical.not_not.mp h1
      rw [if_pos h1] at hU2 hB2
      have e58 : nI (4 + 22 * c) + (13 : Int32) + nI k + 1 = nI (17 + 22 * c + (k + 1)) := by
        rw [ix_w, i_p1]
        congr 1
      have v13 : vp_in (nI (17 + 22 * c + (k + 1))) 336 := i_in (by omega) (by decide)
      rw [e58, i_cl (by omega), R2.2.2.2.2.2.1 c (k + 1) h6 (by omega)]
      refine ⟨v13, ?_⟩
      intro M60 h60
      have e60 : M60 3 = upd (M44 3) (8 + 22 * c + k) (nI (mo A c k)) := by rw [h60]; rfl
      refine ⟨v13, ih (k + 1) n _ _ (by omega) (by omega) ?_ hB2 hU2 (fun j hj => ?_)⟩
      · show RepR (upd (M60 3) _ _) _
        rw [e60]
        exact rr_W R2 h6 (by omega) _ rfl
      · rw [h60]
        show (if j = 3 then _ else if j = 3 then _ else M44 j) = T j
        rw [if_neg hj, if_neg hj]
        exact f44 j hj
theorem b4_loop_t {T : MS} {A : AL} (hO : Ok A) (hT : ∀ x y, y < aP A x → x < aC A → T 7 (9 * x + y) = tv A x y ∧ T 8 (9 * x + y) = ov A x y) {Q : MS → Prop} (h : ∀ M', RepR (M' 3) (bt A) → (∀ j, j ≠ 3 → M' j = T j) → Q M') : ∀ (m k n : Nat) (M : MS) (B : AL), k + m = aC A → m < n → RepR (M 3) B → Ok B → UBI A k 0 B → (∀ j, j ≠ 3 → M j = T j) → wl_X4_beat_t_124 Q n M (nI k) := by
  have hC := hO.1.2
  intro m
  induction m with
  | zero =>
    intro k n M B hk hn hR hB hU hF
    obtain ⟨n, rfl, -⟩ := fuel1 hn
    have eC : aC B = aC A := congrArg (fun z => z.1) hU.1.1
    rw [show k = aC A by omega] at hU ⊢
    have eB := UBI_e hO hU
    subst eB
    refine ⟨fun _ => h _ ?_ (fun j hj => ?_), fun h0 => absurd ?_ h0⟩
    · rw [z2, hR.1.2.2.1]
      exact rr_B hR _
    · show (if j = 3 then _ else M j) = T j
      rw [if_neg hj]
      exact hF j hj
    · rw [z0, hR.1.1, eC]
      exact (i_le (by omega) (by omega)).mpr (Nat.le_refl _)
  | succ m ih =>
    intro k n M B hk hn hR hB hU hF
    obtain ⟨n, rfl, hn⟩ := fuel1 hn
    have eC : aC B = aC A := congrArg (fun z => z.1) hU.1.1
    have h9 := hO.p9 k
    refine ⟨fun h0 => ?_, fun _ => ok_at ?_⟩
    · rw [z0, hR.1.1, eC, i_le (by omega) (by omega)] at h0
      omega
    · rw [ix_z]
      refine ⟨i_in (by omega) (by decide), 10, ?_⟩
      rw [i_cl (by omega), hR.2.1 k (by omega), hU.1.2.1, i_p1]
      exact b3_loop_t hO hT (by omega) (fun M' B' hR' hB' hU' hF' => ih (k + 1) n M' B' (by omega) (by omega) hR' hB' (UBI_c hO (by omega) hU') hF') (aP A k) 0 10 M B (by omega) (by omega) hR hB hU hF
theorem ok_beat_t {M : MS} {A : AL} (hR : RepR (M 3) A) (hO : Ok A) {Q : MS → Prop} (h : ∀ M', RepR (M' 3) (bt A) → (∀ j, j ≠ 3 → j ≠ 7 → j ≠ 8 → M' j = M j) → Q M') : wp_X4_beat_t M Q := by
  have hC := hO.1.2
  refine ⟨7, b2_loop_t hR hO (aC A) 0 7 M (by omega) (by omega) (fun _ _ _ => rfl) (fun x y _ hx => absurd hx (by omega)) (fun T hF hN => ⟨7, ?_⟩)⟩
  refine b4_loop_t hO hN (fun M' hR' hF' => h M' hR' (fun j h2 h7 h8 => (hF' j h2).trans (hF j h7 h8))) (aC A) 0 7 T A (by omega) (by omega) ?_ hO (UBI_0 A) (fun _ _ => rfl)
  rw [hF 3 (by decide) (by decide)]
  exact hR
theorem bs_loop_t {N : Nat} (hN : N < 1000) {Q : Int32 → MS → Prop} : ∀ (m k n : Nat) (A : AL) (M : MS), Ok A → RepR (M 3) A → k + m = N → m < n → (∀ M', RepR (M' 3) (bts m A) → (∀ j, j ≠ 3 → j ≠ 7 → j ≠ 8 → M' j = M j) → Q (nI (aE (bts m A))) M') → wl_X4_beatsOn_t_2 (nI N) Q n M (nI k) := by
  intro m
  induction m with
  | zero =>
    intro k n A M hO hR hk hn h
    obtain ⟨n, rfl, -⟩ := fuel1 hn
    exact ⟨fun _ => ok_settledOn hR hO (h M hR (fun _ _ _ _ => rfl)), fun h0 => absurd ((i_le (by omega) (by omega)).mpr (by omega)) h0⟩
  | succ m ih =>
    intro k n A M hO hR hk hn h
    obtain ⟨n, rfl, hn⟩ := fuel1 hn
    refine ⟨fun h0 => absurd ((i_le (by omega) (by omega)).mp h0) (by omega), fun _ => ok_beat_t hR hO (fun M' hR' hF' => ?_)⟩
    rw [i_p1]
    exact ih (k + 1) n (bt A) M' (bt_ok hO) hR' (by omega) (by omega) (fun M'' hR'' hF'' => h M'' hR'' (fun j h2 h7 h8 => (hF'' j h2 h7 h8).trans (hF' j h2 h7 h8)))
theorem ok_beatsOn_t {M : MS} {A : AL} (hR : RepR (M 3) A) (hO : Ok A) {N : Nat} (hN : N < 1000) {Q : Int32 → MS → Prop} (h : ∀ M', RepR (M' 3) (bts N A) → (∀ j, j ≠ 3 → j ≠ 7 → j ≠ 8 → M' j = M j) → Q (nI (aE (bts N A))) M') : wp_X4_beatsOn_t M (nI N) Q :=
  ⟨N + 1, bs_loop_t hN N 0 (N + 1) A M hO hR (by omega) (by omega) h⟩

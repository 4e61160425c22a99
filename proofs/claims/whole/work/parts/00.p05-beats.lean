/-! A whole beat of the class: the places from the highest down. -/
theorem up2_id {α : Type} (f : Nat → Nat → α) (c p : Nat) : up2 f c p (f c p) = f := by
  funext x y
  unfold up2
  by_cases h : x = c ∧ y = p
  · rw [if_pos h, h.1, h.2]
  · rw [if_neg h]
theorem sW_id (A : AL) (c p : Nat) {v : Int32} (h : v = aW A c p) : sW A c p v = A := by
  subst h
  unfold sW
  rw [up2_id]
  rfl
theorem sD_id (A : AL) (c p : Nat) {v : Nat} (h : v = aD A c p) : sD A c p v = A := by
  subst h
  unfold sD
  rw [up2_id]
  rfl
theorem sS_id (A : AL) (c : Nat) {v : Int32} (h : v = aS A c) : sS A c v = A := by
  subst h
  unfold sS
  rw [show va_up (aS A) c (aS A c) = aS A from funext fun x => by unfold va_up; by_cases e : x = c <;> simp [e]]
  rfl
theorem tu_id {A : AL} (hO : Ok A) {c k : Nat} (h : aW A c k = 0) : tu A c k = A := by
  unfold tu
  rw [sW_id A c k (by rw [tv_0 h, Int32.sub_zero]), sD_id A c k (mo_0 hO h), ov_0 hO h]
  unfold ho
  rw [sW_id A c (k + 1) (Int32.add_zero _), sW_id A (c + 1) 0 (Int32.add_zero _), sS_id A c (Int32.add_zero _)]
  simp
def cbt (c : Nat) : Nat → AL → AL
  | 0, A => A
  | k + 1, A => cbt c k (tu A c k)
theorem cbt_fr (c : Nat) : ∀ k A, (cbt c k A).1 = A.1 ∧ aP (cbt c k A) = aP A ∧ aK (cbt c k A) = aK A ∧ aX (cbt c k A) = aX A
  | 0, A => ⟨rfl, rfl, rfl, rfl⟩
  | k + 1, A => by
    have h1 := cbt_fr c k (tu A c k)
    have h2 := tu_fr A c k
    exact ⟨h1.1.trans h2.1, h1.2.1.trans h2.2.1, h1.2.2.1.trans h2.2.2.1, h1.2.2.2.trans h2.2.2.2⟩
theorem cbt_ok (c : Nat) : ∀ k A, Ok A → k ≤ aP A c → Ok (cbt c k A)
  | 0, _, hO, _ => hO
  | k + 1, A, hO, h => cbt_ok c k (tu A c k) (tu_ok hO (by omega)) (by rw [(tu_fr A c k).2.1]; omega)
def pbt (f : Nat) : Nat → AL → AL
  | 0, A => A
  | m + 1, A => pbt f m (cbt (f + m) (aP A (f + m)) A)
theorem pbt_fr (f : Nat) : ∀ m A, (pbt f m A).1 = A.1 ∧ aP (pbt f m A) = aP A ∧ aK (pbt f m A) = aK A ∧ aX (pbt f m A) = aX A
  | 0, A => ⟨rfl, rfl, rfl, rfl⟩
  | m + 1, A => by
    have h1 := pbt_fr f m (cbt (f + m) (aP A (f + m)) A)
    have h2 := cbt_fr (f + m) (aP A (f + m)) A
    exact ⟨h1.1.trans h2.1, h1.2.1.trans h2.2.1, h1.2.2.1.trans h2.2.2.1, h1.2.2.2.trans h2.2.2.2⟩
theorem pbt_ok (f : Nat) : ∀ m A, Ok A → Ok (pbt f m A)
  | 0, _, hO => hO
  | m + 1, A, hO => pbt_ok f m _ (cbt_ok _ _ A hO (Nat.le_refl _))
theorem cb_loop {c : Nat} (hc : c < 6) {x1 : Int32} {Q E : LnS → Prop} : ∀ (k n : Nat) (A : AL) (L : LnS), Ok A → RepL L A → k ≤ aP A c → k < n → (∀ L', RepL L' (cbt c k A) → E L') → wl_X1_passBeat_17 x1 (nI c) Q E n L (nI k - 1) := by
  intro k
  induction k with
  | zero =>
    intro n A L hO hR hk hn h
    obtain ⟨n, rfl, -⟩ := fuel1 hn
    exact ⟨fun _ => h L hR, fun h0 => absurd i_m1neg h0⟩
  | succ k ih =>
    intro n A L hO hR hk hn h
    obtain ⟨n, rfl, hn⟩ := fuel1 hn
    have h9 := hO.p9 c
    rw [i_s1]
    refine ⟨fun h0 => absurd h0 (i_neg k (by omega)), fun _ => ok_cellOf ⟨i_in (by omega) (by decide), ?_⟩⟩
    rw [i_cl (by omega), hR.2.2.2.2.2.1 c k hc (by omega), i_m1]
    refine ⟨fun h0 => ?_, fun h0 => ok_takeUp hR hO hc (by omega) ?_⟩
    · refine ih n A L hO hR (by omega) (by omega) ?_
      have h2 : ∀ L', RepL L' (cbt c k (tu A c k)) → E L' := h
      rwa [tu_id hO h0] at h2
    · intro L' hL'
      exact ih n (tu A c k) L' (tu_ok hO (by omega)) hL' (by rw [(tu_fr A c k).2.1]; omega) (by omega) h
theorem i_lt1 {n : Nat} (h : n < 100000) : nI n - 1 < nI n := by
  cases n with
  | zero => decide
  | succ k =>
    rw [i_s1, i_lt (by omega) (by omega)]
    omega
theorem pb_loop {f : Nat} {Q : LnS → Prop} : ∀ (m n : Nat) (A : AL) (L : LnS), Ok A → RepL L A → f + m ≤ 6 → m < n → (∀ L', RepL L' (pbt f m A) → Q L') → wl_X1_passBeat_2 (nI f) Q n L (nI (f + m) - 1) := by
  intro m
  induction m with
  | zero =>
    intro n A L hO hR hk hn h
    obtain ⟨n, rfl, -⟩ := fuel1 hn
    exact ⟨fun _ => h L hR, fun h0 => absurd (i_lt1 (by omega)) h0⟩
  | succ m ih =>
    intro n A L hO hR hk hn h
    obtain ⟨n, rfl, hn⟩ := fuel1 hn
    have h9 := hO.p9 (f + m)
    rw [show f + (m + 1) = (f + m) + 1 by omega, i_s1]
    refine ⟨fun h0 => absurd ((i_lt (by omega) (by omega)).mp h0) (by omega), fun _ => ⟨i_in (by omega) (by decide), 10, ?_⟩⟩
    rw [i_cl (by omega), hR.2.1 (f + m) (by omega)]
    refine cb_loop (by omega) _ 10 A L hO hR (Nat.le_refl _) (by omega) ?_
    intro L' hL'
    rw [i_m1]
    exact ih n _ L' (cbt_ok _ _ A hO (Nat.le_refl _)) hL' (by omega) (by omega) h
theorem ok_passBeat {L : LnS} {A : AL} (hR : RepL L A) (hO : Ok A) {f m : Nat} (hm : f + m ≤ 6) {Q : LnS → Prop} (h : ∀ L', RepL L' (pbt f m A) → Q L') : wp_X1_passBeat L (nI f) (nI (f + m) - 1) Q :=
  ⟨7, pb_loop m 7 A L hO hR hm (by omega) h⟩
/-! The class's beat, place by place. -/
def CBI (A : AL) (c k : Nat) (B : AL) : Prop :=
  (B.1 = A.1 ∧ aP B = aP A ∧ aK B = aK A ∧ aX B = aX A)
  ∧ (∀ x y, aD B x y = if x = c ∧ k ≤ y ∧ y < aP A c then mo A c y else aD A x y)
  ∧ (∀ x y, aW B x y = if x = c then (if k ≤ y ∧ y < aP A c then aW A c y - tv A c y + (if k < y then ov A c (y - 1) else 0) else aW A c y) else if x = c + 1 ∧ y = 0 ∧ k < aP A c ∧ aK A c = true then aW A x y + ov A c (aP A c - 1) else aW A x y)
  ∧ (∀ x, aS B x = if x = c ∧ k < aP A c ∧ ¬ aK A c = true then aS A x + ov A c (aP A c - 1) else aS A x)
theorem tk_eq {A B : AL} {c p : Nat} (h1 : B.1 = A.1) (hw : aW B c p = aW A c p) : tk B c p = tk A c p := by
  unfold tk aG
  rw [h1, hw]
theorem su_eq {A B : AL} {c p : Nat} (h1 : B.1 = A.1) (hw : aW B c p = aW A c p) (hd : aD B c p = aD A c p) : su B c p = su A c p := by
  unfold su
  rw [tk_eq h1 hw, hd]
theorem CBI_0 (A : AL) (c : Nat) : CBI A c (aP A c) A := by
  refine ⟨⟨rfl, rfl, rfl, rfl⟩, fun x y => ?_, fun x y => ?_, fun x => ?_⟩
  · rw [if_neg (by omega)]
  · by_cases e : x = c
    · rw [if_pos e, if_neg (by omega), e]
    · rw [if_neg e, if_neg (by omega)]
  · rw [if_neg (by omega)]
theorem CBI_s {A B : AL} {c k : Nat} (hk : k < aP A c) (h : CBI A c (k + 1) B) : CBI A c k (tu B c k) := by
  obtain ⟨⟨e1, eP, eK, eX⟩, hD, hW, hS⟩ := h
  have w0 : aW B c k = aW A c k := by
    rw [hW, if_pos rfl, if_neg (by omega)]
  have d0 : aD B c k = aD A c k := by
    rw [hD, if_neg (by omega)]
  have et : tv B c k = tv A c k := by
    unfold tv
    rw [tk_eq e1 w0]
  have eo : ov B c k = ov A c k := by
    unfold ov
    rw [su_eq e1 w0 d0]
  have em : mo B c k = mo A c k := by
    unfold mo
    rw [su_eq e1 w0 d0]
  have fr := tu_fr B c k
  have frD := (ho_fr (sD (sW B c k (aW B c k - tv B c k)) c k (mo B c k)) c k (ov B c k)).2.2.2.2
  refine ⟨⟨fr.1.trans e1, fr.2.1.trans eP, fr.2.2.1.trans eK, fr.2.2.2.trans eX⟩, fun x y => ?_, ?_⟩
  · show aD (tu B c k) x y = _
    unfold tu
    rw [frD]
    show (if x = c ∧ y = k then mo B c k else aD B x y) = _
    by_cases h1 : x = c ∧ y = k
    · rw [if_pos h1, if_pos (by omega), em, h1.2]
    · rw [if_neg h1, hD]
      by_cases h2 : x = c ∧ k + 1 ≤ y ∧ y < aP A c
      · rw [if_pos h2, if_pos (by omega)]
      · rw [if_neg h2, if_neg (by omega)]
  · have eP2 : aP (sD (sW B c k (aW B c k - tv B c k)) c k (mo B c k)) = aP A := eP
    have eK2 : aK (sD (sW B c k (aW B c k - tv B c k)) c k (mo B c k)) = aK A := eK
    unfold tu ho
    rw [eP2, eK2]
    by_cases h1 : k + 1 < aP A c
    · rw [if_pos h1]
      refine ⟨fun x y => ?_, fun x => ?_⟩
      · show (if x = c ∧ y = k + 1 then (if c = c ∧ k + 1 = k then aW B c k - tv B c k else aW B c (k + 1)) + ov B c k else (if x = c ∧ y = k then aW B c k - tv B c k else aW B x y)) = _
        by_cases ex : x = c
        · subst ex
          rw [if_pos rfl]
          by_cases h2 : y = k + 1
          · subst h2
            rw [if_pos ⟨rfl, rfl⟩, if_neg (by omega), hW, if_pos rfl, if_pos (by omega), if_neg (by omega), if_pos (by omega), if_pos (by omega), eo, Int32.add_zero, Nat.add_sub_cancel]
          · rw [if_neg (by omega)]
            by_cases h3 : y = k
            · subst h3
              rw [if_pos ⟨rfl, rfl⟩, if_pos (by omega), if_neg (by omega), et, w0, Int32.add_zero]
            · rw [if_neg (by omega), hW, if_pos rfl]
              by_cases h4 : k + 1 ≤ y ∧ y < aP A x
              · rw [if_pos h4, if_pos (by omega), if_pos (by omega), if_pos (by omega)]
              · rw [if_neg h4, if_neg (by omega)]
        · rw [if_neg (by omega), if_neg (by omega), if_neg ex, hW, if_neg ex]
          by_cases h4 : x = c + 1 ∧ y = 0 ∧ k + 1 < aP A c ∧ aK A c = true
          · rw [if_pos h4, if_pos ⟨h4.1, h4.2.1, by omega, h4.2.2.2⟩]
          · rw [if_neg h4, if_neg (fun h5 => h4 ⟨h5.1, h5.2.1, h1, h5.2.2.2⟩)]
      · show aS B x = _
        rw [hS]
        by_cases h4 : x = c ∧ k + 1 < aP A c ∧ ¬ aK A c = true
        · rw [if_pos h4, if_pos ⟨h4.1, by omega, h4.2.2⟩]
        · rw [if_neg h4, if_neg (fun h5 => h4 ⟨h5.1, h1, h5.2.2⟩)]
    · rw [if_neg h1]
      have ek : aP A c - 1 = k := by omega
      rw [ek]
      have hw : ∀ x y, x = c → (if x = c ∧ y = k then aW B c k - tv B c k else aW B x y) = (if k ≤ y ∧ y < aP A c then aW A c y - tv A c y + (if k < y then ov A c (y - 1) else 0) else aW A c y) := by
        intro x y ex
        subst ex
        by_cases h3 : y = k
        · subst h3
          rw [if_pos ⟨rfl, rfl⟩, if_pos (by omega), if_neg (by omega), et, w0, Int32.add_zero]
        · rw [if_neg (by omega), hW, if_pos rfl, if_neg (by omega), if_neg (by omega)]
      by_cases hK : aK A c = true
      · rw [if_pos hK]
        refine ⟨fun x y => ?_, fun x => ?_⟩
        · show (if x = c + 1 ∧ y = 0 then (if c + 1 = c ∧ 0 = k then aW B c k - tv B c k else aW B (c + 1) 0) + ov B c k else (if x = c ∧ y = k then aW B c k - tv B c k else aW B x y)) = _
          by_cases ex : x = c
          · rw [if_neg (by omega), if_pos ex]
            exact hw x y ex
          · rw [if_neg ex]
            by_cases h4 : x = c + 1 ∧ y = 0
            · rw [if_pos h4, if_neg (by omega), if_pos ⟨h4.1, h4.2, hk, hK⟩, hW, if_neg (by omega), if_neg (by omega), eo, h4.1, h4.2]
            · rw [if_neg h4, if_neg (by omega), if_neg (fun h5 => h4 ⟨h5.1, h5.2.1⟩), hW, if_neg ex, if_neg (fun h5 => h4 ⟨h5.1, h5.2.1⟩)]
        · show aS B x = _
          rw [hS, if_neg (fun h5 => h5.2.2 hK), if_neg (fun h5 => h5.2.2 hK)]
      · rw [if_neg hK]
        refine ⟨fun x y => ?_, fun x => ?_⟩
        · show (if x = c ∧ y = k then aW B c k - tv B c k else aW B x y) = _
          by_cases ex : x = c
          · rw [if_pos ex]
            exact hw x y ex
          · rw [if_neg ex, if_neg (by omega), if_neg (fun h5 => hK h5.2.2.2), hW, if_neg ex, if_neg (fun h5 => hK h5.2.2.2)]
        · show (if x = c then aS B c + ov B c k else aS B x) = _
          by_cases ex : x = c
          · rw [if_pos ex, if_pos ⟨ex, hk, hK⟩, hS, if_neg (by omega), eo, ex]
          · rw [if_neg ex, if_neg (fun h5 => ex h5.1), hS, if_neg (fun h5 => ex h5.1)]
theorem CBI_all {A : AL} {c : Nat} : ∀ (k : Nat) (B : AL), k ≤ aP A c → CBI A c k B → CBI A c 0 (cbt c k B)
  | 0, _, _, h => h
  | k + 1, B, hk, h => CBI_all k (tu B c k) (by omega) (CBI_s (by omega) h)
theorem CBI_c (A : AL) (c : Nat) : CBI A c 0 (cbt c (aP A c) A) := CBI_all _ A (Nat.le_refl _) (CBI_0 A c)
/-- what comes to a place in a beat of the counters from m on -/
def inn (A : AL) (m x y : Nat) : Int32 :=
  if 0 < y then (if y < aP A x then ov A x (y - 1) else 0) else (if m < x ∧ aK A (x - 1) = true then ov A (x - 1) (aP A (x - 1) - 1) else 0)
def PBI (A : AL) (l m : Nat) (B : AL) : Prop :=
  (B.1 = A.1 ∧ aP B = aP A ∧ aK B = aK A ∧ aX B = aX A)
  ∧ (∀ x y, aD B x y = if m ≤ x ∧ x < l then mo A x y else aD A x y)
  ∧ (∀ x y, aW B x y = if m ≤ x ∧ x < l then aW A x y - tv A x y + inn A m x y else if x = l ∧ y = 0 ∧ m < l ∧ aK A (x - 1) = true then aW A x y + ov A (x - 1) (aP A (x - 1) - 1) else aW A x y)
  ∧ (∀ x, aS B x = if m ≤ x ∧ x < l ∧ ¬ aK A x = true then aS A x + ov A x (aP A x - 1) else aS A x)
theorem PBI_0 (A : AL) (l : Nat) : PBI A l l A := by
  refine ⟨⟨rfl, rfl, rfl, rfl⟩, fun x y => ?_, fun x y => ?_, fun x => ?_⟩
  · rw [if_neg (by omega)]
  · rw [if_neg (by omega), if_neg (by omega)]
  · rw [if_neg (by omega)]
theorem PBI_s {A B : AL} (hO : Ok A) {l c : Nat} (hc : c < l) (hl : l ≤ aC A) (h : PBI A l (c + 1) B) : PBI A l c (cbt c (aP B c) B) := by
  have hI := CBI_c B c
  obtain ⟨⟨e1, eP, eK, eX⟩, hD, hW, hS⟩ := h
  obtain ⟨⟨f1, fP, fK, fX⟩, gD, gW, gS⟩ := hI
  have hP1 : 1 ≤ aP A c := (hO.2.2.2.2.1 c).1 (by omega)
  have w0 : ∀ y, aW B c y = aW A c y := fun y => by rw [hW, if_neg (by omega), if_neg (by omega)]
  have d0 : ∀ y, aD B c y = aD A c y := fun y => by rw [hD, if_neg (by omega)]
  have et : ∀ y, tv B c y = tv A c y := fun y => by
    unfold tv
    rw [tk_eq e1 (w0 y)]
  have eo : ∀ y, ov B c y = ov A c y := fun y => by
    unfold ov
    rw [su_eq e1 (w0 y) (d0 y)]
  have em : ∀ y, mo B c y = mo A c y := fun y => by
    unfold mo
    rw [su_eq e1 (w0 y) (d0 y)]
  rw [eP] at gD gW gS ⊢
  rw [eK] at gW gS
  refine ⟨⟨by rw [← eP, f1, e1], by rw [← eP, fP], by rw [← eK, ← fK, eP], by rw [← eX, ← fX, eP]⟩, fun x y => ?_, fun x y => ?_, fun x => ?_⟩
  · rw [gD]
    by_cases h1 : x = c ∧ 0 ≤ y ∧ y < aP A c
    · rw [if_pos h1, if_pos (by omega), em, h1.1]
    · rw [if_neg h1, hD]
      by_cases h2 : c + 1 ≤ x ∧ x < l
      · rw [if_pos h2, if_pos (by omega)]
      · rw [if_neg h2]
        by_cases h3 : c ≤ x ∧ x < l
        · have ex : x = c := by omega
          rw [if_pos h3, ex]
          exact (mo_0 hO (hO.2.2.2.2.2.2.2.1 c y (by omega)).2).symm
        · rw [if_neg h3]
  · rw [gW]
    by_cases ex : x = c
    · subst ex
      rw [if_pos rfl]
      unfold inn
      by_cases h1 : 0 ≤ y ∧ y < aP A x
      · rw [if_pos h1, if_pos (show x ≤ x ∧ x < l by omega), w0, et]
        by_cases h2 : 0 < y
        · rw [if_pos h2, if_pos h2, if_pos h1.2, eo]
        · rw [if_neg h2, if_neg h2, if_neg (by omega)]
      · have hz := (hO.2.2.2.2.2.2.2.1 x y (by omega)).2
        rw [if_neg h1, if_pos (show x ≤ x ∧ x < l by omega), w0, if_pos (by omega), if_neg (by omega), tv_0 hz, hz]
        decide
    · rw [if_neg ex, hW]
      by_cases h1 : x = c + 1 ∧ y = 0 ∧ 0 < aP A c ∧ aK A c = true
      · rw [if_pos h1, eo]
        by_cases h2 : x < l
        · rw [if_pos (by omega), if_pos (by omega)]
          unfold inn
          rw [if_neg (by omega), if_neg (by omega), if_neg (by omega), if_pos ⟨by omega, by rw [h1.1, Nat.add_sub_cancel]; exact h1.2.2.2⟩, h1.1, Nat.add_sub_cancel, Int32.add_zero]
        · rw [if_neg (by omega), if_neg (by omega), if_neg (by omega), if_pos ⟨by omega, h1.2.1, hc, by rw [h1.1, Nat.add_sub_cancel]; exact h1.2.2.2⟩, h1.1, Nat.add_sub_cancel]
      · rw [if_neg h1]
        by_cases h2 : c + 1 ≤ x ∧ x < l
        · rw [if_pos h2, if_pos (by omega)]
          congr 1
          unfold inn
          by_cases h3 : 0 < y
          · rw [if_pos h3, if_pos h3]
          · rw [if_neg h3, if_neg h3]
            by_cases h4 : c + 1 < x ∧ aK A (x - 1) = true
            · rw [if_pos h4, if_pos ⟨by omega, h4.2⟩]
            · rw [if_neg h4, if_neg (fun h5 => ?_)]
              by_cases h6 : x = c + 1
              · subst h6
                exact h1 ⟨rfl, by omega, by omega, h5.2⟩
              · exact h4 ⟨by omega, h5.2⟩
        · rw [if_neg h2, if_neg (show ¬ (c ≤ x ∧ x < l) by omega)]
          by_cases h3 : x = l ∧ y = 0 ∧ c + 1 < l ∧ aK A (x - 1) = true
          · rw [if_pos h3, if_pos ⟨h3.1, h3.2.1, by omega, h3.2.2.2⟩]
          · rw [if_neg h3, if_neg (fun h5 => ?_)]
            by_cases h6 : x = c + 1
            · subst h6
              exact h1 ⟨rfl, h5.2.1, by omega, h5.2.2.2⟩
            · exact h3 ⟨h5.1, h5.2.1, by omega, h5.2.2.2⟩
  · rw [gS]
    by_cases h1 : x = c ∧ 0 < aP A c ∧ ¬ aK A c = true
    · rw [if_pos h1, if_pos ⟨by omega, by omega, by rw [h1.1]; exact h1.2.2⟩, eo, hS, if_neg (by omega), h1.1]
    · rw [if_neg h1, hS]
      by_cases h2 : c + 1 ≤ x ∧ x < l ∧ ¬ aK A x = true
      · rw [if_pos h2, if_pos ⟨by omega, h2.2⟩]
      · rw [if_neg h2, if_neg (fun h5 => ?_)]
        by_cases h6 : x = c
        · subst h6
          exact h1 ⟨rfl, by omega, h5.2.2⟩
        · exact h2 ⟨by omega, h5.2⟩
theorem PBI_all {A : AL} (hO : Ok A) {f l : Nat} (hl : l ≤ aC A) : ∀ (m : Nat) (B : AL), f + m ≤ l → PBI A l (f + m) B → PBI A l f (pbt f m B)
  | 0, _, _, h => h
  | m + 1, B, hm, h => PBI_all hO hl m _ (by omega) (PBI_s hO (by omega) hl h)
theorem PBI_p {A : AL} (hO : Ok A) {f m : Nat} (hl : f + m ≤ aC A) : PBI A (f + m) f (pbt f m A) := PBI_all hO hl m A (Nat.le_refl _) (PBI_0 A _)

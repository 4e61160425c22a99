/-! What both keep, and how a call is judged. -/
/-- a line that may lie there after k calls -/
def Gd (k : Nat) (A : AL) : Prop := Ok A ∧ aT A ≤ 40 ∧ tot A ≤ 270 + 18 * k ∧ ∀ t, t < aT A → ((aX A t).2.2.2).toInt32.toInt64 = (aX A t).2.2.2
theorem Gd.mono {k k' : Nat} {A : AL} (h : Gd k A) (hk : k ≤ k') : Gd k' A := ⟨h.1, h.2.1, by have := h.2.2.1; omega, h.2.2.2⟩
/-- the text, the line, the remembered lines, which slots are used, the slots -/
abbrev SS : Type := (Nat × (Nat → Nat)) × AL × (Nat × (Nat → AL)) × (Nat → Bool) × (Nat → AL)
def CR (σ : SS) (S : XO) (tx : TS) (hs : HS) (Ls : Nat → LnS) : Prop :=
  (tx.1 = nI σ.1.1 ∧ ∀ j, j < σ.1.1 → tx.2 j = nI (σ.1.2 j)) ∧ RepL (Ls 0) σ.2.1
  ∧ (∃ o, o < 14 ∧ hs = (nI o, nI σ.2.2.1.1) ∧ ∀ i, i < σ.2.2.1.1 → RepL (Ls (4 + (o + i) % 14)) (σ.2.2.1.2 i))
  ∧ (∀ i, i < 2 → S.1 i = (if σ.2.2.2.1 i = true then 1 else 0) ∧ (σ.2.2.2.1 i = true → RepL (Ls (2 + i)) (σ.2.2.2.2 i)))
def RR (σ : SS) (M : MS) : Prop :=
  (M 0 1 = nI σ.1.1 ∧ ∀ j, j < σ.1.1 → M 1 j = nI (σ.1.2 j)) ∧ RepR (M 2) σ.2.1
  ∧ (M 0 2 = nI σ.2.2.1.1 ∧ ∀ i, i < σ.2.2.1.1 → RepR (fun j => M 4 (336 * i + j)) (σ.2.2.1.2 i))
  ∧ (∀ i, i < 2 → M 6 i = (if σ.2.2.2.1 i = true then 1 else 0) ∧ (σ.2.2.2.1 i = true → RepR (fun j => M 5 (336 * i + j)) (σ.2.2.2.2 i)))
def IV (k : Nat) (σ : SS) : Prop := (σ.1.1 ≤ 100 ∧ ∀ j, j < σ.1.1 → σ.1.2 j < 256) ∧ Gd k σ.2.1 ∧ (σ.2.2.1.1 ≤ 14 ∧ ∀ i, i < σ.2.2.1.1 → Gd k (σ.2.2.1.2 i)) ∧ ∀ i, i < 2 → σ.2.2.2.1 i = true → Gd k (σ.2.2.2.2 i)
def Rl (k : Nat) (M : MS) (S : XO) (tx : TS) (hs : HS) (Ls : Nat → LnS) : Prop := ∃ σ : SS, CR σ S tx hs Ls ∧ RR σ M ∧ IV k σ
theorem IV.mono {k k' : Nat} {σ : SS} (h : IV k σ) (hk : k ≤ k') : IV k' σ :=
  ⟨h.1, h.2.1.mono hk, ⟨h.2.2.1.1, fun i hi => (h.2.2.1.2 i hi).mono hk⟩, fun i hi hb => (h.2.2.2 i hi hb).mono hk⟩
theorem CR.mild {σ : SS} {S S' : XO} {tx : TS} {hs : HS} {Ls Ls' : Nat → LnS} (h : CR σ S tx hs Ls) (hL : ∀ i, i ≠ 1 → Ls' i = Ls i) (hS : S'.1 = S.1) : CR σ S' tx hs Ls' := by
  obtain ⟨h1, h2, ⟨o, ho, h3, h4⟩, h5⟩ := h
  refine ⟨h1, ?_, ⟨o, ho, h3, fun i hi => ?_⟩, fun i hi => ?_⟩
  · rw [hL 0 (by decide)]
    exact h2
  · rw [hL _ (by omega)]
    exact h4 i hi
  · rw [hS, hL _ (by omega)]
    exact h5 i hi
theorem RR.mild {σ : SS} {M M' : MS} (h : RR σ M) (hM : ∀ j, j ≠ 0 → j ≠ 3 → j ≠ 7 → j ≠ 8 → M' j = M j) (h1 : M' 0 1 = M 0 1) (h2 : M' 0 2 = M 0 2) : RR σ M' := by
  refine ⟨?_, ?_, ?_, ?_⟩
  · rw [h1, hM 1 (by decide) (by decide) (by decide) (by decide)]
    exact h.1
  · rw [hM 2 (by decide) (by decide) (by decide) (by decide)]
    exact h.2.1
  · rw [h2, hM 4 (by decide) (by decide) (by decide) (by decide)]
    exact h.2.2.1
  · rw [hM 5 (by decide) (by decide) (by decide) (by decide), hM 6 (by decide) (by decide) (by decide) (by decide)]
    exact h.2.2.2
theorem RR.ref {σ : SS} {M : MS} (h : RR σ M) (e : Int32) : RR σ (zs2 M 0 0 e) := h
theorem CR.now {t : Nat × (Nat → Nat)} {A B : AL} {hh : Nat × (Nat → AL)} {b : (Nat → Bool) × (Nat → AL)} {S : XO} {tx : TS} {hs : HS} {Ls : Nat → LnS} {L' : LnS} (h : CR (t, A, hh, b) S tx hs Ls) (hL : RepL L' B) : CR (t, B, hh, b) S tx hs (va_up Ls 0 L') := by
  obtain ⟨h1, h2, ⟨o, ho, h3, h4⟩, h5⟩ := h
  refine ⟨h1, ?_, ⟨o, ho, h3, fun i hi => ?_⟩, fun i hi => ?_⟩
  · show RepL (if 0 = 0 then L' else Ls 0) B
    rw [if_pos rfl]
    exact hL
  · show RepL (if 4 + (o + i) % 14 = 0 then L' else Ls (4 + (o + i) % 14)) _
    rw [if_neg (by omega)]
    exact h4 i hi
  · refine ⟨(h5 i hi).1, fun hb => ?_⟩
    show RepL (if 2 + i = 0 then L' else Ls (2 + i)) _
    rw [if_neg (by omega)]
    exact (h5 i hi).2 hb
theorem RR.now {t : Nat × (Nat → Nat)} {A B : AL} {hh : Nat × (Nat → AL)} {b : (Nat → Bool) × (Nat → AL)} {M M' : MS} (h : RR (t, A, hh, b) M) (hR : RepR (M' 2) B) (hM : ∀ j, j ≠ 2 → j ≠ 7 → j ≠ 8 → M' j = M j) : RR (t, B, hh, b) M' := by
  refine ⟨?_, hR, ?_, ?_⟩
  · rw [hM 0 (by decide) (by decide) (by decide), hM 1 (by decide) (by decide) (by decide)]
    exact h.1
  · rw [hM 0 (by decide) (by decide) (by decide), hM 4 (by decide) (by decide) (by decide)]
    exact h.2.2.1
  · rw [hM 5 (by decide) (by decide) (by decide), hM 6 (by decide) (by decide) (by decide)]
    exact h.2.2.2
/-! Tests that are known. -/
theorem t0 {P P' : Prop} (h : P) : ((0 : Int32) = 0 → P) ∧ (¬ (0 : Int32) = 0 → P') := ⟨fun _ => h, fun e => absurd rfl e⟩
theorem t1 {P P' : Prop} (h : P') : ((1 : Int32) = 0 → P) ∧ (¬ (1 : Int32) = 0 → P') := ⟨fun e => absurd e (by decide), fun _ => h⟩
theorem tb {b : Bool} {P P' : Prop} (h0 : ¬ b = true → P) (h1 : b = true → P') : ((if b = true then 1 else 0 : Int32) = 0 → P) ∧ (¬ (if b = true then 1 else 0 : Int32) = 0 → P') := by
  rw [bool_ite]
  exact ⟨h0, fun h => h1 (Classical.not_not.mp h)⟩
theorem tp {p P P' : Prop} (hp : p) (h : P) : (p → P) ∧ (¬ p → P') := ⟨fun _ => h, fun e => absurd hp e⟩
theorem tn {p P P' : Prop} (hp : ¬ p) (h : P') : (p → P) ∧ (¬ p → P') := ⟨fun e => absurd e hp, fun _ => h⟩
theorem ok_rn {M : MS} {Q : Int32 → MS → Prop} (h : Q 0 (zs2 M 0 0 0)) : wp_X4_refused M 0 Q := ⟨fun _ => h, fun e => absurd (by decide) e⟩
theorem ok_ry {M : MS} {e : Int32} {Q : Int32 → MS → Prop} (he : ¬ e ≤ 0) (h : Q 1 (zs2 M 0 0 e)) : wp_X4_refused M e Q := ⟨fun e2 => absurd e2 he, fun _ => h⟩
theorem in_yes {x : Int32} {lo hi : Int64} {l h : Int} {Q : Int32 → Prop} (el : lo.toInt = l) (eh : hi.toInt = h) (hx : l ≤ x.toInt ∧ x.toInt ≤ h) (hQ : Q 1) : wp_X4_in x.toInt64 lo hi Q :=
  ok_in (fun h2 => by rw [Int32.toInt_toInt64, el, eh] at h2; omega) (fun _ => hQ)
theorem in_no {x : Int32} {lo hi : Int64} {l h : Int} {Q : Int32 → Prop} (el : lo.toInt = l) (eh : hi.toInt = h) (hx : x.toInt < l ∨ h < x.toInt) (hQ : Q 0) : wp_X4_in x.toInt64 lo hi Q :=
  ok_in (fun _ => hQ) (fun h2 => by rw [Int32.toInt_toInt64, el, eh] at h2; omega)
theorem rg_yes {x lo hi : Int32} {l h : Int} {Q : Prop} {QX : String → Prop} (el : lo.toInt = l) (eh : hi.toInt = h) (hx : l ≤ x.toInt ∧ x.toInt ≤ h) (hQ : Q) : wp_X3_requireRange x lo hi Q QX := by
  unfold wp_X3_requireRange
  rw [Int32.lt_iff_toInt_lt, Int32.le_iff_toInt_le, el, eh]
  exact tn (by omega) (tp (by omega) hQ)
theorem rg_no {x lo hi : Int32} {l h : Int} {Q : Prop} {QX : String → Prop} (el : lo.toInt = l) (eh : hi.toInt = h) (hx : x.toInt < l ∨ h < x.toInt) (hQ : QX eIAE) : wp_X3_requireRange x lo hi Q QX := by
  unfold wp_X3_requireRange
  rw [Int32.lt_iff_toInt_lt, Int32.le_iff_toInt_le, el, eh]
  by_cases h1 : x.toInt < l
  · exact tp h1 hQ
  · exact tn h1 (tn (by omega) hQ)
theorem nat_of {x : Int32} {b : Nat} (hb : b < 100000) (h0 : 0 ≤ x.toInt) (h1 : x.toInt ≤ b) : ∃ n, n ≤ b ∧ x = nI n ∧ (n : Int) = x.toInt := by
  refine ⟨x.toInt.toNat, by omega, ?_, by omega⟩
  apply Int32.toInt_inj.mp
  rw [i_toInt (by omega)]
  omega
/-- a parameter from l to h, or not -/
theorem rgc (x : Int32) (l h : Nat) (hh : h < 100000) : (∃ n, l ≤ n ∧ n ≤ h ∧ x = nI n ∧ ((l : Int) ≤ x.toInt ∧ x.toInt ≤ h)) ∨ (x.toInt < l ∨ (h : Int) < x.toInt) := by
  by_cases hx : (l : Int) ≤ x.toInt ∧ x.toInt ≤ h
  · obtain ⟨n, h1, h2, h3⟩ := nat_of (x := x) hh (by omega) hx.2
    exact Or.inl ⟨n, by omega, h1, h2, hx⟩
  · exact Or.inr (by omega)
theorem x1 {a : String} {P : Prop} (h : P) : (a = a) ∧ (a = a → P) := ⟨rfl, fun _ => h⟩
theorem x21 {a b : String} {P P' : Prop} (hab : ¬ a = b) (h : P) : (a = a ∨ a = b) ∧ (a = a → P) ∧ (a = b → P') := ⟨Or.inl rfl, fun _ => h, fun e => absurd e hab⟩
theorem x22 {a b : String} {P P' : Prop} (hab : ¬ b = a) (h : P') : (b = a ∨ b = b) ∧ (b = a → P) ∧ (b = b → P') := ⟨Or.inr rfl, fun e => absurd e hab, fun _ => h⟩
theorem nBA : ¬ eIOB = eIAE := by decide
theorem nBS : ¬ eIOB = eISE := by decide
theorem nAB : ¬ eIAE = eIOB := by decide
theorem nAS : ¬ eIAE = eISE := by decide
theorem nSB : ¬ eISE = eIOB := by decide
theorem nSA : ¬ eISE = eIAE := by decide
/-! The judgement. -/
abbrev CT : Type := MS → (Nat → Int64) → XO → TS → HS → (Nat → LnS) → Prop
def JI (C : CT) (r : Int32) (g : Nat → Int64) (S : XO) (tx : TS) (hs : HS) (Ls : Nat → LnS) (r7 : Int32) (u7 : MS) : Prop :=
  wp_X4_thrown u7 (fun (r8 : Int32) => (((r8 = r) → (((r = 0) → ((((lg_cmp (g (0 : Int32).toNatClampNeg) r7.toInt64) = 0) → (C u7 g S tx hs Ls)) ∧ (¬ ((lg_cmp (g (0 : Int32).toNatClampNeg) r7.toInt64) = 0) → (False)))) ∧ (¬ (r = 0) → (C u7 g S tx hs Ls)))) ∧ (¬ (r8 = r) → (False))))
def JL (C : CT) (r : Int32) (g : Nat → Int64) (S : XO) (tx : TS) (hs : HS) (Ls : Nat → LnS) (r7 : Int64) (u7 : MS) : Prop :=
  wp_X4_thrown u7 (fun (r8 : Int32) => (((r8 = r) → (((r = 0) → ((((lg_cmp (g (0 : Int32).toNatClampNeg) r7) = 0) → (C u7 g S tx hs Ls)) ∧ (¬ ((lg_cmp (g (0 : Int32).toNatClampNeg) r7) = 0) → (False)))) ∧ (¬ (r = 0) → (C u7 g S tx hs Ls)))) ∧ (¬ (r8 = r) → (False))))
def NX (k : Nat) (C : CT) : Prop := ∀ M g S tx hs Ls, Rl (k + 1) M S tx hs Ls → C M g S tx hs Ls
theorem NX.go {k : Nat} {C : CT} (hC : NX k C) {σ : SS} {M : MS} {g : Nat → Int64} {S : XO} {tx : TS} {hs : HS} {Ls : Nat → LnS} (h1 : CR σ S tx hs Ls) (h2 : RR σ M) (h3 : IV k σ) : C M g S tx hs Ls := hC M g S tx hs Ls ⟨σ, h1, h2, h3.mono (Nat.le_succ k)⟩
theorem NX.go1 {k : Nat} {C : CT} (hC : NX k C) {σ : SS} {M : MS} {g : Nat → Int64} {S : XO} {tx : TS} {hs : HS} {Ls : Nat → LnS} (h1 : CR σ S tx hs Ls) (h2 : RR σ M) (h3 : IV (k + 1) σ) : C M g S tx hs Ls := hC M g S tx hs Ls ⟨σ, h1, h2, h3⟩
theorem fin_ok {C : CT} {g : Nat → Int64} {S : XO} {tx : TS} {hs : HS} {Ls : Nat → LnS} {r r7 : Int32} {u7 : MS} (h0 : u7 0 0 = 0) (hr : r = r7) (hC : C u7 (vp_updL g (0 : Int32).toNatClampNeg r.toInt64) S tx hs Ls) : JI C 0 (vp_updL g (0 : Int32).toNatClampNeg r.toInt64) S tx hs Ls r7 u7 := by
  subst hr
  refine tp h0 (t0 (tp ?_ hC))
  rw [lc_eq]
  rw [show vp_updL g (0 : Int32).toNatClampNeg r.toInt64 (0 : Int32).toNatClampNeg = r.toInt64 from if_pos rfl]
theorem fin_okL {C : CT} {g : Nat → Int64} {S : XO} {tx : TS} {hs : HS} {Ls : Nat → LnS} {r r7 : Int64} {u7 : MS} (h0 : u7 0 0 = 0) (hr : r = r7) (hC : C u7 (vp_updL g (0 : Int32).toNatClampNeg r) S tx hs Ls) : JL C 0 (vp_updL g (0 : Int32).toNatClampNeg r) S tx hs Ls r7 u7 := by
  subst hr
  refine tp h0 (t0 (tp ?_ hC))
  rw [lc_eq]
  rw [show vp_updL g (0 : Int32).toNatClampNeg r (0 : Int32).toNatClampNeg = r from if_pos rfl]
theorem n1 : ¬ (1 : Int32) = 0 := by decide
theorem n2 : ¬ (2 : Int32) = 0 := by decide
theorem n3 : ¬ (3 : Int32) = 0 := by decide
theorem fin_ex {C : CT} {g : Nat → Int64} {S : XO} {tx : TS} {hs : HS} {Ls : Nat → LnS} {e r7 : Int32} {u7 : MS} (he : ¬ e = 0) (h0 : u7 0 0 = e) (hC : C u7 g S tx hs Ls) : JI C e g S tx hs Ls r7 u7 := tp h0 (tn he hC)
theorem fin_exL {C : CT} {g : Nat → Int64} {S : XO} {tx : TS} {hs : HS} {Ls : Nat → LnS} {e : Int32} {r7 : Int64} {u7 : MS} (he : ¬ e = 0) (h0 : u7 0 0 = e) (hC : C u7 g S tx hs Ls) : JL C e g S tx hs Ls r7 u7 := tp h0 (tn he hC)
theorem sim_shown {k : Nat} {M : MS} {S : XO} {tx : TS} {hs : HS} {Ls : Nat → LnS} (h : Rl k M S tx hs Ls) {f : Nat → Int64} {x : Int32} {C : CT} {P : Int32 → (Nat → Int64) → XO → TS → HS → (Nat → LnS) → Prop} (hC : NX k C) (hP : ∀ r g S' tx' hs' Ls', wp_X4_shown M x (JI C r g S' tx' hs' Ls') → P r g S' tx' hs' Ls') : wp_L_shown f S tx hs Ls x P := by
  obtain ⟨σ, hc, hr, hi⟩ := h
  have hO := hi.2.1.1
  unfold wp_L_shown wp_X3_shown wp_X3_requireCounter
  rcases ctr x hO with hx | ⟨c, hcc, rfl⟩
  · refine ok_hasCounter_out hc.2.1 hO hx (t0 (x1 (hP _ _ _ _ _ _ ?_)))
    exact ok_isCounter_out hr.2.1 hO hx (t0 (ok_ry (by decide) (t1 (fin_ex n1 rfl (hC.go hc (hr.ref _) hi)))))
  · refine ok_hasCounter_in hc.2.1 hO hcc ?_
    refine t1 (ok_reading hc.2.1 hO (hO.c6 hcc) (hP _ _ _ _ _ _ ?_))
    refine ok_isCounter_in hr.2.1 hO hcc ?_
    exact t1 (ok_rn (t0 (ok_shownOn hr.2.1 hO (hO.c6 hcc) (fin_ok rfl rfl (hC.go hc (hr.ref _) hi)))))
theorem sim_worth {k : Nat} {M : MS} {S : XO} {tx : TS} {hs : HS} {Ls : Nat → LnS} (h : Rl k M S tx hs Ls) {f : Nat → Int64} {x : Int32} {C : CT} {P : Int32 → (Nat → Int64) → XO → TS → HS → (Nat → LnS) → Prop} (hC : NX k C) (hP : ∀ r g S' tx' hs' Ls', wp_X4_worth M x (JL C r g S' tx' hs' Ls') → P r g S' tx' hs' Ls') : wp_L_worth f S tx hs Ls x P := by
  obtain ⟨σ, hc, hr, hi⟩ := h
  have hO := hi.2.1.1
  unfold wp_L_worth wp_X3_worth wp_X3_requireCounter
  rcases ctr x hO with hx | ⟨c, hcc, rfl⟩
  · refine ok_hasCounter_out hc.2.1 hO hx (t0 (x1 (hP _ _ _ _ _ _ ?_)))
    exact ok_isCounter_out hr.2.1 hO hx (t0 (ok_ry (by decide) (t1 (fin_exL n1 rfl (hC.go hc (hr.ref _) hi)))))
  · refine ok_hasCounter_in hc.2.1 hO hcc ?_
    refine t1 (ok_fullReading hc.2.1 hO (hO.c6 hcc) (hP _ _ _ _ _ _ ?_))
    refine ok_isCounter_in hr.2.1 hO hcc ?_
    exact t1 (ok_rn (t0 (ok_worthOn hr.2.1 hO (hO.c6 hcc) (fin_okL rfl rfl (hC.go hc (hr.ref _) hi)))))

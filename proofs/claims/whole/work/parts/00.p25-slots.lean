/-! Back to what was; the slots; the text. -/
theorem rqS_no {x : Int32} {Q : Prop} {QX : String → Prop} (hx : x.toInt < 0 ∨ 1 < x.toInt) (h : QX eIOB) : wp_X3_requireSlot x Q QX := by
  have e0 : (0 : Int32).toInt = 0 := by decide
  have e2 : (2 : Int32).toInt = 2 := by decide
  unfold wp_X3_requireSlot
  rw [Int32.lt_iff_toInt_lt, Int32.lt_iff_toInt_lt, e0, e2]
  by_cases h0 : x.toInt < 0
  · exact tp h0 h
  · exact tn h0 (tn (by omega) h)
theorem rqS_yes {x : Int32} {Q : Prop} {QX : String → Prop} (hx : 0 ≤ x.toInt ∧ x.toInt ≤ 1) (h : Q) : wp_X3_requireSlot x Q QX := by
  have e0 : (0 : Int32).toInt = 0 := by decide
  have e2 : (2 : Int32).toInt = 2 := by decide
  unfold wp_X3_requireSlot
  rw [Int32.lt_iff_toInt_lt, Int32.lt_iff_toInt_lt, e0, e2]
  exact tn (by omega) (tp (by omega) h)
theorem sim_undo {k : Nat} {M : MS} {S : XO} {tx : TS} {hs : HS} {Ls : Nat → LnS} (h : Rl k M S tx hs Ls) {f : Nat → Int64}  {C : CT} {P : Int32 → (Nat → Int64) → XO → TS → HS → (Nat → LnS) → Prop} (hC : NX k C) (hP : ∀ r g S' tx' hs' Ls', wp_X4_undo M  (JI C r g S' tx' hs' Ls') → P r g S' tx' hs' Ls') : wp_L_undo f S tx hs Ls  P := by
  obtain ⟨σ, hc, hr, hi⟩ := h
  have hO := hi.2.1.1
  unfold wp_L_undo wp_X3_undo
  obtain ⟨t, A, ⟨hc0, H⟩, b⟩ := σ
  obtain ⟨g1, g2, ⟨o, ho, g3, g4⟩, g5⟩ := hc
  obtain ⟨r1, r2, ⟨r3, r4⟩, r5⟩ := hr
  have hc : CR (t, A, (hc0, H), b) S tx hs Ls := ⟨g1, g2, ⟨o, ho, g3, g4⟩, g5⟩
  have hr : RR (t, A, (hc0, H), b) M := ⟨r1, r2, ⟨r3, r4⟩, r5⟩
  have h14 : hc0 ≤ 14 := hi.2.2.1.1
  have g3' : hs = (nI o, nI hc0) := g3
  have r3' : M 0 2 = nI hc0 := r3
  have r4' : ∀ i, i < hc0 → RepR (fun j => M 4 (336 * i + j)) (H i) := r4
  have g4' : ∀ i, i < hc0 → RepL (Ls (4 + (o + i) % 14)) (H i) := g4
  have hH : ∀ i, i < hc0 → Gd k (H i) := hi.2.2.1.2
  subst g3'
  unfold wp_X4_undo at hP
  rw [r3'] at hP
  simp only [] at hP ⊢
  rw [show ((nI hc0 : Int32) = 0) ↔ hc0 = 0 from i_eq (b := 0) (by omega) (by omega)] at hP ⊢
  refine ⟨fun e => ⟨trivial, fun _ => hP _ _ _ _ _ _ (tp e (ok_ry (by decide) (t1 (fin_ex n1 rfl (hC.go hc (hr.ref _) hi)))))⟩, fun e => ?_⟩
  obtain ⟨q, rfl⟩ : ∃ q, hc0 = q + 1 := ⟨hc0 - 1, by omega⟩
  unfold wp_X0_takeBack
  simp only []
  refine tn (fun h => ?_) ?_
  · have := (i_le (b := 0) (by omega) (by omega)).mp h
    omega
  rw [i_s1, nI_add, show (14 : Int32) = nI 14 from rfl, pk_rem (by omega) (by decide) (by decide), i_cl (by omega)]
  refine ⟨i_in (by omega) (by decide), ok_copyFrom (g4' q (by omega)) (hH q (by omega)).1 (fun L' hL' => hP _ _ _ _ _ _ (tn e (ok_rn (t0 ?_))))⟩
  rw [show zs2 M 0 0 0 0 2 = nI (q + 1) from r3', i_s1, show (336 : Int32) = nI 336 from rfl, pk_mul, show (0 : Int32) = nI 0 from rfl]
  refine ok_copyLine (a := 336 * q) (b := 0) (by omega) (by omega) (by omega) (by omega) (fun G h6 h7 => ?_)
  refine fin_ok rfl rfl (hC.go1 (σ := (t, H q, (q, H), b)) ?_ ?_ ?_)
  · refine ⟨g1, ?_, ⟨o, ho, rfl, fun i hi2 => ?_⟩, fun i hi2 => ⟨(g5 i hi2).1, fun hb => ?_⟩⟩
    · show RepL (if 0 = 0 then L' else Ls 0) (H q)
      rw [if_pos rfl]
      exact hL'
    · show RepL (if 4 + (o + i) % 14 = 0 then L' else Ls (4 + (o + i) % 14)) (H i)
      rw [if_neg (by omega)]
      have hi3 : i < q := hi2
      exact g4' i (by omega)
    · show RepL (if 2 + i = 0 then L' else Ls (2 + i)) _
      rw [if_neg (by omega)]
      exact (g5 i hi2).2 hb
  · refine ⟨r1, ?_, ⟨?_, fun i hi2 => ?_⟩, r5⟩
    · show RepR G (H q)
      refine rr_cong (r4' q (by omega)) (hH q (by omega)).1.2.2.1 (fun j hj => ?_)
      have := h6 j hj
      rw [Nat.zero_add] at this
      exact this
    · show upd (upd (M 0) 0 0) 2 (nI q) 2 = nI q
      exact pk_us
    · have hi3 : i < q := hi2
      exact r4' i (by omega)
  · exact ⟨hi.1, (hH q (by omega)).mono (Nat.le_succ k), ⟨by show q ≤ 14; omega, fun i hi2 => (hH i (by have hi3 : i < q := hi2; omega)).mono (Nat.le_succ k)⟩, fun i hi2 hb => (hi.2.2.2 i hi2 hb).mono (Nat.le_succ k)⟩
theorem sim_save {k : Nat} {M : MS} {S : XO} {tx : TS} {hs : HS} {Ls : Nat → LnS} (h : Rl k M S tx hs Ls) {f : Nat → Int64} {x : Int32} {C : CT} {P : Int32 → (Nat → Int64) → XO → TS → HS → (Nat → LnS) → Prop} (hC : NX k C) (hP : ∀ r g S' tx' hs' Ls', wp_X4_save M x (JI C r g S' tx' hs' Ls') → P r g S' tx' hs' Ls') : wp_L_save f S tx hs Ls x P := by
  obtain ⟨σ, hc, hr, hi⟩ := h
  have hO := hi.2.1.1
  unfold wp_L_save wp_X3_save
  obtain ⟨t, A, hh, ⟨b, K⟩⟩ := σ
  have hO : Ok A := hO
  have hL : RepL (Ls 0) A := hc.2.1
  have hRr : RepR (M 2) A := hr.2.1
  rcases rgc x 0 1 (by decide) with ⟨n, -, hn, rfl, hx⟩ | hx
  · have v2 : vp_in (nI n) 2 := i_in (by omega) (by decide)
    refine rqS_yes hx ⟨v2, ok_copyFrom hL hO (fun L' hL' => ⟨v2, hP _ _ _ _ _ _ ?_⟩)⟩
    refine in_yes (l := 0) (h := 1) (by decide) (by decide) hx (t1 (ok_rn (t0 ?_)))
    rw [show (336 : Int32) = nI 336 from rfl, pk_mul, show (0 : Int32) = nI 0 from rfl]
    refine ok_copyLine (a := 0) (b := 336 * n) (by omega) (by omega) (by omega) (by omega) (fun G h6 h7 => ?_)
    intro M6 hM6
    subst hM6
    refine ⟨v2, ?_⟩
    rw [i_cl (n := n) (by omega), nar1, z2]
    refine fin_ok rfl ?_ (hC.go1 (σ := (t, A, hh, (va_up b n true, va_up K n A))) ?_ ?_ ?_)
    · show (if 0 = 2 + n then L' else Ls 0).1 0 2 = M 2 2
      rw [if_neg (by omega)]
      exact hL.1.2.2.1.trans hRr.1.2.2.1.symm
    · obtain ⟨g1, g2, ⟨o, ho, g3, g4⟩, g5⟩ := hc
      refine ⟨g1, ?_, ⟨o, ho, g3, fun i hi2 => ?_⟩, fun i hi2 => ?_⟩
      · show RepL (if 0 = 2 + n then L' else Ls 0) A
        rw [if_neg (by omega)]
        exact hL
      · show RepL (if 4 + (o + i) % 14 = 2 + n then L' else Ls (4 + (o + i) % 14)) _
        rw [if_neg (by omega)]
        exact g4 i hi2
      · show upd S.1 n 1 i = (if (if i = n then true else b i) = true then 1 else 0) ∧ ((if i = n then true else b i) = true → RepL (if 2 + i = 2 + n then L' else Ls (2 + i)) (if i = n then A else K i))
        by_cases e : i = n
        · rw [e, if_pos rfl, if_pos rfl, if_pos rfl, if_pos rfl]
          exact ⟨pk_us, fun _ => hL'⟩
        · rw [if_neg e, if_neg e, if_neg (show ¬ 2 + i = 2 + n by omega), pk_un e]
          exact g5 i hi2
    · obtain ⟨r1, r2, ⟨r3, r4⟩, r5⟩ := hr
      refine ⟨r1, r2, ⟨r3, r4⟩, fun i hi2 => ?_⟩
      show upd (M 6) n 1 i = (if (if i = n then true else b i) = true then 1 else 0) ∧ ((if i = n then true else b i) = true → RepR (fun j => G (336 * i + j)) (if i = n then A else K i))
      by_cases e : i = n
      · rw [e, if_pos rfl, if_pos rfl, if_pos rfl]
        refine ⟨pk_us, fun _ => rr_cong hRr hO.2.2.1 (fun j hj => ?_)⟩
        have := h6 j hj
        rw [Nat.zero_add] at this
        exact this
      · rw [if_neg e, if_neg e, pk_un e]
        refine ⟨(r5 i hi2).1, fun hb => ?_⟩
        have r6 := (r5 i hi2).2 hb
        refine rr_cong r6 (hi.2.2.2 i hi2 hb).1.2.2.1 (fun j hj => ?_)
        show G (336 * i + j) = M 5 (336 * i + j)
        exact h7 _ (by omega)
    · have hi1 := hi.mono (Nat.le_succ k)
      refine ⟨hi1.1, hi1.2.1, hi1.2.2.1, fun i hi2 => ?_⟩
      show (if i = n then true else b i) = true → Gd (k + 1) (if i = n then A else K i)
      by_cases e : i = n
      · rw [if_pos e, if_pos e]
        exact fun _ => hi1.2.1
      · rw [if_neg e, if_neg e]
        exact hi1.2.2.2 i hi2
  · refine rqS_no hx (x1 (hP _ _ _ _ _ _ ?_))
    exact in_no (l := 0) (h := 1) (by decide) (by decide) hx (t0 (ok_ry (by decide) (t1 (fin_ex n1 rfl (hC.go hc (hr.ref _) hi)))))
theorem sim_restore {k : Nat} {M : MS} {S : XO} {tx : TS} {hs : HS} {Ls : Nat → LnS} (h : Rl k M S tx hs Ls) {f : Nat → Int64} {x : Int32} {C : CT} {P : Int32 → (Nat → Int64) → XO → TS → HS → (Nat → LnS) → Prop} (hC : NX k C) (hP : ∀ r g S' tx' hs' Ls', wp_X4_restore M x (JI C r g S' tx' hs' Ls') → P r g S' tx' hs' Ls') : wp_L_restore f S tx hs Ls x P := by
  obtain ⟨σ, hc, hr, hi⟩ := h
  have hO := hi.2.1.1
  unfold wp_L_restore wp_X3_restore
  obtain ⟨t, A, hh, ⟨b, K⟩⟩ := σ
  rcases rgc x 0 1 (by decide) with ⟨n, -, hn, rfl, hx⟩ | hx
  · have v2 : vp_in (nI n) 2 := i_in (by omega) (by decide)
    have hn2 : n < 2 := by omega
    have g5 := hc.2.2.2 n hn2
    have r5 := hr.2.2.2 n hn2
    have g51 : S.1 n = if b n = true then 1 else 0 := g5.1
    have r51 : M 6 n = if b n = true then 1 else 0 := r5.1
    refine rqS_yes hx ⟨v2, ?_⟩
    have rf : ∀ {Q : Int32 → MS → Prop}, (¬ b n = true → Q 0 (zs2 M 0 0 2)) → (b n = true → ∀ G, RepR G (K n) → Q (G 2) (zs2 (zr2 (zs2 M 0 0 0) 2 G) 0 2 0)) → wp_X4_restore M (nI n) Q := by
      intro Q h2 h0
      refine in_yes (l := 0) (h := 1) (by decide) (by decide) hx (t1 ⟨v2, ?_⟩)
      rw [i_cl (by omega), r51]
      refine tb (fun hb => ok_ry (by decide) (t1 (h2 hb))) (fun hb => ok_rn (t0 ?_))
      rw [show (336 : Int32) = nI 336 from rfl, pk_mul, show (0 : Int32) = nI 0 from rfl]
      refine ok_copyLine (a := 336 * n) (b := 0) (by omega) (by omega) (by omega) (by omega) (fun G h6 h7 => ?_)
      rw [z2]
      refine h0 hb G (rr_cong (r5.2 hb) (hi.2.2.2 n hn2 hb).1.2.2.1 (fun j hj => ?_))
      have := h6 j hj
      rw [Nat.zero_add] at this
      exact this
    rw [i_cl (by omega), g51]
    refine tb (fun hb => x22 nSB (hP _ _ _ _ _ _ ?_)) (fun hb => ⟨v2, ?_⟩)
    · exact rf (fun _ => fin_ex n2 rfl (hC.go hc (hr.ref _) hi)) (fun h => absurd h hb)
    · have gk : Gd k (K n) := hi.2.2.2 n hn2 hb
      have lk : RepL (Ls (2 + n)) (K n) := g5.2 hb
      refine ok_copyFrom lk gk.1 (fun L' hL' => hP _ _ _ _ _ _ ?_)
      refine rf (fun h => absurd hb h) (fun _ G hG => ?_)
      refine fin_ok rfl (hL'.1.2.2.1.trans hG.1.2.2.1.symm) (hC.go1 (σ := (t, K n, (0, hh.2), (b, K))) ?_ ?_ ?_)
      · obtain ⟨g1, g2, ⟨o, ho, g3, g4⟩, g5⟩ := hc
        refine ⟨g1, ?_, ⟨o, ho, ?_, fun i hi2 => absurd hi2 (Nat.not_lt_zero i)⟩, fun i hi2 => ⟨(g5 i hi2).1, fun hb2 => ?_⟩⟩
        · show RepL (if 0 = 0 then L' else Ls 0) (K n)
          rw [if_pos rfl]
          exact hL'
        · rw [g3]
          rfl
        · show RepL (if 2 + i = 0 then L' else Ls (2 + i)) _
          rw [if_neg (by omega)]
          exact (g5 i hi2).2 hb2
      · obtain ⟨r1, r2, ⟨r3, r4⟩, r5⟩ := hr
        exact ⟨r1, hG, ⟨rfl, fun i hi2 => absurd hi2 (Nat.not_lt_zero i)⟩, r5⟩
      · have hi1 := hi.mono (Nat.le_succ k)
        exact ⟨hi1.1, gk.mono (Nat.le_succ k), ⟨Nat.zero_le _, fun i hi2 => absurd hi2 (Nat.not_lt_zero i)⟩, hi1.2.2.2⟩
  · refine rqS_no hx (x21 nBS (hP _ _ _ _ _ _ ?_))
    exact in_no (l := 0) (h := 1) (by decide) (by decide) hx (t0 (ok_ry (by decide) (t1 (fin_ex n1 rfl (hC.go hc (hr.ref _) hi)))))
theorem nar_c : ∀ v : Fin 256, vp_nar .char (((nI v.1).toUInt32 % 65536).toInt32) = nI v.1 := by decide +kernel
theorem sim_append {k : Nat} {M : MS} {S : XO} {tx : TS} {hs : HS} {Ls : Nat → LnS} (h : Rl k M S tx hs Ls) {f : Nat → Int64} {x : Int32} {C : CT} {P : Int32 → (Nat → Int64) → XO → TS → HS → (Nat → LnS) → Prop} (hC : NX k C) (hP : ∀ r g S' tx' hs' Ls', wp_X4_append M x (JI C r g S' tx' hs' Ls') → P r g S' tx' hs' Ls') : wp_L_append f S tx hs Ls x P := by
  obtain ⟨σ, hc, hr, hi⟩ := h
  have hO := hi.2.1.1
  unfold wp_L_append wp_X3_append
  obtain ⟨⟨m, s⟩, rest⟩ := σ
  obtain ⟨⟨g1, g2⟩, g3⟩ := hc
  obtain ⟨⟨r1, r2⟩, r3⟩ := hr
  have hm : m ≤ 100 := hi.1.1
  have g1' : tx.1 = nI m := g1
  have r1' : M 0 1 = nI m := r1
  have hc : CR ((m, s), rest) S tx hs Ls := ⟨⟨g1, g2⟩, g3⟩
  have hr : RR ((m, s), rest) M := ⟨⟨r1, r2⟩, r3⟩
  rcases rgc x 0 255 (by decide) with ⟨n, -, hn, rfl, hx⟩ | hx
  · refine rg_yes (l := 0) (h := 255) (by decide) (by decide) hx ?_
    have rf : ∀ {Q : Int32 → MS → Prop}, (m = 100 → Q 0 (zs2 M 0 0 2)) → (¬ m = 100 → Q (nI (m + 1)) (zs2 (zr2 (zs2 M 0 0 0) 1 (upd (M 1) m (nI n))) 0 1 (nI (m + 1)))) → wp_X4_append M (nI n) Q := by
      intro Q h2 h0
      refine in_yes (l := 0) (h := 255) (by decide) (by decide) hx (t1 ?_)
      rw [r1', show (100 : Int32) = nI 100 from rfl, i_eq (by omega) (by omega)]
      refine ⟨fun e => ok_ry (by decide) (t1 (h2 e)), fun e => ok_rn (t0 ?_)⟩
      rw [show zs2 M 0 0 0 0 1 = nI m from r1', i_cl (by omega), i_p1]
      exact ⟨i_in (by omega) (by decide), h0 e⟩
    have e100 : (tx.1 < (100 : Int32)) ↔ m < 100 := by rw [g1', show (100 : Int32) = nI 100 from rfl, i_lt (by omega) (by omega)]
    refine ⟨fun hlt => ?_, fun hge => x22 nSA (hP _ _ _ _ _ _ ?_)⟩
    · have hlt := e100.mp hlt
      refine tn (fun h => ?_) ⟨by rw [g1']; exact i_in (by omega) (by decide), hP _ _ _ _ _ _ ?_⟩
      · rw [g1', show (100 : Int32) = nI 100 from rfl, i_le (by omega) (by omega)] at h
        omega
      · have ec := nar_c ⟨n, by omega⟩
        simp only [] at ec
        rw [ec, g1', i_cl (by omega)]
        refine rf (fun h => absurd h (by omega)) (fun _ => ?_)
        have e2 : (txS tx m (nI n)).1 + 1 = nI (m + 1) := by
          show tx.1 + 1 = _
          rw [g1', i_p1]
        rw [e2]
        refine fin_ok rfl rfl (hC.go1 (σ := ((m + 1, va_up s m n), rest)) ?_ ?_ ?_)
        · refine ⟨⟨rfl, fun j hj => ?_⟩, g3⟩
          have hj2 : j < m + 1 := hj
          show upd tx.2 m (nI n) j = nI (if j = m then n else s j)
          by_cases e : j = m
          · rw [if_pos e, e]
            exact pk_us
          · rw [if_neg e, pk_un e]
            exact g2 j (by show j < m; omega)
        · refine ⟨⟨?_, fun j hj => ?_⟩, ?_⟩
          · show upd (upd (M 0) 0 0) 1 (nI (m + 1)) 1 = nI (m + 1)
            exact pk_us
          · have hj2 : j < m + 1 := hj
            show upd (M 1) m (nI n) j = nI (if j = m then n else s j)
            by_cases e : j = m
            · rw [if_pos e, e]
              exact pk_us
            · rw [if_neg e, pk_un e]
              exact r2 j (by show j < m; omega)
          · exact r3
        · have hi1 := hi.mono (Nat.le_succ k)
          refine ⟨⟨by show m + 1 ≤ 100; omega, fun j hj => ?_⟩, hi1.2⟩
          have hj2 : j < m + 1 := hj
          show (if j = m then n else s j) < 256
          by_cases e : j = m
          · rw [if_pos e]
            omega
          · rw [if_neg e]
            exact hi.1.2 j (by show j < m; omega)
    · have hge : ¬ m < 100 := fun h => hge (e100.mpr h)
      exact rf (fun _ => fin_ex n2 rfl (hC.go hc (hr.ref _) hi)) (fun h => absurd (by omega) h)
  · refine rg_no (l := 0) (h := 255) (by decide) (by decide) hx (x21 nAS (hP _ _ _ _ _ _ ?_))
    exact in_no (l := 0) (h := 255) (by decide) (by decide) hx (t0 (ok_ry (by decide) (t1 (fin_ex n1 rfl (hC.go hc (hr.ref _) hi)))))
theorem sim_clearText {k : Nat} {M : MS} {S : XO} {tx : TS} {hs : HS} {Ls : Nat → LnS} (h : Rl k M S tx hs Ls) {f : Nat → Int64} {C : CT} {P : Int32 → XO → TS → HS → (Nat → LnS) → Prop} (hC : NX k C) (hP : ∀ r S' tx' hs' Ls', wp_X4_clearText M (fun r13 u13 => ((r = r13 → C u13 f S' tx' hs' Ls') ∧ (¬ r = r13 → False))) → P r S' tx' hs' Ls') : wp_X3_clearText S tx hs Ls P := by
  obtain ⟨⟨⟨m, s⟩, rest⟩, ⟨⟨g1, g2⟩, g3⟩, ⟨⟨r1, r2⟩, r3⟩, hi⟩ := h
  refine hP _ _ _ _ _ (tp (g1.trans r1.symm) (hC.go1 (σ := ((0, s), rest)) ⟨⟨rfl, fun j hj => absurd hj (Nat.not_lt_zero j)⟩, g3⟩ ⟨⟨?_, fun j hj => absurd hj (Nat.not_lt_zero j)⟩, r3⟩ ?_))
  · show upd (M 0) 1 0 1 = nI 0
    exact pk_us
  · have hi1 := hi.mono (Nat.le_succ k)
    exact ⟨⟨Nat.zero_le _, fun j hj => absurd hj (Nat.not_lt_zero j)⟩, hi1.2⟩

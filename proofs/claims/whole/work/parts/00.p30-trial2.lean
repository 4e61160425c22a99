/-! The least pace, the slowest number, doubles that would be. -/
theorem sm_z {f : Nat → Nat} : ∀ {n : Nat}, sm f n = 0 ↔ ∀ k, k < n → f k = 0
  | 0 => ⟨fun _ k hk => absurd hk (by omega), fun _ => rfl⟩
  | n + 1 => by
    have h2 := sm_z (f := f) (n := n)
    have h3 : sm f (n + 1) = sm f n + f n := rfl
    refine ⟨fun h k hk => ?_, fun h => ?_⟩
    · by_cases e : k = n
      · rw [e]
        omega
      · exact h2.mp (by omega) k (by omega)
    · rw [h3, h2.mpr (fun k hk => h k (by omega)), h n (by omega)]
theorem aI_z (A : AL) : aI A = 0 ↔ aE A = aC A := by
  unfold aI aE
  rw [sm_z, cnt_full]
  refine ⟨fun h k hk => ?_, fun h k hk => ?_⟩
  · simpa using h k hk
  · simpa using h k hk
theorem aI_le {A : AL} (hO : Ok A) : aI A ≤ 54 := by
  have h1 : aI A ≤ aC A * 9 := sm_le (fun k => aQ_le hO k) _
  have h2 := hO.1.2
  omega
/-- all is at rest behind n beats at that pace -/
def gp (A : AL) (n p : Nat) : Prop := aI (bts n (sG A p)) = 0
theorem pickp (P : Nat → Prop) : ∃ res : Int32, (∀ p, 1 ≤ p → p ≤ 9 → P p → (∀ q, 1 ≤ q → q < p → ¬ P q) → res = nI p) ∧ ((∀ p, 1 ≤ p → p ≤ 9 → ¬ P p) → res = -1) := by
  by_cases h : ∃ p, 1 ≤ p ∧ p ≤ 9 ∧ P p
  · obtain ⟨p, h1, h2, h3⟩ := h
    obtain ⟨m, hm, ⟨hm1, hm2⟩, hml⟩ := least (P := fun j => 1 ≤ j ∧ P j) (n := p) ⟨h1, h3⟩
    refine ⟨nI m, fun q q1 q2 q3 q4 => ?_, fun h4 => absurd h3 (h4 p h1 h2)⟩
    have e : q = m := by
      by_cases hlt : q < m
      · exact absurd ⟨q1, q3⟩ (hml q hlt)
      · by_cases hgt : m < q
        · exact absurd hm2 (q4 m hm1 hgt)
        · omega
    rw [e]
  · exact ⟨-1, fun p h1 h2 h3 _ => absurd ⟨p, h1, h2, h3⟩ h, fun _ => rfl⟩
theorem lpc_loop {S : XO} {tx : TS} {hs : HS} {Ls0 : Nat → LnS} {A : AL} (hL : RepL (Ls0 0) A) (hO : Ok A) {N : Nat} (hN : N ≤ 99) {res : Int32} (h1 : ∀ p, 1 ≤ p → p ≤ 9 → gp A N p → (∀ q, 1 ≤ q → q < p → ¬ gp A N q) → res = nI p) (h2 : (∀ p, 1 ≤ p → p ≤ 9 → ¬ gp A N p) → res = -1) {Q : Int32 → XO → TS → HS → (Nat → LnS) → Prop} {QX : String → XO → TS → HS → (Nat → LnS) → Prop} (hQ : ∀ Ls', (∀ i, i ≠ 1 → Ls' i = Ls0 i) → Q res S tx hs Ls') : ∀ (m k n : Nat) (Ls : Nat → LnS), k + m = 10 → 1 ≤ k → m < n → (∀ i, i ≠ 1 → Ls i = Ls0 i) → (∀ q, 1 ≤ q → q < k → ¬ gp A N q) → wl_X3_leastPace_9 (nI N) Q QX n S tx hs Ls (nI k) := by
  intro m
  induction m with
  | zero =>
    intro k n Ls hk hk1 hn hF hb
    obtain ⟨n, rfl, -⟩ := fuel1 hn
    refine ⟨fun _ => ?_, fun h0 => absurd ?_ h0⟩
    · have e := h2 (fun p p1 p2 => hb p p1 (by omega))
      have := hQ Ls hF
      rw [e] at this
      exact this
    · rw [show (9 : Int32) = nI 9 from rfl, i_lt (by omega) (by omega)]
      omega
  | succ m ih =>
    intro k n Ls hk hk1 hn hF hb
    obtain ⟨n, rfl, hn⟩ := fuel1 hn
    refine ⟨fun h0 => ?_, fun _ => ?_⟩
    · rw [show (9 : Int32) = nI 9 from rfl, i_lt (by omega) (by omega)] at h0
      omega
    have hL' : RepL (Ls 0) A := by
      rw [hF 0 (by decide)]
      exact hL
    refine ok_copyFrom hL' hO (fun L3 hL3 => ok_passBeats (rep_G hL3 k) (ok_G hO ⟨hk1, by omega⟩) (by omega) (fun L4 hL4 => ?_))
    have hB := bts_ok N (ok_G hO (g := k) ⟨hk1, by omega⟩)
    refine ok_waitingInAll hL4 hB ?_
    have hF' : ∀ i, i ≠ 1 → va_up Ls 1 L4 i = Ls0 i := fun i hi => (if_neg hi).trans (hF i hi)
    have hle := aI_le hB
    rw [i0 (by omega), i_p1]
    refine ⟨fun e => ?_, fun e => ih (k + 1) n _ (by omega) (by omega) (by omega) hF' (fun q q1 q2 => ?_)⟩
    · rw [← h1 k hk1 (by omega) e hb]
      exact hQ _ hF'
    · by_cases eq : q = k
      · rw [eq]
        exact e
      · exact hb q q1 (by omega)
theorem lpr_loop {M0 : MS} {A : AL} (hR : RepR (M0 2) A) (hO : Ok A) {N : Nat} (hN : N ≤ 99) {res : Int32} (h1 : ∀ p, 1 ≤ p → p ≤ 9 → gp A N p → (∀ q, 1 ≤ q → q < p → ¬ gp A N q) → res = nI p) (h2 : (∀ p, 1 ≤ p → p ≤ 9 → ¬ gp A N p) → res = -1) {Q : Int32 → MS → Prop} (hQ : ∀ M', (∀ j, j ≠ 3 → j ≠ 7 → j ≠ 8 → M' j = M0 j) → Q res M') : ∀ (m k n : Nat) (M : MS), k + m = 10 → 1 ≤ k → m < n → (∀ j, j ≠ 3 → j ≠ 7 → j ≠ 8 → M j = M0 j) → (∀ q, 1 ≤ q → q < k → ¬ gp A N q) → wl_X4_leastPace_28 (nI N) Q n M (nI k) := by
  intro m
  induction m with
  | zero =>
    intro k n M hk hk1 hn hF hb
    obtain ⟨n, rfl, -⟩ := fuel1 hn
    refine ⟨fun _ => ?_, fun h0 => absurd ?_ h0⟩
    · have e := h2 (fun p p1 p2 => hb p p1 (by omega))
      have := hQ M hF
      rw [e] at this
      exact this
    · rw [show (9 : Int32) = nI 9 from rfl, i_lt (by omega) (by omega)]
      omega
  | succ m ih =>
    intro k n M hk hk1 hn hF hb
    obtain ⟨n, rfl, hn⟩ := fuel1 hn
    refine ⟨fun h0 => ?_, fun _ => ?_⟩
    · rw [show (9 : Int32) = nI 9 from rfl, i_lt (by omega) (by omega)] at h0
      omega
    have hR' : RepR (M 2) A := by
      rw [hF 2 (by decide) (by decide) (by decide)]
      exact hR
    refine ok_cp hR' hO.2.2.1 (fun G hG => ?_)
    intro M7 h7
    have hG7 : RepR (M7 3) A := by
      rw [h7]
      exact hG
    rw [z1]
    refine ok_beatsOn_t (M := zr2 M7 3 (upd (M7 3) 1 (nI k))) (A := sG A k) (rr_G hG7 k) (ok_G hO ⟨hk1, by omega⟩) (by omega) (fun M8 hR8 hF8 => ?_)
    have hB := bts_ok N (ok_G hO (g := k) ⟨hk1, by omega⟩)
    have hF' : ∀ j, j ≠ 3 → j ≠ 7 → j ≠ 8 → M8 j = M0 j := fun j j3 j7 j8 => by
      rw [hF8 j j3 j7 j8, h7]
      show (if j = 3 then _ else if j = 3 then _ else M j) = M0 j
      rw [if_neg j3, if_neg j3]
      exact hF j j3 j7 j8
    rw [i_p1]
    refine ok_allSettled hR8 hB (fun e => t1 ?_) (fun e => t0 (ih (k + 1) n _ (by omega) (by omega) (by omega) hF' (fun q q1 q2 => ?_)))
    · rw [← h1 k hk1 (by omega) ((aI_z _).mpr e) hb]
      exact hQ _ hF'
    · by_cases eq : q = k
      · rw [eq]
        exact fun h => e ((aI_z _).mp h)
      · exact hb q q1 (by omega)
theorem RR.tri2 {σ : SS} {M M' : MS} {e : Int32} (h : RR σ M) (hM : ∀ j, j ≠ 3 → j ≠ 7 → j ≠ 8 → M' j = zs2 M 0 0 e j) : RR σ M' ∧ M' 0 0 = e := by
  have e0 : M' 0 = upd (M 0) 0 e := hM 0 (by decide) (by decide) (by decide)
  refine ⟨h.mild (fun j h0 h3 h7 h8 => ?_) ?_ ?_, ?_⟩
  · rw [hM j h3 h7 h8]
    show (if j = 0 then _ else M j) = M j
    rw [if_neg h0]
  · rw [e0, pk_un (by decide)]
  · rw [e0, pk_un (by decide)]
  · rw [e0]
    exact pk_us
theorem sim_leastPace {k : Nat} {M : MS} {S : XO} {tx : TS} {hs : HS} {Ls : Nat → LnS} (h : Rl k M S tx hs Ls) {f : Nat → Int64} {x : Int32} {C : CT} {P : Int32 → (Nat → Int64) → XO → TS → HS → (Nat → LnS) → Prop} (hC : NX k C) (hP : ∀ r g S' tx' hs' Ls', wp_X4_leastPace M x (JI C r g S' tx' hs' Ls') → P r g S' tx' hs' Ls') : wp_L_leastPace f S tx hs Ls x P := by
  obtain ⟨σ, hc, hr, hi⟩ := h
  have hO := hi.2.1.1
  unfold wp_L_leastPace wp_X3_leastPace
  obtain ⟨t, A, hh, b⟩ := σ
  have hO : Ok A := hO
  have hL : RepL (Ls 0) A := hc.2.1
  have hRr : RepR (M 2) A := hr.2.1
  rcases rgc x 0 99 (by decide) with ⟨N, -, hN, rfl, hx⟩ | hx
  · obtain ⟨res, h1, h2⟩ := pickp (gp A N)
    refine rg_yes (l := 0) (h := 99) (by decide) (by decide) hx ⟨10, ?_⟩
    refine lpc_loop hL hO hN h1 h2 (fun Ls' hF => hP _ _ _ _ _ _ ?_) 9 1 10 Ls (by omega) (by omega) (by omega) (fun _ _ => rfl) (fun q q1 q2 => absurd q2 (by omega))
    refine in_yes (l := 0) (h := 99) (by decide) (by decide) hx (t1 (ok_rn (t0 ⟨10, ?_⟩)))
    refine lpr_loop (M0 := zs2 M 0 0 0) hRr hO hN h1 h2 (fun M' hF' => ?_) 9 1 10 _ (by omega) (by omega) (by omega) (fun _ _ _ _ => rfl) (fun q q1 q2 => absurd q2 (by omega))
    have h3 := hr.tri2 hF'
    exact fin_ok h3.2 rfl (hC.go (hc.mild hF rfl) h3.1 hi)
  · refine rg_no (l := 0) (h := 99) (by decide) (by decide) hx (x1 (hP _ _ _ _ _ _ ?_))
    exact in_no (l := 0) (h := 99) (by decide) (by decide) hx (t0 (ok_ry (by decide) (t1 (fin_ex n1 rfl (hC.go hc (hr.ref _) hi)))))
/-- the best number so far, and its beats -/
def slF (g : Nat → Nat) : Nat → Int32 × Int32
  | 0 => (-1, -1)
  | k + 1 => if nI (g (k + 1)) ≤ (slF g k).2 then slF g k else (nI (k + 1), nI (g (k + 1)))
def gsl (A : AL) (c : Nat) (g : Nat → Nat) : Prop := ∀ v, 1 ≤ v → v ≤ 26 → g v < 1000000 ∧ grest (bts (g v) (pd A false c v (aP A c))) (chn (aK A) c) c ∧ ∀ j, j < g v → ¬ grest (bts j (pd A false c v (aP A c))) (chn (aK A) c) c
theorem slc_loop {S : XO} {tx : TS} {hs : HS} {Ls0 : Nat → LnS} {A : AL} (hL : RepL (Ls0 0) A) (hO : Ok A) {c T : Nat} (hc : c < aC A) (hT : T ≤ 26) {g : Nat → Nat} (hg : gsl A c g) {Q : Int32 → XO → TS → HS → (Nat → LnS) → Prop} {QX : String → XO → TS → HS → (Nat → LnS) → Prop} (hQ : ∀ Ls', (∀ i, i ≠ 1 → Ls' i = Ls0 i) → Q (slF g T).1 S tx hs Ls') : ∀ (m k n : Nat) (Ls : Nat → LnS), k + m = T → m < n → (∀ i, i ≠ 1 → Ls i = Ls0 i) → wl_X3_slowest_26 (nI c) (nI T) Q QX n S tx hs Ls (slF g k).1 (slF g k).2 (nI (k + 1)) := by
  have h6 := hO.c6 hc
  intro m
  induction m with
  | zero =>
    intro k n Ls hk hn hF
    obtain ⟨n, rfl, -⟩ := fuel1 hn
    rw [show k = T by omega]
    exact ⟨fun _ => hQ Ls hF, fun h0 => absurd ((i_lt (by omega) (by omega)).mpr (by omega)) h0⟩
  | succ m ih =>
    intro k n Ls hk hn hF
    obtain ⟨n, rfl, hn⟩ := fuel1 hn
    obtain ⟨g1, g2, g3⟩ := hg (k + 1) (by omega) (by omega)
    have hL' : RepL (Ls 0) A := by
      rw [hF 0 (by decide)]
      exact hL
    have hB := pd_ok hO false c (k + 1) (aP A c) (Nat.le_refl _)
    have fr := pd_fr A false c (k + 1) (aP A c)
    have eC : aC (pd A false c (k + 1) (aP A c)) = aC A := congrArg (fun z => z.1) fr.1
    have eK : aK (pd A false c (k + 1) (aP A c)) = aK A := fr.2.2.1
    refine ⟨fun h0 => absurd ((i_lt (by omega) (by omega)).mp h0) (by omega), fun _ => ?_⟩
    refine ok_copyFrom hL' hO (fun L5 hL5 => ok_putDigits (s := false) (a := k + 1) hL5 hO h6 (by omega) (fun L6 hL6 => ?_))
    refine ok_runToRest hL6 hB (N := g (k + 1)) (by rw [eC]; exact hc) g1 (by rw [eK]; exact g3) (by rw [eK]; exact g2) (fun L7 B _ _ _ => ?_)
    have hF' : ∀ i, i ≠ 1 → va_up Ls 1 L7 i = Ls0 i := fun i hi => (if_neg hi).trans (hF i hi)
    rw [i_p1]
    have e := ih (k + 1) n (va_up Ls 1 L7) (by omega) (by omega) hF'
    have es : slF g (k + 1) = if nI (g (k + 1)) ≤ (slF g k).2 then slF g k else (nI (k + 1), nI (g (k + 1))) := rfl
    rw [es] at e
    refine ⟨fun h => ?_, fun h => ?_⟩
    · rw [if_pos h] at e
      exact e
    · rw [if_neg h] at e
      exact e
theorem slr_loop {M0 : MS} {A : AL} (hR : RepR (M0 2) A) (hO : Ok A) {c T : Nat} (hc : c < aC A) (hT : T ≤ 26) {g : Nat → Nat} (hg : gsl A c g) {Q : Int32 → MS → Prop} (hQ : ∀ M', (∀ j, j ≠ 3 → j ≠ 7 → j ≠ 8 → M' j = M0 j) → Q (slF g T).1 M') : ∀ (m k n : Nat) (M : MS), k + m = T → m < n → (∀ j, j ≠ 3 → j ≠ 7 → j ≠ 8 → M j = M0 j) → wl_X4_slowest_75 (nI c) (nI T) Q n M (slF g k).1 (slF g k).2 (nI (k + 1)) := by
  have h6 := hO.c6 hc
  intro m
  induction m with
  | zero =>
    intro k n M hk hn hF
    obtain ⟨n, rfl, -⟩ := fuel1 hn
    rw [show k = T by omega]
    exact ⟨fun _ => hQ M hF, fun h0 => absurd ((i_lt (by omega) (by omega)).mpr (by omega)) h0⟩
  | succ m ih =>
    intro k n M hk hn hF
    obtain ⟨n, rfl, hn⟩ := fuel1 hn
    obtain ⟨g1, g2, g3⟩ := hg (k + 1) (by omega) (by omega)
    have hR' : RepR (M 2) A := by
      rw [hF 2 (by decide) (by decide) (by decide)]
      exact hR
    have hB := pd_ok hO false c (k + 1) (aP A c) (Nat.le_refl _)
    have fr := pd_fr A false c (k + 1) (aP A c)
    have eC : aC (pd A false c (k + 1) (aP A c)) = aC A := congrArg (fun z => z.1) fr.1
    have eK : aK (pd A false c (k + 1) (aP A c)) = aK A := fr.2.2.1
    refine ⟨fun h0 => absurd ((i_lt (by omega) (by omega)).mp h0) (by omega), fun _ => ?_⟩
    refine ok_cp hR' hO.2.2.1 (fun G hG => ok_addOn (s := false) (a := k + 1) hG hO h6 (by omega) (fun r' hr' => ?_))
    refine ok_settles (M := zr2 M 3 r') hr' hB (N := g (k + 1)) (by rw [eC]; exact hc) (by rw [eK]; exact g3) (by rw [eK]; exact g2) (fun M' hR2 hF2 => ?_)
    have hF' : ∀ j, j ≠ 3 → j ≠ 7 → j ≠ 8 → M' j = M0 j := fun j j3 j7 j8 => by
      rw [hF2 j j3 j7 j8]
      show (if j = 3 then _ else M j) = M0 j
      rw [if_neg j3]
      exact hF j j3 j7 j8
    rw [i_p1]
    have e := ih (k + 1) n M' (by omega) (by omega) hF'
    have es : slF g (k + 1) = if nI (g (k + 1)) ≤ (slF g k).2 then slF g k else (nI (k + 1), nI (g (k + 1))) := rfl
    rw [es] at e
    refine ⟨fun h => ?_, fun h => ?_⟩
    · rw [if_pos h] at e
      exact tp h e
    · rw [if_neg h] at e
      exact tn h e
theorem gsl_ex {A : AL} (hO : Ok A) {c : Nat} (hc : c < aC A) (hb : tot A ≤ 17000) : ∃ g, gsl A c g := by
  have h6 := hO.c6 hc
  have h9 := hO.p9 c
  have h : ∀ v, ∃ N, N < 1000000 ∧ grest (bts N (pd A false c v (aP A c))) (chn (aK A) c) c ∧ ∀ j, j < N → ¬ grest (bts j (pd A false c v (aP A c))) (chn (aK A) c) c := by
    intro v
    have hB := pd_ok hO false c v (aP A c) (Nat.le_refl _)
    have fr := pd_fr A false c v (aP A c)
    have eC : aC (pd A false c v (aP A c)) = aC A := congrArg (fun z => z.1) fr.1
    have eK : aK (pd A false c v (aP A c)) = aK A := fr.2.2.1
    have h1 := T9_pd hO false h6 (a := v) (aP A c) h9
    rw [T9_eq hO, T9_eq hB] at h1
    exact rest_ex' hB (chn_le (aK A) c) (by rw [eC]; exact hc) (by rw [eK]; exact chn_s (aK A) c) (by omega)
  exact ⟨fun v => Classical.choose (h v), fun v _ _ => Classical.choose_spec (h v)⟩
theorem sim_slowest {k : Nat} {M : MS} {S : XO} {tx : TS} {hs : HS} {Ls : Nat → LnS} (h : Rl k M S tx hs Ls) {f : Nat → Int64} {x : Int32} {C : CT} {P : Int32 → (Nat → Int64) → XO → TS → HS → (Nat → LnS) → Prop} (hk : k ≤ 900) (hC : NX k C) (hP : ∀ r g S' tx' hs' Ls', wp_X4_slowest M x (JI C r g S' tx' hs' Ls') → P r g S' tx' hs' Ls') : wp_L_slowest f S tx hs Ls x P := by
  obtain ⟨σ, hc, hr, hi⟩ := h
  have hO := hi.2.1.1
  unfold wp_L_slowest wp_X3_slowest
  unfold wp_X3_requireCounter
  obtain ⟨t, A, hh, b⟩ := σ
  have hO : Ok A := hO
  have hL : RepL (Ls 0) A := hc.2.1
  have hRr : RepR (M 2) A := hr.2.1
  rcases ctr x hO with hx | ⟨c, hcc, rfl⟩
  · refine ok_hasCounter_out hL hO hx (t0 (x1 (hP _ _ _ _ _ _ ?_)))
    exact ok_isCounter_out hRr hO hx (t0 (ok_ry (by decide) (t1 (fin_ex n1 rfl (hC.go hc (hr.ref _) hi)))))
  · have hb : tot A ≤ 270 + 18 * k := hi.2.1.2.2.1
    have h6 := hO.c6 hcc
    have h9 := hO.p9 c
    obtain ⟨g, hg⟩ := gsl_ex hO hcc (by omega)
    refine ok_hasCounter_in hL hO hcc ?_
    refine t1 ⟨i_in h6 (by decide), ?_⟩
    rw [i_cl (by omega), hL.2.1 c h6]
    have rf : ∀ {Q : Int32 → MS → Prop} (T : Nat), T ≤ 26 → (T = if aP A c = 1 then 2 else if aP A c = 2 then 8 else 26) → (∀ M', (∀ j, j ≠ 3 → j ≠ 7 → j ≠ 8 → M' j = zs2 M 0 0 0 j) → Q (slF g T).1 M') → wp_X4_slowest M (nI c) Q := by
      intro Q T hT eT hQ
      have go : ∃ n, wl_X4_slowest_75 (nI c) (nI T) Q n (zs2 M 0 0 0) (-1) (-1) 1 := ⟨T + 1, slr_loop (M0 := zs2 M 0 0 0) hRr hO hcc hT hg hQ T 0 (T + 1) _ (by omega) (by omega) (fun _ _ _ _ => rfl)⟩
      refine ok_isCounter_in hRr hO hcc ?_
      refine t1 (ok_rn (t0 (ok_at ?_)))
      rw [ix_z, i_cl (by omega)]
      refine ⟨i_in (by omega) (by decide), ?_⟩
      rw [show zs2 M 0 0 0 2 (4 + 22 * c) = nI (aP A c) from hRr.2.1 c h6, show (1 : Int32) = nI 1 from rfl, i_eq (by omega) (by omega)]
      refine ⟨fun e => ?_, fun e => ok_at ?_⟩
      · rw [if_pos e] at eT
        subst eT
        exact go
      · rw [if_neg e] at eT
        rw [ix_z, i_cl (by omega)]
        refine ⟨i_in (by omega) (by decide), ?_⟩
        rw [show zs2 M 0 0 0 2 (4 + 22 * c) = nI (aP A c) from hRr.2.1 c h6, show (2 : Int32) = nI 2 from rfl, i_eq (by omega) (by omega)]
        refine ⟨fun e2 => ?_, fun e2 => ?_⟩
        · rw [if_pos e2] at eT
          subst eT
          exact go
        · rw [if_neg e2] at eT
          subst eT
          exact go
    have cl : ∀ (T : Nat), T ≤ 26 → (T = if aP A c = 1 then 2 else if aP A c = 2 then 8 else 26) → ∃ n9, wl_X3_slowest_26 (nI c) (nI T) (fun (r1 : Int32) (u1_0 : XO) (u1_1 : TS) (u1_2 : HS) (u1_3 : (Nat → LnS)) => (P (0 : Int32) (vp_updL f (0 : Int32).toNatClampNeg r1.toInt64) u1_0 u1_1 u1_2 u1_3)) (fun (E : String) (u1_0 : XO) (u1_1 : TS) (u1_2 : HS) (u1_3 : (Nat → LnS)) => (E = eIOB) ∧ (E = eIOB → (P (1 : Int32) f u1_0 u1_1 u1_2 u1_3))) n9 S tx hs Ls (-1) (-1) 1 := by
      intro T hT eT
      refine ⟨T + 1, slc_loop hL hO hcc hT hg (fun Ls' hF => hP _ _ _ _ _ _ ?_) T 0 (T + 1) Ls (by omega) (by omega) (fun _ _ => rfl)⟩
      refine rf T hT eT (fun M' hF' => ?_)
      have h3 := hr.tri2 hF'
      exact fin_ok h3.2 rfl (hC.go (hc.mild hF rfl) h3.1 hi)
    unfold wp_X3_greatestToTry
    rw [show (1 : Int32) = nI 1 from rfl, show (2 : Int32) = nI 2 from rfl, i_eq (b := 1) (by omega) (by omega), i_eq (b := 2) (by omega) (by omega)]
    refine ⟨fun e => cl 2 (by omega) (by rw [if_pos e]), fun e => ⟨fun e2 => cl 8 (by omega) (by rw [if_neg e, if_pos e2]), fun e2 => cl 26 (by omega) (by rw [if_neg e, if_neg e2])⟩⟩
/-- draws and beats, one after the other -/
def dbl (A : AL) (c : Nat) : Nat → AL
  | 0 => A
  | k + 1 => bt (dr (dbl A c k) c)
theorem dbl_fr (A : AL) (c : Nat) : ∀ k, aC (dbl A c k) = aC A ∧ aT (dbl A c k) = aT A + k
  | 0 => ⟨rfl, rfl⟩
  | k + 1 => by
    have h := dbl_fr A c k
    refine ⟨h.1, ?_⟩
    show aT (dbl A c k) + 1 = aT A + (k + 1)
    omega
theorem dbl_ok {A : AL} (hO : Ok A) {c : Nat} (hc : c < aC A) (hT : aT A ≤ 40) : ∀ k, k ≤ 9 → Ok (dbl A c k)
  | 0, _ => hO
  | k + 1, h => by
    have fr := dbl_fr A c k
    exact bt_ok (dr_ok (dbl_ok hO hc hT k (by omega)) (by rw [fr.1]; exact hc) (by omega))
theorem dbc_loop {S : XO} {tx : TS} {hs : HS} {Ls0 : Nat → LnS} {A : AL} (hO : Ok A) (hT : aT A ≤ 40) {c N : Nat} (hc : c < aC A) (hN : N ≤ 9) {Q : Int32 → XO → TS → HS → (Nat → LnS) → Prop} {QX : String → XO → TS → HS → (Nat → LnS) → Prop} (hQ : ∀ Ls', (∀ i, i ≠ 1 → Ls' i = Ls0 i) → Q (nI (aDb (dbl A c N))) S tx hs Ls') : ∀ (m k n : Nat) (Ls : Nat → LnS), k + m = N → m < n → RepL (Ls 1) (dbl A c k) → (∀ i, i ≠ 1 → Ls i = Ls0 i) → wl_X3_doubles_25 (nI c) (nI N) Q QX n S tx hs Ls (nI k) := by
  have h6 := hO.c6 hc
  intro m
  induction m with
  | zero =>
    intro k n Ls hk hn hR hF
    obtain ⟨n, rfl, -⟩ := fuel1 hn
    rw [show k = N by omega] at hR ⊢
    exact ⟨fun _ => ok_pairs hR (dbl_ok hO hc hT N hN) (hQ Ls hF), fun h0 => absurd ((i_le (by omega) (by omega)).mpr (Nat.le_refl _)) h0⟩
  | succ m ih =>
    intro k n Ls hk hn hR hF
    obtain ⟨n, rfl, hn⟩ := fuel1 hn
    have fr := dbl_fr A c k
    have hB := dbl_ok hO hc hT k (by omega)
    have hB2 := dr_ok hB (c := c) (by rw [fr.1]; exact hc) (by omega)
    refine ⟨fun h0 => absurd ((i_le (by omega) (by omega)).mp h0) (by omega), fun _ => ok_drawFrom hR hB h6 (by omega) (fun L6 hL6 => ok_passBeats (N := 1) hL6 hB2 (by omega) (fun L7 hL7 => ?_))⟩
    rw [i_p1]
    refine ih (k + 1) n _ (by omega) (by omega) ?_ (fun i hi => (if_neg hi).trans (hF i hi))
    show RepL (if 1 = 1 then L7 else Ls 1) _
    rw [if_pos rfl]
    exact hL7
theorem dbr_loop {M0 : MS} {A : AL} (hO : Ok A) (hT : aT A ≤ 40) {c N : Nat} (hc : c < aC A) (hN : N ≤ 9) {Q : Int32 → MS → Prop} (hQ : ∀ M', (∀ j, j ≠ 3 → j ≠ 7 → j ≠ 8 → M' j = M0 j) → Q (nI (aDb (dbl A c N))) M') : ∀ (m k n : Nat) (M : MS), k + m = N → m < n → RepR (M 3) (dbl A c k) → (∀ j, j ≠ 3 → j ≠ 7 → j ≠ 8 → M j = M0 j) → wl_X4_doubles_56 (nI c) (nI N) Q n M (nI k) := by
  have h6 := hO.c6 hc
  intro m
  induction m with
  | zero =>
    intro k n M hk hn hR hF
    obtain ⟨n, rfl, -⟩ := fuel1 hn
    rw [show k = N by omega] at hR ⊢
    exact ⟨fun _ => ok_doublesOn hR (dbl_ok hO hc hT N hN) (hQ M hF), fun h0 => absurd ((i_le (by omega) (by omega)).mpr (Nat.le_refl _)) h0⟩
  | succ m ih =>
    intro k n M hk hn hR hF
    obtain ⟨n, rfl, hn⟩ := fuel1 hn
    have fr := dbl_fr A c k
    have hB := dbl_ok hO hc hT k (by omega)
    have hB2 := dr_ok hB (c := c) (by rw [fr.1]; exact hc) (by omega)
    refine ⟨fun h0 => absurd ((i_le (by omega) (by omega)).mp h0) (by omega), fun _ => ok_drawOn hR hB h6 (by omega) (fun r' hr' => ok_beat_t (M := zr2 M 3 r') hr' hB2 (fun M' hR' hF' => ?_))⟩
    rw [i_p1]
    refine ih (k + 1) n M' (by omega) (by omega) hR' (fun j j3 j7 j8 => ?_)
    rw [hF' j j3 j7 j8]
    show (if j = 3 then _ else M j) = M0 j
    rw [if_neg j3]
    exact hF j j3 j7 j8
theorem sim_doubles {k : Nat} {M : MS} {S : XO} {tx : TS} {hs : HS} {Ls : Nat → LnS} (h : Rl k M S tx hs Ls) {f : Nat → Int64} {x : Int32} { y : Int32} {C : CT} {P : Int32 → (Nat → Int64) → XO → TS → HS → (Nat → LnS) → Prop} (hC : NX k C) (hP : ∀ r g S' tx' hs' Ls', wp_X4_doubles M x y (JI C r g S' tx' hs' Ls') → P r g S' tx' hs' Ls') : wp_L_doubles f S tx hs Ls x y P := by
  obtain ⟨σ, hc, hr, hi⟩ := h
  have hO := hi.2.1.1
  unfold wp_L_doubles wp_X3_doubles
  unfold wp_X3_requireCounter
  obtain ⟨t, A, hh, b⟩ := σ
  have hO : Ok A := hO
  have hL : RepL (Ls 0) A := hc.2.1
  have hRr : RepR (M 2) A := hr.2.1
  have hT : aT A ≤ 40 := hi.2.1.2.1
  rcases ctr x hO with hx | ⟨c, hcc, rfl⟩
  · refine ok_hasCounter_out hL hO hx (t0 (x21 nBA (hP _ _ _ _ _ _ ?_)))
    exact ok_isCounter_out hRr hO hx (t0 (ok_ry (by decide) (t1 (fin_ex n1 rfl (hC.go hc (hr.ref _) hi)))))
  · refine ok_hasCounter_in hL hO hcc ?_
    refine t1 ?_
    rcases rgc y 1 9 (by decide) with ⟨N, -, hN, rfl, hy⟩ | hy
    · refine rg_yes (l := 1) (h := 9) (by decide) (by decide) hy (ok_copyFrom hL hO (fun L3 hL3 => ⟨N + 1, ?_⟩))
      refine dbc_loop (Ls0 := Ls) hO hT hcc hN (fun Ls' hF => hP _ _ _ _ _ _ ?_) N 0 (N + 1) _ (by omega) (by omega) ?_ (fun i hi => if_neg hi)
      · refine ok_isCounter_in hRr hO hcc ?_
        refine t1 (in_yes (l := 1) (h := 9) (by decide) (by decide) hy (t1 (ok_rn (t0 (ok_cp hRr hO.2.2.1 (fun G hG => ⟨N + 1, ?_⟩))))))
        refine dbr_loop (M0 := zr2 (zs2 M 0 0 0) 3 G) hO hT hcc hN (fun M' hF' => ?_) N 0 (N + 1) _ (by omega) (by omega) hG (fun _ _ _ _ => rfl)
        have h3 := hr.tri hF'
        exact fin_ok h3.2 rfl (hC.go (hc.mild hF rfl) h3.1 hi)
      · show RepL (if 1 = 1 then L3 else Ls 1) A
        rw [if_pos rfl]
        exact hL3
    · refine rg_no (l := 1) (h := 9) (by decide) (by decide) hy (x22 nAB (hP _ _ _ _ _ _ ?_))
      refine ok_isCounter_in hRr hO hcc ?_
      exact t1 (in_no (l := 1) (h := 9) (by decide) (by decide) hy (t0 (ok_ry (by decide) (t1 (fin_ex n2 rfl (hC.go hc (hr.ref _) hi))))))

/-! The tickets' calls, and the ranks. -/
theorem rqT_out {S : XO} {tx : TS} {hs : HS} {Ls : Nat → LnS} {A : AL} (hR : RepL (Ls 0) A) {x : Int32} (hx : x < 0 ∨ (¬ x < 0 ∧ nI (aT A) ≤ x)) {Q : XO → TS → HS → (Nat → LnS) → Prop} {QX : String → XO → TS → HS → (Nat → LnS) → Prop} (h : QX eIOB S tx hs Ls) : wp_X3_requireTicket S tx hs Ls x Q QX := by
  unfold wp_X3_requireTicket
  rw [hR.1.2.2.2]
  by_cases h0 : x < 0
  · exact tp h0 h
  · exact tn h0 (tn (i_ltn (hx.resolve_left h0).2) h)
theorem rqT_in {S : XO} {tx : TS} {hs : HS} {Ls : Nat → LnS} {A : AL} (hR : RepL (Ls 0) A) (hO : Ok A) {j : Nat} (hj : j < aT A) {Q : XO → TS → HS → (Nat → LnS) → Prop} {QX : String → XO → TS → HS → (Nat → LnS) → Prop} (h : Q S tx hs Ls) : wp_X3_requireTicket S tx hs Ls (nI j) Q QX := by
  have hT := hO.2.2.1
  unfold wp_X3_requireTicket
  rw [hR.1.2.2.2]
  exact tn (i_neg j (by omega)) (tp ((i_lt (by omega) (by omega)).mpr hj) h)
theorem sim_ticket {k : Nat} {M : MS} {S : XO} {tx : TS} {hs : HS} {Ls : Nat → LnS} (h : Rl k M S tx hs Ls) {f : Nat → Int64} {x : Int32} { y : Int32} {C : CT} {P : Int32 → (Nat → Int64) → XO → TS → HS → (Nat → LnS) → Prop} (hC : NX k C) (hP : ∀ r g S' tx' hs' Ls', wp_X4_ticket M x y (JL C r g S' tx' hs' Ls') → P r g S' tx' hs' Ls') : wp_L_ticket f S tx hs Ls x y P := by
  obtain ⟨σ, hc, hr, hi⟩ := h
  have hO := hi.2.1.1
  unfold wp_L_ticket wp_X3_ticket
  have hT := hO.2.2.1
  have hG := hi.2.1.2.2.2
  have z3r : M 2 (3 : Int32).toNatClampNeg = nI (aT σ.2.1) := by rw [z3]; exact hr.2.1.1.2.2.2
  rcases i_casesN x (n := aT σ.2.1) (by omega) with hx | ⟨j, hj, rfl⟩
  · refine rqT_out hc.2.1 hx (x21 nBA (hP _ _ _ _ _ _ ?_))
    unfold wp_X4_ticket
    rw [z3r]
    exact in_nat_out (by omega) hx (t0 (ok_ry (by decide) (t1 (fin_exL n1 rfl (hC.go hc (hr.ref _) hi)))))
  · refine rqT_in hc.2.1 hO hj ?_
    have v49 : vp_in (nI j) 49 := i_in (by omega) (by decide)
    rcases rgc y 0 4 (by decide) with ⟨n, -, hn, rfl, hy⟩ | hy
    · refine rg_yes (l := 0) (h := 4) (by decide) (by decide) hy ?_
      have rf : ∀ {Q : Int64 → MS → Prop}, (n = 3 → Q (nI (aPn σ.2.1 j)).toInt64 (zs2 M 0 0 0)) → (¬ n = 3 → Q (M 2 (136 + 4 * j + min n 3)).toInt64 (zs2 M 0 0 0)) → wp_X4_ticket M (nI j) (nI n) Q := by
        intro Q h3 h0
        unfold wp_X4_ticket
        rw [z3r]
        refine in_nat_in (by omega) hj ?_
        refine t1 (in_yes (l := 0) (h := 4) (by decide) (by decide) hy (t1 (ok_rn (t0 ?_))))
        rw [show (3 : Int32) = nI 3 from rfl, i_eq (by omega) (by omega), i_le (by omega) (by omega), ix_t, nI_add, nI_add, i_cl (by omega), i_cl (by omega)]
        refine ⟨fun e => ⟨fun e2 => ok_doublesOf hr.2.1 hO hj (h3 e2), fun e2 => ⟨i_in (by omega) (by decide), ?_⟩⟩, fun e => ⟨i_in (by omega) (by decide), ?_⟩⟩
        · have := h0 e2
          rwa [show min n 3 = 3 by omega] at this
        · have := h0 (by omega)
          rwa [show min n 3 = n by omega] at this
      rw [i_cl (by omega)]
      have kl := hc.2.1.2.2.2.2.2.2 j hj
      have kr := hr.2.1.2.2.2.2.2.2.1 j hj
      have e : n = 0 ∨ n = 1 ∨ n = 2 ∨ n = 3 ∨ n = 4 := by omega
      rcases e with rfl | rfl | rfl | rfl | rfl
      · refine tp (by decide) ⟨v49, hP _ _ _ _ _ _ ?_⟩
        exact rf (fun h => absurd h (by decide)) (fun _ => fin_okL rfl (congrArg Int32.toInt64 (kl.1.trans kr.1.symm)) (hC.go hc (hr.ref _) hi))
      · refine tn (by decide) (tp (by decide) ⟨v49, hP _ _ _ _ _ _ ?_⟩)
        exact rf (fun h => absurd h (by decide)) (fun _ => fin_okL rfl (congrArg Int32.toInt64 (by rw [show 136 + 4 * j + min 1 3 = 137 + 4 * j by omega]; exact kl.2.1.trans kr.2.1.symm)) (hC.go hc (hr.ref _) hi))
      · refine tn (by decide) (tn (by decide) (tp (by decide) ⟨v49, hP _ _ _ _ _ _ ?_⟩))
        exact rf (fun h => absurd h (by decide)) (fun _ => fin_okL rfl (congrArg Int32.toInt64 (by rw [show 136 + 4 * j + min 2 3 = 138 + 4 * j by omega]; exact kl.2.2.1.trans kr.2.2.1.symm)) (hC.go hc (hr.ref _) hi))
      · refine tn (by decide) (tn (by decide) (tn (by decide) (tp (by decide) (ok_partners hc.2.1 hO hj (hP _ _ _ _ _ _ ?_)))))
        exact rf (fun _ => fin_okL rfl rfl (hC.go hc (hr.ref _) hi)) (fun h => absurd rfl h)
      · refine tn (by decide) (tn (by decide) (tn (by decide) (tn (by decide) ⟨v49, hP _ _ _ _ _ _ ?_⟩)))
        refine rf (fun h => absurd h (by decide)) (fun _ => fin_okL rfl ?_ (hC.go hc (hr.ref _) hi))
        rw [show 136 + 4 * j + min 4 3 = 139 + 4 * j by omega, kr.2.2.2, hG j hj]
        exact kl.2.2.2
    · refine rg_no (l := 0) (h := 4) (by decide) (by decide) hy (x22 nAB (hP _ _ _ _ _ _ ?_))
      unfold wp_X4_ticket
      rw [z3r]
      refine in_nat_in (by omega) hj ?_
      exact t1 (in_no (l := 0) (h := 4) (by decide) (by decide) hy (t0 (ok_ry (by decide) (t1 (fin_exL n2 rfl (hC.go hc (hr.ref _) hi))))))
theorem cnt_mono {f g : Nat → Bool} : ∀ {n : Nat}, (∀ t, t < n → f t = true → g t = true) → cnt f n ≤ cnt g n
  | 0, _ => Nat.le_refl _
  | n + 1, h => by
    have h1 := cnt_mono (n := n) (fun t ht => h t (by omega))
    by_cases hf : f n = true
    · rw [cnt_t hf, cnt_t (h n (by omega) hf)]
      omega
    · rw [cnt_f hf]
      have : cnt g (n + 1) = cnt g n + (if g n = true then 1 else 0) := rfl
      omega
theorem cnt_strict {f g : Nat → Bool} {j : Nat} (hf : ¬ f j = true) (hg : g j = true) : ∀ {n : Nat}, j < n → (∀ t, t < n → f t = true → g t = true) → cnt f n < cnt g n
  | 0, hj, _ => absurd hj (by omega)
  | n + 1, hj, h => by
    by_cases e : j = n
    · subst e
      rw [cnt_f hf, cnt_t hg]
      have := cnt_mono (n := j) (fun t ht => h t (by omega))
      omega
    · have h1 := cnt_strict hf hg (n := n) (by omega) (fun t ht => h t (by omega))
      by_cases hfn : f n = true
      · rw [cnt_t hfn, cnt_t (h n (by omega) hfn)]
        omega
      · rw [cnt_f hfn]
        have : cnt g (n + 1) = cnt g n + (if g n = true then 1 else 0) := rfl
        omega
/-- ranks in a strict order are never the same -/
theorem rank_inj {R : Nat → Nat → Bool} {n : Nat} (hirr : ∀ i, ¬ R i i = true) (htr : ∀ a b c, R a b = true → R b c = true → R a c = true) (htot : ∀ i j, i ≠ j → R i j = true ∨ R j i = true) {i j : Nat} (hi : i < n) (hj : j < n) (h : cnt (fun t => R t i) n = cnt (fun t => R t j) n) : i = j := by
  refine Decidable.byContradiction fun hne => ?_
  rcases htot i j hne with h1 | h1
  · have := cnt_strict (f := fun t => R t i) (g := fun t => R t j) (j := i) (hirr i) h1 hi (fun t _ ht => htr t i j ht h1)
    omega
  · have := cnt_strict (f := fun t => R t j) (g := fun t => R t i) (j := j) (hirr j) h1 hj (fun t _ ht => htr t j i ht h1)
    omega
theorem aAh_inj (A : AL) {i j : Nat} (hi : i < aT A) (hj : j < aT A) (h : aAn A i = aAn A j) : i = j := by
  refine rank_inj (R := fun a b => aAh A a b) (fun i => ?_) (fun a b c => ?_) (fun i j hne => ?_) hi hj h
  · unfold aAh
    simp
  · unfold aAh
    simp only [decide_eq_true_eq]
    intro h1 h2
    split at h1 <;> split at h2 <;> split <;> try omega
    · split at h1 <;> split at h2 <;> split <;> omega
  · unfold aAh
    simp only [decide_eq_true_eq]
    repeat' split
    all_goals omega
theorem aHo_inj (A : AL) (w : Int32) {i j : Nat} (hi : i < aC A) (hj : j < aC A) (h : aHo A w i = aHo A w j) : i = j := by
  refine rank_inj (R := fun a b => aho A w a b) (fun i => ?_) (fun a b c => ?_) (fun i j hne => ?_) hi hj h
  · unfold aho
    simp
  · unfold aho
    simp only [decide_eq_true_eq]
    omega
  · unfold aho
    simp only [decide_eq_true_eq]
    omega
theorem pick (n : Nat) (g : Nat → Nat) (x : Nat) (hinj : ∀ i j, i < n → j < n → g i = g j → i = j) : ∃ res : Int32, (∀ t, t < n → g t = x → res = nI t) ∧ ((∀ t, t < n → ¬ g t = x) → res = -1) := by
  by_cases h : ∃ t, t < n ∧ g t = x
  · obtain ⟨t, ht, e⟩ := h
    exact ⟨nI t, fun u hu e2 => by rw [hinj t u ht hu (e.trans e2.symm)], fun h2 => absurd e (h2 t ht)⟩
  · exact ⟨-1, fun t ht e => absurd ⟨t, ht, e⟩ h, fun _ => rfl⟩
theorem aAn_le {A : AL} (hO : Ok A) (i : Nat) : aAn A i ≤ 49 := Nat.le_trans (cnt_le _ _) hO.2.2.1
theorem aHo_le {A : AL} (hO : Ok A) (w : Int32) (i : Nat) : aHo A w i ≤ 6 := Nat.le_trans (cnt_le _ _) hO.1.2
theorem sot_loop {S : XO} {tx : TS} {hs : HS} {Ls : Nat → LnS} {A : AL} (hR : RepL (Ls 0) A) (hO : Ok A) {x : Nat} (hx : x < 100) {res : Int32} (h1 : ∀ t, t < aT A → aAn A t = x → res = nI t) (h2 : (∀ t, t < aT A → ¬ aAn A t = x) → res = -1) {Q : Int32 → XO → TS → HS → (Nat → LnS) → Prop} {QX : String → XO → TS → HS → (Nat → LnS) → Prop} (hQ : Q res S tx hs Ls) : ∀ (m k n : Nat), k + m = aT A → m < n → (∀ t, t < k → ¬ aAn A t = x) → wl_X3_sorted_7 S tx hs Ls (nI x) Q QX n (nI k) := by
  have hT := hO.2.2.1
  intro m
  induction m with
  | zero =>
    intro k n hk hn hb
    obtain ⟨n, rfl, -⟩ := fuel1 hn
    refine ⟨fun _ => ?_, fun h0 => absurd ?_ h0⟩
    · rw [← h2 (fun t ht => hb t (by omega))]
      exact hQ
    · rw [hR.1.2.2.2, i_le (by omega) (by omega)]
      omega
  | succ m ih =>
    intro k n hk hn hb
    obtain ⟨n, rfl, hn⟩ := fuel1 hn
    refine ⟨fun h0 => ?_, fun _ => ok_ticketsAheadOf hR hO (by omega) ?_⟩
    · rw [hR.1.2.2.2, i_le (by omega) (by omega)] at h0
      omega
    · have hl := aAn_le hO k
      rw [i_eq (by omega) (by omega), i_p1]
      refine ⟨fun e => ?_, fun e => ih (k + 1) n (by omega) (by omega) (fun t ht => ?_)⟩
      · rw [← h1 k (by omega) e]
        exact hQ
      · by_cases et : t = k
        · rw [et]
          exact e
        · exact hb t (by omega)
theorem ok_isAhead {M : MS} {A : AL} (hR : RepR (M 2) A) (hO : Ok A) {i j : Nat} (hi : i < aT A) (hj : j < aT A) {Q : Int32 → Prop} (h : Q (if aAh A i j = true then 1 else 0)) : wp_X4_isAhead M (nI i) (nI j) Q := by
  have hT := hO.2.2.1
  have xi := hO.2.2.2.2.2.2.2.2 i hi
  have xj := hO.2.2.2.2.2.2.2.2 j hj
  have ri := hR.2.2.2.2.2.2.1 i hi
  have rj := hR.2.2.2.2.2.2.1 j hj
  unfold wp_X4_isAhead
  rw [ix_t, ix_t, ix_t1, ix_t1, i_cl (by omega), i_cl (by omega), i_cl (by omega), i_cl (by omega), ri.1, rj.1, ri.2.1, rj.2.1, i_eq (by omega) (by omega), i_eq (by omega) (by omega), i_le (by omega) (by omega), i_le (by omega) (by omega), i_le (by omega) (by omega)]
  have v1 : vp_in (nI (136 + 4 * i)) 336 := i_in (by omega) (by decide)
  have v2 : vp_in (nI (136 + 4 * j)) 336 := i_in (by omega) (by decide)
  have v3 : vp_in (nI (137 + 4 * i)) 336 := i_in (by omega) (by decide)
  have v4 : vp_in (nI (137 + 4 * j)) 336 := i_in (by omega) (by decide)
  have ht : aAh A i j = true → Q 1 := fun e => by rwa [if_pos e] at h
  have hf : ¬ aAh A i j = true → Q 0 := fun e => by rwa [if_neg e] at h
  unfold aAh at ht hf
  refine ⟨v3, v4, fun h1 => ⟨v1, v2, fun h2 => ⟨fun h3 => hf ?_, fun h3 => ht ?_⟩, fun h2 => ⟨v1, v2, fun h3 => hf ?_, fun h3 => ht ?_⟩⟩, fun h1 => ⟨v3, v4, fun h3 => hf ?_, fun h3 => ht ?_⟩⟩
  · simp [h1, h2]; omega
  · simp [h1, h2]; omega
  · simp [h1, h2]; omega
  · simp [h1, h2]; omega
  · simp [h1]; omega
  · simp [h1]; omega
theorem ra_loop {M : MS} {A : AL} (hR : RepR (M 2) A) (hO : Ok A) {x : Int32} {y : Int32} {j : Nat} (hj : j < aT A) {Q : Int32 → MS → Prop} {E : Int32 → Prop} : ∀ (m k n : Nat), k + m = aT A → m < n → E (nI (aAn A j)) → wl_X4_sorted_52 M x y (nI j) Q E n (nI (cnt (fun t => aAh A t j) k)) (nI k) := by
  have hT := hO.2.2.1
  intro m
  induction m with
  | zero =>
    intro k n hk hn h
    obtain ⟨n, rfl, -⟩ := fuel1 hn
    refine ⟨fun _ => ?_, fun h0 => absurd ?_ h0⟩
    · rw [show k = aT A by omega]
      exact h
    · rw [z3, hR.1.2.2.2, i_le (by omega) (by omega)]
      omega
  | succ m ih =>
    intro k n hk hn h
    obtain ⟨n, rfl, hn⟩ := fuel1 hn
    refine ⟨fun h0 => ?_, fun _ => ok_isAhead hR hO (by omega) hj ?_⟩
    · rw [z3, hR.1.2.2.2, i_le (by omega) (by omega)] at h0
      omega
    · have h1 := ih (k + 1) n (by omega) (by omega) h
      rw [i_p1, ix_z, i_p1]
      refine tb (fun hb => ?_) (fun hb => ?_)
      · rwa [cnt_f (f := fun t => aAh A t j) hb] at h1
      · rwa [cnt_t (f := fun t => aAh A t j) hb] at h1
theorem rs_loop {M : MS} {A : AL} (hR : RepR (M 2) A) (hO : Ok A) {x : Nat} (hx : x < 100) {res : Int32} (h1 : ∀ t, t < aT A → aAn A t = x → res = nI t) (h2 : (∀ t, t < aT A → ¬ aAn A t = x) → res = -1) {Q : Int32 → MS → Prop} (hQ : Q res M) : ∀ (m k n : Nat) (y : Int32), k + m = aT A → m < n → ((∃ t, t < k ∧ aAn A t = x) → y = res) → ((∀ t, t < k → ¬ aAn A t = x) → y = -1) → wl_X4_sorted_36 M (nI x) Q n y (nI k) := by
  have hT := hO.2.2.1
  intro m
  induction m with
  | zero =>
    intro k n y hk hn hb hb2
    obtain ⟨n, rfl, -⟩ := fuel1 hn
    refine ⟨fun _ => ?_, fun h0 => absurd ?_ h0⟩
    · have e : y = res := by
        by_cases h : ∃ t, t < k ∧ aAn A t = x
        · exact hb h
        · rw [hb2 (fun t ht e => h ⟨t, ht, e⟩), h2 (fun t ht e => h ⟨t, by omega, e⟩)]
      rw [e]
      exact hQ
    · rw [z3, hR.1.2.2.2, i_le (by omega) (by omega)]
      omega
  | succ m ih =>
    intro k n y hk hn hb hb2
    obtain ⟨n, rfl, hn⟩ := fuel1 hn
    refine ⟨fun h0 => ?_, fun _ => ⟨50, ?_⟩⟩
    · rw [z3, hR.1.2.2.2, i_le (by omega) (by omega)] at h0
      omega
    · refine ra_loop hR hO (by omega) (aT A) 0 50 (by omega) (by omega) ?_
      have hl := aAn_le hO k
      rw [i_eq (by omega) (by omega), i_p1]
      refine ⟨fun e => ih (k + 1) n _ (by omega) (by omega) (fun _ => (h1 k (by omega) e).symm) (fun h3 => absurd e (h3 k (by omega))), fun e => ih (k + 1) n _ (by omega) (by omega) (fun ⟨t, ht, e2⟩ => hb ⟨t, ?_, e2⟩) (fun h3 => hb2 (fun t ht => h3 t (by omega)))⟩
      by_cases et : t = k
      · subst et
        exact absurd e2 e
      · omega
theorem sim_sorted {k : Nat} {M : MS} {S : XO} {tx : TS} {hs : HS} {Ls : Nat → LnS} (h : Rl k M S tx hs Ls) {f : Nat → Int64} {x : Int32} {C : CT} {P : Int32 → (Nat → Int64) → XO → TS → HS → (Nat → LnS) → Prop} (hC : NX k C) (hP : ∀ r g S' tx' hs' Ls', wp_X4_sorted M x (JI C r g S' tx' hs' Ls') → P r g S' tx' hs' Ls') : wp_L_sorted f S tx hs Ls x P := by
  obtain ⟨σ, hc, hr, hi⟩ := h
  have hO := hi.2.1.1
  unfold wp_L_sorted wp_X3_sorted
  have hT := hO.2.2.1
  have z3r : M 2 (3 : Int32).toNatClampNeg = nI (aT σ.2.1) := by rw [z3]; exact hr.2.1.1.2.2.2
  rcases i_casesN x (n := aT σ.2.1) (by omega) with hx | ⟨j, hj, rfl⟩
  · refine rqT_out hc.2.1 hx (x1 (hP _ _ _ _ _ _ ?_))
    unfold wp_X4_sorted
    rw [z3r]
    exact in_nat_out (by omega) hx (t0 (ok_ry (by decide) (t1 (fin_ex n1 rfl (hC.go hc (hr.ref _) hi)))))
  · obtain ⟨res, h1, h2⟩ := pick (aT σ.2.1) (aAn σ.2.1) j (fun a b ha hb => aAh_inj σ.2.1 ha hb)
    refine rqT_in hc.2.1 hO hj ⟨50, ?_⟩
    refine sot_loop hc.2.1 hO (by omega) h1 h2 ?_ (aT σ.2.1) 0 50 (by omega) (by omega) (fun t ht => absurd ht (by omega))
    refine hP _ _ _ _ _ _ ?_
    unfold wp_X4_sorted
    rw [z3r]
    refine in_nat_in (by omega) hj ?_
    refine t1 (ok_rn (t0 ⟨50, ?_⟩))
    exact rs_loop (M := zs2 M 0 0 0) hr.2.1 hO (by omega) h1 h2 (fin_ok rfl rfl (hC.go hc (hr.ref _) hi)) (aT σ.2.1) 0 50 _ (by omega) (by omega) (fun ⟨t, ht, _⟩ => absurd ht (by omega)) (fun _ => rfl)
theorem rat_loop {S : XO} {tx : TS} {hs : HS} {Ls : Nat → LnS} {A : AL} (hR : RepL (Ls 0) A) (hO : Ok A) {x : Nat} (hx : x < 100) {w : Int32} {res : Int32} (h1 : ∀ t, t < aC A → aHo A w t = x → res = nI t) (h2 : (∀ t, t < aC A → ¬ aHo A w t = x) → res = -1) {Q : Int32 → XO → TS → HS → (Nat → LnS) → Prop} {QX : String → XO → TS → HS → (Nat → LnS) → Prop} (hQ : Q res S tx hs Ls) : ∀ (m k n : Nat), k + m = aC A → m < n → (∀ t, t < k → ¬ aHo A w t = x) → wl_X3_ranked_7 S tx hs Ls (nI x) w Q QX n (nI k) := by
  have hC := hO.1.2
  intro m
  induction m with
  | zero =>
    intro k n hk hn hb
    obtain ⟨n, rfl, -⟩ := fuel1 hn
    refine ⟨fun _ => ?_, fun h0 => absurd ?_ h0⟩
    · rw [← h2 (fun t ht => hb t (by omega))]
      exact hQ
    · rw [hR.1.1, i_le (by omega) (by omega)]
      omega
  | succ m ih =>
    intro k n hk hn hb
    obtain ⟨n, rfl, hn⟩ := fuel1 hn
    refine ⟨fun h0 => ?_, fun _ => ok_countersAheadOf hR hO (by omega) ?_⟩
    · rw [hR.1.1, i_le (by omega) (by omega)] at h0
      omega
    · have hl := aHo_le hO w k
      rw [i_eq (by omega) (by omega), i_p1]
      refine ⟨fun e => ?_, fun e => ih (k + 1) n (by omega) (by omega) (fun t ht => ?_)⟩
      · rw [← h1 k (by omega) e]
        exact hQ
      · by_cases et : t = k
        · rw [et]
          exact e
        · exact hb t (by omega)
theorem vI_b {A : AL} (hO : Ok A) (w : Int32) (c : Nat) : -2 ^ 50 ≤ vI A w c ∧ vI A w c ≤ 2 ^ 50 := by
  have h1 := aVi_b hO c
  have h2 := aR_lt hO c
  unfold vI
  split <;> omega
theorem sub_toInt {a b : Int64} (ha : -2 ^ 50 ≤ a.toInt ∧ a.toInt ≤ 2 ^ 50) (hb : -2 ^ 50 ≤ b.toInt ∧ b.toInt ≤ 2 ^ 50) : (a - b).toInt = a.toInt - b.toInt := by
  rw [Int64.toInt_sub, Int.bmod_def]
  have : (2 : Int) ^ 64 = 18446744073709551616 := by decide
  split <;> omega
theorem rr2_loop {M : MS} {A : AL} (hR : RepR (M 2) A) (hO : Ok A) {x : Int32} {y w : Int32} {j : Nat} (hj : j < aC A) {Q : Int32 → MS → Prop} {E : Int32 → Prop} : ∀ (m k n : Nat), k + m = aC A → m < n → E (nI (aHo A w j)) → wl_X4_ranked_47 M x w y (nI j) Q E n (nI (cnt (fun t => aho A w t j) k)) (nI k) := by
  have hC := hO.1.2
  have e0 : (0 : Int64).toInt = 0 := by decide
  intro m
  induction m with
  | zero =>
    intro k n hk hn h
    obtain ⟨n, rfl, -⟩ := fuel1 hn
    refine ⟨fun _ => ?_, fun h0 => absurd ?_ h0⟩
    · rw [show k = aC A by omega]
      exact h
    · rw [z0, hR.1.1, i_le (by omega) (by omega)]
      omega
  | succ m ih =>
    intro k n hk hn h
    obtain ⟨n, rfl, hn⟩ := fuel1 hn
    refine ⟨fun h0 => ?_, fun _ => ?_⟩
    · rw [z0, hR.1.1, i_le (by omega) (by omega)] at h0
      omega
    · have h1 := ih (k + 1) n (by omega) (by omega) h
      have ht : aho A w k j = true → wl_X4_ranked_47 M x w y (nI j) Q E n (nI (cnt (fun d => aho A w d j) k) + 1) (nI k + 1) := fun e => by
        rw [i_p1, i_p1]
        rwa [cnt_t (f := fun d => aho A w d j) e] at h1
      have hf : ¬ aho A w k j = true → wl_X4_ranked_47 M x w y (nI j) Q E n (nI (cnt (fun d => aho A w d j) k) + 0) (nI k + 1) := fun e => by
        rw [i_p1, ix_z]
        rwa [cnt_f (f := fun d => aho A w d j) e] at h1
      unfold aho at ht hf
      simp only [decide_eq_true_eq] at ht hf
      refine ok_refreading hR hO (by omega) (fun z7 h7 => ok_refreading hR hO (by omega) (fun z8 h8 => ?_))
      have b7 := vI_b hO w k
      have b8 := vI_b hO w j
      have es := sub_toInt (a := z7) (b := z8) (by omega) (by omega)
      rw [i_le (by omega) (by omega), lc_gt, lc_eq, es, e0, h7, h8]
      exact ⟨fun e => ht (Or.inl (by omega)), fun e => ⟨fun e2 => ⟨fun e3 => hf (by omega), fun e3 => ht (by omega)⟩, fun e2 => hf (by omega)⟩⟩
theorem rk_loop {M : MS} {A : AL} (hR : RepR (M 2) A) (hO : Ok A) {x : Nat} (hx : x < 100) {w : Int32} {res : Int32} (h1 : ∀ t, t < aC A → aHo A w t = x → res = nI t) (h2 : (∀ t, t < aC A → ¬ aHo A w t = x) → res = -1) {Q : Int32 → MS → Prop} (hQ : Q res M) : ∀ (m k n : Nat) (y : Int32), k + m = aC A → m < n → ((∃ t, t < k ∧ aHo A w t = x) → y = res) → ((∀ t, t < k → ¬ aHo A w t = x) → y = -1) → wl_X4_ranked_30 M (nI x) w Q n y (nI k) := by
  have hC := hO.1.2
  intro m
  induction m with
  | zero =>
    intro k n y hk hn hb hb2
    obtain ⟨n, rfl, -⟩ := fuel1 hn
    refine ⟨fun _ => ?_, fun h0 => absurd ?_ h0⟩
    · have e : y = res := by
        by_cases h : ∃ t, t < k ∧ aHo A w t = x
        · exact hb h
        · rw [hb2 (fun t ht e => h ⟨t, ht, e⟩), h2 (fun t ht e => h ⟨t, by omega, e⟩)]
      rw [e]
      exact hQ
    · rw [z0, hR.1.1, i_le (by omega) (by omega)]
      omega
  | succ m ih =>
    intro k n y hk hn hb hb2
    obtain ⟨n, rfl, hn⟩ := fuel1 hn
    refine ⟨fun h0 => ?_, fun _ => ⟨7, ?_⟩⟩
    · rw [z0, hR.1.1, i_le (by omega) (by omega)] at h0
      omega
    · refine rr2_loop hR hO (by omega) (aC A) 0 7 (by omega) (by omega) ?_
      have hl := aHo_le hO w k
      rw [i_eq (by omega) (by omega), i_p1]
      refine ⟨fun e => ih (k + 1) n _ (by omega) (by omega) (fun _ => (h1 k (by omega) e).symm) (fun h3 => absurd e (h3 k (by omega))), fun e => ih (k + 1) n _ (by omega) (by omega) (fun ⟨t, ht, e2⟩ => hb ⟨t, ?_, e2⟩) (fun h3 => hb2 (fun t ht => h3 t (by omega)))⟩
      by_cases et : t = k
      · subst et
        exact absurd e2 e
      · omega
theorem sim_ranked {k : Nat} {M : MS} {S : XO} {tx : TS} {hs : HS} {Ls : Nat → LnS} (h : Rl k M S tx hs Ls) {f : Nat → Int64} {x : Int32} { w : Int32} {C : CT} {P : Int32 → (Nat → Int64) → XO → TS → HS → (Nat → LnS) → Prop} (hC : NX k C) (hP : ∀ r g S' tx' hs' Ls', wp_X4_ranked M x w (JI C r g S' tx' hs' Ls') → P r g S' tx' hs' Ls') : wp_L_ranked f S tx hs Ls x w P := by
  obtain ⟨σ, hc, hr, hi⟩ := h
  have hO := hi.2.1.1
  unfold wp_L_ranked wp_X3_ranked
  unfold wp_X3_requireCounter
  have hCC := hO.1.2
  rcases ctr x hO with hx | ⟨c, hcc, rfl⟩
  · refine ok_hasCounter_out hc.2.1 hO hx (t0 (x1 (hP _ _ _ _ _ _ ?_)))
    exact ok_isCounter_out hr.2.1 hO hx (t0 (ok_ry (by decide) (t1 (fin_ex n1 rfl (hC.go hc (hr.ref _) hi)))))
  · obtain ⟨res, h1, h2⟩ := pick (aC σ.2.1) (aHo σ.2.1 w) c (fun a b ha hb => aHo_inj σ.2.1 w ha hb)
    refine ok_hasCounter_in hc.2.1 hO hcc ?_
    refine t1 ⟨7, ?_⟩
    refine rat_loop hc.2.1 hO (by omega) h1 h2 ?_ (aC σ.2.1) 0 7 (by omega) (by omega) (fun t ht => absurd ht (by omega))
    refine hP _ _ _ _ _ _ ?_
    refine ok_isCounter_in hr.2.1 hO hcc ?_
    refine t1 (ok_rn (t0 ⟨7, ?_⟩))
    exact rk_loop (M := zs2 M 0 0 0) hr.2.1 hO (by omega) h1 h2 (fin_ok rfl rfl (hC.go hc (hr.ref _) hi)) (aC σ.2.1) 0 7 _ (by omega) (by omega) (fun ⟨t, ht, _⟩ => absurd ht (by omega)) (fun _ => rfl)

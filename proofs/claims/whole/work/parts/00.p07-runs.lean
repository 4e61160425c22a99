/-! The class's runs of a chain. -/
theorem chn_le (K : Nat → Bool) : ∀ c, chn K c ≤ c
  | 0 => Nat.le_refl 0
  | c + 1 => by
    have := chn_le K c
    show (if K c = true then chn K c else c + 1) ≤ c + 1
    split <;> omega
theorem chn_s (K : Nat → Bool) : ∀ c, chn K c = 0 ∨ ¬ K (chn K c - 1) = true
  | 0 => Or.inl rfl
  | c + 1 => by
    have := chn_s K c
    show (if K c = true then chn K c else c + 1) = 0 ∨ ¬ K ((if K c = true then chn K c else c + 1) - 1) = true
    by_cases h : K c = true
    · rw [if_pos h]
      exact this
    · rw [if_neg h]
      exact Or.inr h
theorem cs_loop {L : LnS} {A : AL} (hR : RepL L A) {Q : Int32 → Prop} : ∀ (c n : Nat), c < 6 → c < n → Q (nI (chn (aK A) c)) → wl_X1_chainStart_2 L Q n (nI c) := by
  intro c
  induction c with
  | zero =>
    intro n hc hn h
    obtain ⟨n, rfl, -⟩ := fuel1 hn
    exact ⟨fun _ => h, fun h0 => absurd (show nI 0 ≤ 0 by decide) h0⟩
  | succ c ih =>
    intro n hc hn h
    obtain ⟨n, rfl, hn⟩ := fuel1 hn
    refine ⟨fun h0 => absurd ((i_le (b := 0) (by omega) (by omega)).mp h0) (by omega), fun _ => ?_⟩
    rw [i_m1, i_s1]
    refine ⟨i_in (by omega) (by decide), ?_⟩
    rw [i_cl (by omega), hR.2.2.1 c (by omega), bool_ite]
    have h2 : Q (nI (if aK A c = true then chn (aK A) c else c + 1)) := h
    refine ⟨fun e => ?_, fun e => ?_⟩
    · rwa [if_neg e] at h2
    · rw [if_pos (Classical.not_not.mp e)] at h2
      exact ih n (by omega) (by omega) h2
theorem ok_chainStart {L : LnS} {A : AL} (hR : RepL L A) {c : Nat} (hc : c < 6) {Q : Int32 → Prop} (h : Q (nI (chn (aK A) c))) : wp_X1_chainStart L (nI c) Q := ⟨7, cs_loop hR c 7 hc (by omega) h⟩
theorem fw_loop {L : LnS} {A : AL} (hR : RepL L A) (hO : Ok A) {c : Nat} (hc : c < 6) {Q : Int32 → Prop} : ∀ (m f n : Nat), f + m = c + 1 → m < n → Q (nI (faw A f m)) → wl_X1_firstAtWork_2 L (nI c) Q n (nI f) := by
  intro m
  induction m with
  | zero =>
    intro f n hf hn h
    obtain ⟨n, rfl, -⟩ := fuel1 hn
    exact ⟨fun _ => h, fun h0 => absurd ((i_lt (by omega) (by omega)).mpr (by omega)) h0⟩
  | succ m ih =>
    intro f n hf hn h
    obtain ⟨n, rfl, hn⟩ := fuel1 hn
    refine ⟨fun h0 => absurd ((i_lt (by omega) (by omega)).mp h0) (by omega), fun _ => ok_isAtRest hR hO (by omega) ?_⟩
    have h2 : Q (nI (if aQ A f = 0 then faw A (f + 1) m else f)) := h
    by_cases e : aQ A f = 0
    · rw [if_pos e] at h2 ⊢
      rw [i_p1]
      exact ⟨fun h0 => absurd h0 (by decide), fun _ => ih (f + 1) n (by omega) (by omega) h2⟩
    · rw [if_neg e] at h2 ⊢
      exact ⟨fun _ => h2, fun h0 => absurd rfl h0⟩
theorem ok_firstAtWork {L : LnS} {A : AL} (hR : RepL L A) (hO : Ok A) {f c : Nat} (hc : c < 6) (hf : f ≤ c + 1) {Q : Int32 → Prop} (h : Q (nI (faw A f (c + 1 - f)))) : wp_X1_firstAtWork L (nI f) (nI c) Q :=
  ⟨8, fw_loop hR hO hc (c + 1 - f) f 8 (by omega) (by omega) h⟩
theorem faw_f (A : AL) : ∀ (m f : Nat), f ≤ faw A f m ∧ faw A f m ≤ f + m ∧ (∀ x, f ≤ x → x < faw A f m → aQ A x = 0) ∧ (faw A f m < f + m → ¬ aQ A (faw A f m) = 0)
  | 0, f => ⟨Nat.le_refl _, Nat.le_refl _, fun x h1 h2 => absurd (show x < f from h2) (by omega), fun h => absurd (show f < f + 0 from h) (by omega)⟩
  | m + 1, f => by
    have h := faw_f A m (f + 1)
    show f ≤ (if aQ A f = 0 then faw A (f + 1) m else f) ∧ (if aQ A f = 0 then faw A (f + 1) m else f) ≤ f + (m + 1) ∧ (∀ x, f ≤ x → x < (if aQ A f = 0 then faw A (f + 1) m else f) → aQ A x = 0) ∧ ((if aQ A f = 0 then faw A (f + 1) m else f) < f + (m + 1) → ¬ aQ A (if aQ A f = 0 then faw A (f + 1) m else f) = 0)
    by_cases e : aQ A f = 0
    · rw [if_pos e]
      refine ⟨by omega, by omega, fun x h1 h2 => ?_, fun h3 => h.2.2.2 (by omega)⟩
      by_cases e2 : x = f
      · rw [e2]
        exact e
      · exact h.2.2.1 x (by omega) h2
    · rw [if_neg e]
      exact ⟨Nat.le_refl _, by omega, fun x h1 h2 => absurd h2 (by omega), fun _ => e⟩
/-- two lines that are alike at the counters from s to t -/
def Sim (s t : Nat) (A B : AL) : Prop := (aC B = aC A ∧ aG B = aG A ∧ aP B = aP A ∧ aK B = aK A) ∧ ∀ x, s ≤ x → x ≤ t → ∀ y, aD B x y = aD A x y ∧ aW B x y = aW A x y
theorem cnt_eq {f g : Nat → Bool} : ∀ {n : Nat}, (∀ k, k < n → f k = g k) → cnt f n = cnt g n
  | 0, _ => rfl
  | n + 1, h => by
    show cnt f n + (if f n = true then 1 else 0) = cnt g n + (if g n = true then 1 else 0)
    rw [cnt_eq (n := n) (fun k hk => h k (by omega)), h n (by omega)]
theorem rdv_eq {f g : Nat → Nat} : ∀ {n : Nat}, (∀ k, k < n → f k = g k) → rdv f n = rdv g n
  | 0, _ => rfl
  | n + 1, h => by
    show rdv f n + f n * 3 ^ n = rdv g n + g n * 3 ^ n
    rw [rdv_eq (n := n) (fun k hk => h k (by omega)), h n (by omega)]
theorem Sim.q {s t : Nat} {A B : AL} (h : Sim s t A B) {x : Nat} (h1 : s ≤ x) (h2 : x ≤ t) : aQ B x = aQ A x := by
  unfold aQ
  rw [h.1.2.2.1]
  exact cnt_eq (fun k _ => by rw [(h.2 x h1 h2 k).2])
theorem Sim.r {s t : Nat} {A B : AL} (h : Sim s t A B) {x : Nat} (h1 : s ≤ x) (h2 : x ≤ t) : aR B x = aR A x := by
  unfold aR
  rw [h.1.2.2.1]
  exact rdv_eq (fun k _ => (h.2 x h1 h2 k).1)
theorem Sim.tt {s t : Nat} {A B : AL} (h : Sim s t A B) {x : Nat} (h1 : s ≤ x) (h2 : x ≤ t) (y : Nat) : tk B x y = tk A x y := by
  have e := h.1.2.1
  unfold tk
  rw [e, (h.2 x h1 h2 y).2]
theorem Sim.ss {s t : Nat} {A B : AL} (h : Sim s t A B) {x : Nat} (h1 : s ≤ x) (h2 : x ≤ t) (y : Nat) : su B x y = su A x y := by
  unfold su
  rw [h.tt h1 h2, (h.2 x h1 h2 y).1]
/-- one beat of the part of a chain that is at work -/
theorem Sim.beat {s t f : Nat} {A B : AL} (h : Sim s t A B) (hA : Ok A) (hB : Ok B) (ht : t < aC A) (hf : s ≤ f ∧ f ≤ t + 1) (hr : ∀ x, s ≤ x → x < f → aQ A x = 0) (hs : s = 0 ∨ ¬ aK A (s - 1) = true) : Sim s t (bt A) (pbt f (t + 1 - f) B) := by
  have hI := PBI_p hB (f := f) (m := t + 1 - f) (by rw [h.1.1]; omega)
  rw [show f + (t + 1 - f) = t + 1 by omega] at hI
  obtain ⟨⟨e1, eP, eK, eX⟩, hD, hW, hS⟩ := hI
  have eG : aC (pbt f (t + 1 - f) B) = aC B ∧ aG (pbt f (t + 1 - f) B) = aG B := by
    unfold aC aG
    rw [e1]
    exact ⟨rfl, rfl⟩
  have rz : ∀ x, s ≤ x → x < f → ∀ y, aW A x y = 0 := fun x h1 h2 y => rest_W hA (hr x h1 h2) y
  refine ⟨⟨eG.1.trans h.1.1, eG.2.trans h.1.2.1, eP.trans h.1.2.2.1, eK.trans h.1.2.2.2⟩, fun x h1 h2 y => ⟨?_, ?_⟩⟩
  · rw [hD]
    show _ = mo A x y
    by_cases hx : f ≤ x
    · rw [if_pos ⟨hx, by omega⟩]
      unfold mo
      rw [h.ss h1 h2]
    · rw [if_neg (by omega), (h.2 x h1 h2 y).1, mo_0 hA (rz x h1 (by omega) y)]
  · rw [hW]
    show _ = aW A x y - tv A x y + inn A 0 x y
    by_cases hx : f ≤ x
    · rw [if_pos ⟨hx, by omega⟩]
      have e3 : inn B f x y = inn A 0 x y := by
        unfold inn
        rw [h.1.2.2.1, h.1.2.2.2]
        by_cases hy : 0 < y
        · rw [if_pos hy, if_pos hy]
          unfold ov
          rw [h.ss h1 h2]
        · rw [if_neg hy, if_neg hy]
          by_cases hfx : f < x
          · by_cases hk : aK A (x - 1) = true
            · rw [if_pos ⟨hfx, hk⟩, if_pos ⟨by omega, hk⟩]
              unfold ov
              rw [h.ss (x := x - 1) (by omega) (by omega)]
            · rw [if_neg (fun h5 => hk h5.2), if_neg (fun h5 => hk h5.2)]
          · have ex : x = f := by omega
            subst ex
            rw [if_neg (fun h5 => hfx h5.1)]
            by_cases hk : 0 < x ∧ aK A (x - 1) = true
            · rw [if_pos hk]
              by_cases hfs : x = s
              · subst hfs
                rcases hs with hs | hs
                · omega
                · exact absurd hk.2 hs
              · exact (ov_0 hA (rz (x - 1) (by omega) (by omega) _)).symm
            · rw [if_neg hk]
      rw [e3, (h.2 x h1 h2 y).2]
      unfold tv
      rw [h.tt h1 h2]
    · rw [if_neg (by omega), if_neg (by omega), (h.2 x h1 h2 y).2, tv_0 (rz x h1 (by omega) y), rz x h1 (by omega) y]
      have e3 : inn A 0 x y = 0 := by
        unfold inn
        by_cases hy : 0 < y
        · rw [if_pos hy, ov_0 hA (rz x h1 (by omega) _)]
          split <;> rfl
        · rw [if_neg hy]
          by_cases hk : 0 < x ∧ aK A (x - 1) = true
          · rw [if_pos hk]
            by_cases hfs : x = s
            · subst hfs
              rcases hs with hs | hs
              · omega
              · exact absurd hk.2 hs
            · exact ov_0 hA (rz (x - 1) (by omega) (by omega) _)
          · rw [if_neg hk]
      rw [e3]
      decide
/-- the chain is at rest -/
def grest (A : AL) (s t : Nat) : Prop := ∀ x, s ≤ x → x ≤ t → aQ A x = 0
theorem Sim.refl (s t : Nat) (A : AL) : Sim s t A A := ⟨⟨rfl, rfl, rfl, rfl⟩, fun _ _ _ _ => ⟨rfl, rfl⟩⟩
/-- a chain at rest stays so -/
theorem grest_bt {A : AL} (hO : Ok A) {s t : Nat} (ht : t < aC A) (hs : s = 0 ∨ ¬ aK A (s - 1) = true) (hst : s ≤ t) (h : grest A s t) : Sim s t (bt A) A := by
  have := Sim.beat (f := t + 1) (Sim.refl s t A) hO hO ht ⟨by omega, Nat.le_refl _⟩ (fun x h1 h2 => h x h1 (by omega)) hs
  rwa [Nat.sub_self] at this
theorem rr_loop {A : AL} (hA : Ok A) {c s N : Nat} (hc : c < aC A) (hs : s = chn (aK A) c) (hN : N < 1000000) (hlt : ∀ k, k < N → ¬ grest (bts k A) s c) (hr : grest (bts N A) s c) {Q : Int32 → LnS → Prop} (h : ∀ L' B, RepL L' B → Ok B → Sim s c (bts N A) B → Q (nI N) L') : ∀ (m k n f : Nat) (B : AL) (L : LnS), k + m = N → m < n → RepL L B → Ok B → Sim s c (bts k A) B → s ≤ f → f ≤ c + 1 → (∀ x, s ≤ x → x < f → aQ (bts k A) x = 0) → wl_X1_runToRest_13 (nI c) Q n L (nI (faw B f (c + 1 - f))) (nI k) := by
  have hC := hA.1.2
  have hsc : s ≤ c := by rw [hs]; exact chn_le _ _
  have hs0 : s = 0 ∨ ¬ aK A (s - 1) = true := by rw [hs]; exact chn_s _ _
  intro m
  induction m with
  | zero =>
    intro k n f B L hk hn hR hB hS hf hf2 hx
    obtain ⟨n, rfl, -⟩ := fuel1 hn
    have ek : k = N := by omega
    subst ek
    have hf3 := faw_f B (c + 1 - f) f
    have e1 : ¬ faw B f (c + 1 - f) < f + (c + 1 - f) := fun h1 => by
      have h2 := hf3.2.2.2 h1
      rw [hS.q (by omega) (by omega)] at h2
      exact h2 (hr _ (by omega) (by omega))
    refine ⟨fun _ => h L B hR hB hS, fun h0 => absurd ((i_lt (by omega) (by omega)).mpr (by omega)) h0⟩
  | succ m ih =>
    intro k n f B L hk hn hR hB hS hf hf2 hx
    obtain ⟨n, rfl, hn⟩ := fuel1 hn
    have hf3 := faw_f B (c + 1 - f) f
    have e1 : faw B f (c + 1 - f) < c + 1 := by
      refine Decidable.byContradiction (fun h1 => hlt k (by omega) (fun x h2 h3 => ?_))
      by_cases h4 : x < f
      · exact hx x h2 h4
      · have := hf3.2.2.1 x (by omega) (by omega)
        rwa [hS.q h2 h3] at this
    obtain ⟨g, hg⟩ : ∃ g, g = faw B f (c + 1 - f) := ⟨_, rfl⟩
    rw [← hg] at e1 hf3 ⊢
    have hxg : ∀ x, s ≤ x → x < g → aQ (bts k A) x = 0 := fun x h2 h3 => by
      by_cases h4 : x < f
      · exact hx x h2 h4
      · have := hf3.2.2.1 x (by omega) h3
        rwa [hS.q h2 (by omega)] at this
    have fr := bts_fr k A
    have hAk := bts_ok k hA
    refine ⟨fun h0 => absurd ((i_lt (by omega) (by omega)).mp h0) (by omega), fun _ => ⟨fun h0 => ?_, fun _ => ?_⟩⟩
    · rw [show (1000000 : Int32) = nI 1000000 from rfl, nI_leI (by omega) (by omega)] at h0
      omega
    · have hpb := ok_passBeat hR hB (f := g) (m := c + 1 - g) (by omega) (Q := fun u5 => wp_X1_firstAtWork u5 (nI g) (nI c) (fun r6 => wl_X1_runToRest_13 (nI c) Q n u5 r6 (nI k + 1))) (fun L' hL' => by
        have hB' := pbt_ok g (c + 1 - g) B hB
        have hS' := Sim.beat hS hAk hB (by rw [fr.1]; exact hc) ⟨by omega, by omega⟩ hxg (by rw [fr.2.2.2.2.1]; exact hs0)
        refine ok_firstAtWork hL' hB' (by omega) (by omega) ?_
        rw [i_p1]
        refine ih (k + 1) n g _ L' (by omega) (by omega) hL' hB' (by rw [bts_s]; exact hS') (by omega) (by omega) (fun x h2 h3 => ?_)
        have hb := grest_bt hAk (s := s) (t := g - 1) (by rw [fr.1]; omega) (by rw [fr.2.2.2.2.1]; exact hs0) (by omega) (fun y h4 h5 => hxg y h4 (by omega))
        rw [bts_s, ← hb.q h2 (by omega)]
        exact hxg x h2 h3)
      rw [show g + (c + 1 - g) = c + 1 by omega, i_s1] at hpb
      exact hpb
theorem ok_runToRest {L : LnS} {A : AL} (hR : RepL L A) (hO : Ok A) {c N : Nat} (hc : c < aC A) (hN : N < 1000000) (hlt : ∀ k, k < N → ¬ grest (bts k A) (chn (aK A) c) c) (hr : grest (bts N A) (chn (aK A) c) c) {Q : Int32 → LnS → Prop} (h : ∀ L' B, RepL L' B → Ok B → Sim (chn (aK A) c) c (bts N A) B → Q (nI N) L') : wp_X1_runToRest L (nI c) Q := by
  have hC := hO.1.2
  have hsc := chn_le (aK A) c
  refine ok_chainStart hR (by omega) (ok_firstAtWork hR hO (by omega) (by omega) ⟨N + 1, ?_⟩)
  exact rr_loop hO hc rfl hN hlt hr h N 0 (N + 1) _ A L (by omega) (by omega) hR hO (Sim.refl _ _ _) (Nat.le_refl _) (by omega) (fun x h1 h2 => absurd h2 (by omega))
/-- the class's search for a reading: M is the first beat at which it is there or the chain is at rest -/
theorem rv_loop {A : AL} (hA : Ok A) {c s M v : Nat} (hv : v < 100000) (hc : c < aC A) (hs : s = chn (aK A) c) (hM : M < 1000000) (hlt : ∀ k, k < M → ¬ aR (bts k A) c = v ∧ ¬ grest (bts k A) s c) {Q : Int32 → LnS → Prop} (h1 : aR (bts M A) c = v → ∀ L', Q (nI M) L') (h2 : ¬ aR (bts M A) c = v → grest (bts M A) s c ∧ ∀ L', Q (-1) L') : ∀ (m k n f : Nat) (B : AL) (L : LnS), k + m = M → m < n → RepL L B → Ok B → Sim s c (bts k A) B → s ≤ f → f ≤ c + 1 → (∀ x, s ≤ x → x < f → aQ (bts k A) x = 0) → wl_X1_runToReading_9 (nI c) (nI v) Q n L (nI f) (nI k) := by
  have hC := hA.1.2
  have hsc : s ≤ c := by rw [hs]; exact chn_le _ _
  have hs0 : s = 0 ∨ ¬ aK A (s - 1) = true := by rw [hs]; exact chn_s _ _
  intro m
  induction m with
  | zero =>
    intro k n f B L hk hn hR hB hS hf hf2 hx
    obtain ⟨n, rfl, -⟩ := fuel1 hn
    have ek : k = M := by omega
    subst ek
    refine ⟨fun h0 => ?_, fun _ => ok_reading hR hB (by omega) ?_⟩
    · rw [show (1000000 : Int32) = nI 1000000 from rfl, nI_leI (by omega) (by omega)] at h0
      omega
    · have hlr := aR_lt hB c
      rw [i_eq (by omega) hv, hS.r hsc (Nat.le_refl _)]
      refine ⟨fun e => h1 e L, fun e => ok_firstAtWork hR hB (by omega) hf2 ?_⟩
      have hf3 := faw_f B (c + 1 - f) f
      have e1 : ¬ faw B f (c + 1 - f) < f + (c + 1 - f) := fun h3 => by
        have h4 := hf3.2.2.2 h3
        rw [hS.q (by omega) (by omega)] at h4
        exact h4 ((h2 e).1 _ (by omega) (by omega))
      rw [i_le (by omega) (by omega)]
      exact ⟨fun h0 => absurd h0 (by omega), fun _ => (h2 e).2 L⟩
  | succ m ih =>
    intro k n f B L hk hn hR hB hS hf hf2 hx
    obtain ⟨n, rfl, hn⟩ := fuel1 hn
    have hl := hlt k (by omega)
    refine ⟨fun h0 => ?_, fun _ => ok_reading hR hB (by omega) ?_⟩
    · rw [show (1000000 : Int32) = nI 1000000 from rfl, nI_leI (by omega) (by omega)] at h0
      omega
    have hlr := aR_lt hB c
    rw [i_eq (by omega) hv, hS.r hsc (Nat.le_refl _)]
    refine ⟨fun e => absurd e hl.1, fun _ => ok_firstAtWork hR hB (by omega) hf2 ?_⟩
    have hf3 := faw_f B (c + 1 - f) f
    have e1 : faw B f (c + 1 - f) < c + 1 := by
      refine Decidable.byContradiction (fun h1 => hl.2 (fun x h2 h3 => ?_))
      by_cases h4 : x < f
      · exact hx x h2 h4
      · have := hf3.2.2.1 x (by omega) (by omega)
        rwa [hS.q h2 h3] at this
    obtain ⟨g, hg⟩ : ∃ g, g = faw B f (c + 1 - f) := ⟨_, rfl⟩
    rw [← hg] at e1 hf3 ⊢
    have hxg : ∀ x, s ≤ x → x < g → aQ (bts k A) x = 0 := fun x h2 h3 => by
      by_cases h4 : x < f
      · exact hx x h2 h4
      · have := hf3.2.2.1 x (by omega) h3
        rwa [hS.q h2 (by omega)] at this
    have fr := bts_fr k A
    have hAk := bts_ok k hA
    rw [i_le (by omega) (by omega)]
    refine ⟨fun _ => ?_, fun h0 => absurd (by omega) h0⟩
    have hpb := ok_passBeat hR hB (f := g) (m := c + 1 - g) (by omega) (Q := fun u7 => wl_X1_runToReading_9 (nI c) (nI v) Q n u7 (nI g) (nI k + 1)) (fun L' hL' => by
        have hB' := pbt_ok g (c + 1 - g) B hB
        have hS' := Sim.beat hS hAk hB (by rw [fr.1]; exact hc) ⟨by omega, by omega⟩ hxg (by rw [fr.2.2.2.2.1]; exact hs0)
        rw [i_p1]
        refine ih (k + 1) n g _ L' (by omega) (by omega) hL' hB' (by rw [bts_s]; exact hS') (by omega) (by omega) (fun x h2 h3 => ?_)
        have hb := grest_bt hAk (s := s) (t := g - 1) (by rw [fr.1]; omega) (by rw [fr.2.2.2.2.1]; exact hs0) (by omega) (fun y h4 h5 => hxg y h4 (by omega))
        rw [bts_s, ← hb.q h2 (by omega)]
        exact hxg x h2 h3)
    rw [show g + (c + 1 - g) = c + 1 by omega, i_s1] at hpb
    exact hpb
theorem ok_runToReading {L : LnS} {A : AL} (hR : RepL L A) (hO : Ok A) {c M v : Nat} (hv : v < 100000) (hc : c < aC A) (hM : M < 1000000) (hlt : ∀ k, k < M → ¬ aR (bts k A) c = v ∧ ¬ grest (bts k A) (chn (aK A) c) c) {Q : Int32 → LnS → Prop} (h1 : aR (bts M A) c = v → ∀ L', Q (nI M) L') (h2 : ¬ aR (bts M A) c = v → grest (bts M A) (chn (aK A) c) c ∧ ∀ L', Q (-1) L') : wp_X1_runToReading L (nI c) (nI v) Q := by
  have hC := hO.1.2
  have hsc := chn_le (aK A) c
  refine ok_chainStart hR (by omega) ⟨M + 1, ?_⟩
  exact rv_loop hO hv hc rfl hM hlt h1 h2 M 0 (M + 1) _ A L (by omega) (by omega) hR hO (Sim.refl _ _ _) (Nat.le_refl _) (by omega) (fun x h1 h2 => absurd h2 (by omega))

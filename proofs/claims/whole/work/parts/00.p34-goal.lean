/-! All the calls, one after the other. -/
theorem law_all (L : Nat) (xs : Nat → Int32) (hL : L ≤ 2048) : ∀ (n k : Nat) (M : MS) (f : Nat → Int64) (S : XO) (tx : TS) (hs : HS) (Ls : Nat → LnS), n + k = 600 → (k = 0 ∨ 4 * k ≤ L) → Rl k M S tx hs Ls → wl_L_law L xs n M f S tx hs Ls (nI (4 * k)) := by
  intro n
  induction n with
  | zero =>
    intro k M f S tx hs Ls hn hk hR
    omega
  | succ n ih =>
    intro k M f S tx hs Ls hn hk hR
    have hk900 : k ≤ 900 := by omega
    have e4 : nI (4 * k) + 4 = nI (4 * (k + 1)) := by
      rw [show (4 : Int32) = nI 4 from rfl, nI_add]
      congr 1
    have eL : (nI L - (4 : Int32)).toInt = (L : Int) - 4 := by
      have e2 : (4 : Int32).toInt = 4 := by decide
      have : (2 : Int) ^ 32 = 4294967296 := by decide
      rw [Int32.toInt_sub, i_toInt (by omega), e2, Int.bmod_def]
      split <;> omega
    refine ⟨fun _ => trivial, fun hlt => ?_⟩
    have hlt : 4 * k + 4 ≤ L := by
      rw [Int32.lt_iff_toInt_lt, eL, i_toInt (by omega)] at hlt
      omega
    have v0 : vp_in (nI (4 * k)) L := vp_in_nI (by omega) (by omega)
    have v1 : vp_in (nI (4 * k) + (1 : Int32)) L := by
      rw [i_p1]
      exact vp_in_nI (by omega) (by omega)
    have v2 : vp_in (nI (4 * k) + (2 : Int32)) L := by
      rw [show (2 : Int32) = nI 2 from rfl, nI_add]
      exact vp_in_nI (by omega) (by omega)
    have v3 : vp_in (nI (4 * k) + (3 : Int32)) L := by
      rw [show (3 : Int32) = nI 3 from rfl, nI_add]
      exact vp_in_nI (by omega) (by omega)
    have hC : NX k (fun M g S tx hs Ls => wl_L_law L xs n M g S tx hs Ls (nI (4 * k) + 4)) := fun M g S tx hs Ls h => by
      show wl_L_law L xs n M g S tx hs Ls (nI (4 * k) + 4)
      rw [e4]
      exact ih (k + 1) M g S tx hs Ls (by omega) (Or.inr (by omega)) h
    refine ⟨v0, ?_⟩
    refine ⟨fun _ => ?_, fun _ => ?_⟩
    · exact ⟨v1, sim_append hR hC (fun r g S' tx' hs' Ls' h => ⟨v1, h⟩)⟩
    refine ⟨fun _ => ?_, fun _ => ?_⟩
    · exact sim_clearText hR hC (fun r S' tx' hs' Ls' h => h)
    refine ⟨fun _ => ?_, fun _ => ?_⟩
    · exact sim_errorPosition hR (f := f) hC (fun r h => h)
    refine ⟨fun _ => ?_, fun _ => ?_⟩
    · exact sim_load hR hC (fun r g S' tx' hs' Ls' h => h)
    refine ⟨fun _ => ?_, fun _ => ?_⟩
    · exact ⟨v1, sim_about hR hC (fun r g S' tx' hs' Ls' h => ⟨v1, h⟩)⟩
    refine ⟨fun _ => ?_, fun _ => ?_⟩
    · exact ⟨v1, sim_shown hR hC (fun r g S' tx' hs' Ls' h => ⟨v1, h⟩)⟩
    refine ⟨fun _ => ?_, fun _ => ?_⟩
    · exact ⟨v1, sim_worth hR hC (fun r g S' tx' hs' Ls' h => ⟨v1, h⟩)⟩
    refine ⟨fun _ => ?_, fun _ => ?_⟩
    · exact ⟨v1, ⟨v2, sim_counter hR hC (fun r g S' tx' hs' Ls' h => ⟨v1, ⟨v2, h⟩⟩)⟩⟩
    refine ⟨fun _ => ?_, fun _ => ?_⟩
    · exact ⟨v1, ⟨v2, ⟨v3, sim_place hR hC (fun r g S' tx' hs' Ls' h => ⟨v1, ⟨v2, ⟨v3, h⟩⟩⟩)⟩⟩⟩
    refine ⟨fun _ => ?_, fun _ => ?_⟩
    · exact ⟨v1, ⟨v2, sim_ticket hR hC (fun r g S' tx' hs' Ls' h => ⟨v1, ⟨v2, h⟩⟩)⟩⟩
    refine ⟨fun _ => ?_, fun _ => ?_⟩
    · exact ⟨v1, sim_sorted hR hC (fun r g S' tx' hs' Ls' h => ⟨v1, h⟩)⟩
    refine ⟨fun _ => ?_, fun _ => ?_⟩
    · exact ⟨v1, v2, fun e => sim_ranked hR hC (fun r g S' tx' hs' Ls' h => ⟨v1, v2, fun _ => h, fun e2 => absurd e e2⟩), fun e => sim_ranked hR hC (fun r g S' tx' hs' Ls' h => ⟨v1, v2, fun e2 => absurd e2 e, fun _ => h⟩)⟩
    refine ⟨fun _ => ?_, fun _ => ?_⟩
    · exact ⟨v1, ⟨v2, sim_add hR hC (fun r g S' tx' hs' Ls' h => ⟨v1, ⟨v2, h⟩⟩)⟩⟩
    refine ⟨fun _ => ?_, fun _ => ?_⟩
    · exact ⟨v1, sim_draw hR hk900 hC (fun r g S' tx' hs' Ls' h => ⟨v1, h⟩)⟩
    refine ⟨fun _ => ?_, fun _ => ?_⟩
    · exact ⟨v1, sim_beats hR hC (fun r g S' tx' hs' Ls' h => ⟨v1, h⟩)⟩
    refine ⟨fun _ => ?_, fun _ => ?_⟩
    · exact ⟨v1, sim_setPace hR hC (fun r g S' tx' hs' Ls' h => ⟨v1, h⟩)⟩
    refine ⟨fun _ => ?_, fun _ => ?_⟩
    · exact ⟨v1, v2, fun e => sim_link hR (Or.inl rfl) hC (fun r g S' tx' hs' Ls' h => ⟨v1, v2, fun _ => h, fun e2 => absurd e e2⟩), fun e => sim_link hR (Or.inr rfl) hC (fun r g S' tx' hs' Ls' h => ⟨v1, v2, fun e2 => absurd e2 e, fun _ => h⟩)⟩
    refine ⟨fun _ => ?_, fun _ => ?_⟩
    · exact ⟨v1, ⟨v2, sim_resize hR hC (fun r g S' tx' hs' Ls' h => ⟨v1, ⟨v2, h⟩⟩)⟩⟩
    refine ⟨fun _ => ?_, fun _ => ?_⟩
    · exact ⟨v1, ⟨v2, sim_pour hR hC (fun r g S' tx' hs' Ls' h => ⟨v1, ⟨v2, h⟩⟩)⟩⟩
    refine ⟨fun _ => ?_, fun _ => ?_⟩
    · exact sim_undo hR hC (fun r g S' tx' hs' Ls' h => h)
    refine ⟨fun _ => ?_, fun _ => ?_⟩
    · exact ⟨v1, sim_settled hR hk900 hC (fun r g S' tx' hs' Ls' h => ⟨v1, h⟩)⟩
    refine ⟨fun _ => ?_, fun _ => ?_⟩
    · exact ⟨v1, sim_shownAtLast hR hk900 hC (fun r g S' tx' hs' Ls' h => ⟨v1, h⟩)⟩
    refine ⟨fun _ => ?_, fun _ => ?_⟩
    · exact ⟨v1, ⟨v2, sim_whenShown hR hk900 hC (fun r g S' tx' hs' Ls' h => ⟨v1, ⟨v2, h⟩⟩)⟩⟩
    refine ⟨fun _ => ?_, fun _ => ?_⟩
    · exact ⟨v1, sim_leastPace hR hC (fun r g S' tx' hs' Ls' h => ⟨v1, h⟩)⟩
    refine ⟨fun _ => ?_, fun _ => ?_⟩
    · exact ⟨v1, sim_slowest hR hk900 hC (fun r g S' tx' hs' Ls' h => ⟨v1, h⟩)⟩
    refine ⟨fun _ => ?_, fun _ => ?_⟩
    · exact ⟨v1, ⟨v2, sim_doubles hR hC (fun r g S' tx' hs' Ls' h => ⟨v1, ⟨v2, h⟩⟩)⟩⟩
    refine ⟨fun _ => ?_, fun _ => ?_⟩
    · exact ⟨v1, ⟨v2, ⟨v3, sim_runScript hR hC (fun r g S' tx' hs' Ls' h => ⟨v1, ⟨v2, ⟨v3, h⟩⟩⟩)⟩⟩⟩
    refine ⟨fun _ => ?_, fun _ => ?_⟩
    · exact ⟨v1, ⟨v2, ⟨v3, sim_simulate hR hC (fun r g S' tx' hs' Ls' h => ⟨v1, ⟨v2, ⟨v3, h⟩⟩⟩)⟩⟩⟩
    refine ⟨fun _ => ?_, fun _ => ?_⟩
    · exact ⟨v1, sim_save hR hC (fun r g S' tx' hs' Ls' h => ⟨v1, h⟩)⟩
    refine ⟨fun _ => ?_, fun _ => ?_⟩
    · exact ⟨v1, sim_restore hR hC (fun r g S' tx' hs' Ls' h => ⟨v1, h⟩)⟩
    · have h := hR
      exact hC M f S tx hs Ls (by
        obtain ⟨σ, h1, h2, h3⟩ := hR
        exact ⟨σ, h1, h2, h3.mono (Nat.le_succ k)⟩)
/-! The beginning. -/
def AI : AL := ((3, 1, 0, 0), (fun c => if c < 3 then 4 else 0), fun _ => false, fun _ => 0, fun _ _ => 0, fun _ _ => 0, fun _ => (0, 0, 0, 0))
theorem AI_ok : Ok AI := by
  refine ⟨⟨by decide, by decide⟩, ⟨by decide, by decide⟩, Nat.zero_le _, fun c => ?_, fun c => ⟨fun hc => ?_, fun hc => ?_⟩, fun c hc => Bool.noConfusion (show false = true from hc), fun _ _ => Nat.zero_le _, fun _ _ _ => ⟨rfl, rfl⟩, fun t ht => absurd ht (Nat.not_lt_zero t)⟩
  · show (if c < 3 then 4 else 0) ≤ 9
    split <;> omega
  · have hc2 : c < 3 := hc
    show 1 ≤ (if c < 3 then 4 else 0)
    rw [if_pos hc2]
    omega
  · have hc2 : 3 ≤ c := hc
    show (if c < 3 then 4 else 0) = 0
    rw [if_neg (by omega)]
theorem AI_gd : Gd 0 AI := by
  refine ⟨AI_ok, Nat.zero_le _, ?_, fun t ht => absurd ht (Nat.not_lt_zero t)⟩
  rw [← T9_eq AI_ok]
  have : T9 AI = 0 := sm_zero (fun x _ => sm_zero (fun y _ => (show (0 : Int32).toInt.natAbs = 0 by decide)))
  omega
theorem zL1_AI : RepL zL1 AI := by
  refine ⟨⟨rfl, rfl, rfl, rfl⟩, fun c hc => ?_, fun c hc => rfl, fun c hc => rfl, fun c p hc hp => rfl, fun c p hc hp => rfl, fun t ht => absurd ht (Nat.not_lt_zero t)⟩
  have e : c = 0 ∨ c = 1 ∨ c = 2 ∨ c = 3 ∨ c = 4 ∨ c = 5 := by omega
  rcases e with rfl | rfl | rfl | rfl | rfl | rfl <;> decide
theorem in2_loop {Q : MS → Prop} {M0 : MS} (h : ∀ M, (∀ j, j < 336 → M 2 j = if j = 0 then 3 else if j = 1 then 1 else if j = 4 ∨ j = 26 ∨ j = 48 then 4 else 0) → (∀ j, j ≠ 2 → M j = M0 j) → Q M) : ∀ (m k n : Nat) (M : MS), k + m = 3 → m < n → (∀ j, j < 336 → M 2 j = if j = 0 then 3 else if j = 1 then 1 else if (j = 4 ∧ 0 < k) ∨ (j = 26 ∧ 1 < k) ∨ (j = 48 ∧ 2 < k) then 4 else 0) → (∀ j, j ≠ 2 → M j = M0 j) → wl_X4_init_87 Q n M (nI k) := by
  intro m
  induction m with
  | zero =>
    intro k n M hk hn hM hF
    obtain ⟨n, rfl, -⟩ := fuel1 hn
    rw [show k = 3 by omega] at hM ⊢
    refine ⟨fun _ => h M (fun j hj => ?_) hF, fun h0 => absurd (show (3 : Int32) ≤ nI 3 by decide) h0⟩
    rw [hM j hj]
    by_cases e0 : j = 0
    · rw [if_pos e0, if_pos e0]
    · rw [if_neg e0, if_neg e0]
      by_cases e1 : j = 1
      · rw [if_pos e1, if_pos e1]
      · rw [if_neg e1, if_neg e1]
        exact ite_c (by omega) _ _
  | succ m ih =>
    intro k n M hk hn hM hF
    obtain ⟨n, rfl, hn⟩ := fuel1 hn
    refine ⟨fun h0 => ?_, fun _ => ok_at ?_⟩
    · rw [show (3 : Int32) = nI 3 from rfl, i_le (by omega) (by omega)] at h0
      omega
    · rw [ix_z, i_cl (by omega), i_p1]
      refine ⟨i_in (by omega) (by decide), ih (k + 1) n _ (by omega) (by omega) (fun j hj => ?_) (fun j hj => ?_)⟩
      · show upd (M 2) (4 + 22 * k) 4 j = _
        by_cases e : j = 4 + 22 * k
        · rw [e, if_neg (by omega), if_neg (by omega), if_pos (by omega)]
          exact pk_us
        · rw [pk_un e, hM j hj]
          by_cases e0 : j = 0
          · rw [if_pos e0, if_pos e0]
          · rw [if_neg e0, if_neg e0]
            by_cases e1 : j = 1
            · rw [if_pos e1, if_pos e1]
            · rw [if_neg e1, if_neg e1]
              exact ite_c (by omega) _ _
      · show (if j = 2 then _ else M j) = M0 j
        rw [if_neg hj]
        exact hF j hj
theorem rr_AI {r : Nat → Int32} (h : ∀ j, j < 336 → r j = if j = 0 then 3 else if j = 1 then 1 else if j = 4 ∨ j = 26 ∨ j = 48 then 4 else 0) : RepR r AI := by
  have hz : ∀ j, j < 336 → ¬ j = 0 → ¬ j = 1 → ¬ (j = 4 ∨ j = 26 ∨ j = 48) → r j = 0 := fun j hj h0 h1 h2 => by
    rw [h j hj, if_neg h0, if_neg h1, if_neg h2]
  refine ⟨⟨?_, ?_, hz 2 (by omega) (by omega) (by omega) (by omega), hz 3 (by omega) (by omega) (by omega) (by omega)⟩, fun c hc => ?_, fun c hc => hz _ (by omega) (by omega) (by omega) (by omega), fun c hc => hz _ (by omega) (by omega) (by omega) (by omega), fun c p hc hp => hz _ (by omega) (by omega) (by omega) (by omega), fun c p hc hp => hz _ (by omega) (by omega) (by omega) (by omega), fun t ht => absurd ht (Nat.not_lt_zero t), fun c hc => hz _ (by omega) (by omega) (by omega) (by omega)⟩
  · rw [h 0 (by omega), if_pos rfl]
    rfl
  · rw [h 1 (by omega), if_neg (by omega), if_pos rfl]
    rfl
  · rw [h _ (by omega), if_neg (by omega), if_neg (by omega)]
    show _ = nI (if c < 3 then 4 else 0)
    by_cases e : c < 3
    · rw [if_pos (by omega), if_pos e]
      rfl
    · rw [if_neg (by omega), if_neg e]
      rfl
theorem goal_holds : GOAL := by
  refine ok_begin (fun u hu => ?_)
  intro M2 h2
  subst h2
  refine ⟨4, ?_⟩
  rw [z0]
  refine in2_loop (M0 := zM0) (fun M hM hF L xs hL => ?_) 3 0 4 _ (by omega) (by omega) (fun j hj => ?_) (fun j hj => ?_)
  · have e0 : M 0 = fun _ => 0 := hF 0 (by decide)
    have e6 : M 6 = fun _ => 0 := hF 6 (by decide)
    refine law_all L xs hL 600 0 M _ _ _ _ _ (by omega) (Or.inl rfl) ⟨((0, fun _ => 0), AI, (0, fun _ => AI), (fun _ => false), fun _ => AI), ?_, ?_, ?_⟩
    · exact ⟨⟨rfl, fun j hj => absurd hj (Nat.not_lt_zero j)⟩, zL1_AI, ⟨0, by omega, rfl, fun i hi => absurd hi (Nat.not_lt_zero i)⟩, fun i hi => ⟨rfl, fun hb => Bool.noConfusion (show false = true from hb)⟩⟩
    · refine ⟨⟨?_, fun j hj => absurd hj (Nat.not_lt_zero j)⟩, rr_AI hM, ⟨?_, fun i hi => absurd hi (Nat.not_lt_zero i)⟩, fun i hi => ⟨?_, fun hb => Bool.noConfusion (show false = true from hb)⟩⟩
      · rw [e0]
        rfl
      · rw [e0]
        rfl
      · rw [e6]
        rfl
    · exact ⟨⟨Nat.zero_le _, fun j hj => absurd hj (Nat.not_lt_zero j)⟩, AI_gd, ⟨Nat.zero_le _, fun i hi => absurd hi (Nat.not_lt_zero i)⟩, fun i hi hb => Bool.noConfusion (show false = true from hb)⟩
  · show upd u 0 3 j = _
    by_cases e0 : j = 0
    · rw [e0, if_pos rfl]
      exact pk_us
    · rw [if_neg e0, pk_un e0, hu j hj]
      by_cases e1 : j = 1
      · rw [if_pos e1, if_pos e1]
      · rw [if_neg e1, if_neg e1, if_neg (by omega)]
  · show (if j = 2 then _ else if j = 2 then _ else zM0 j) = zM0 j
    rw [if_neg hj, if_neg hj]

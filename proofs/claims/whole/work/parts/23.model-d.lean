theorem h_X4_X4_settled : ∀ w ∈ u_ws RX4 TX4 11, w ∈ wsX4_settled := fun _ h => List.mem_cons_of_mem _ (List.mem_append_right _ h)
set_option maxHeartbeats 4000000 in
set_option maxRecDepth 100000 in
theorem t_X4_settled {p : Program} {l : Launch} {e : Env} {s : State} {m : MethodId} {args : Array Value} {below : List Frame} {meth : Method} {c : Code} {D : va_G} {cs : Nat → ClassId} {A : Nat → Prop} (hC : MAt p s m args meth c RX4 cX4_settled 2 (some .int) wsX4_settled D cs) (q : Nat → Nat) (M : MS) (x1 : Int32) (Q : Int32 → MS → Prop) (hA : ∀ q : Nat, s.heap.size ≤ q → A q) (hw : wp_X4_settled M x1 Q) (H : Heap) (locs : List Loc) (hP : va_P D vwCl (w_Mod cs q M) H) (hD : va_D A (w_Mod cs q M)) (hS : va_S A s.heap H locs) (ls : Array Slot) (hl : lv_has ls 2 [(0, .ref (q 0)), (1, .int x1)]) : W p l e ({ frames := 3, cells := 0, slots := 0, locals := 70 } : Room) s m args below meth c H locs 0 0 (MQ below (va_Qi (fun r (u : MS) => Q r u) (fun (u : MS) t => va_P D vwCl (w_Mod cs q u) t.heap ∧ va_D A (w_Mod cs q u)) A) args s 0 0 A) (F0 m 0 ls []) := by
  obtain ⟨hx, hb, hr, hml, hown, hts, hlocks, hKK⟩ := id hC
  have hK := hKK.1
  refine lv_aload_n hx hb dX4_settled_0 rfl (lv_at hl 0 rfl) ?_
  refine lv_aload_n hx hb dX4_settled_1 rfl (lv_at hl 0 rfl) ?_
  refine va_get (D := D) (ci := 4) (v := .ref (q 2)) (C := RX4) (T := TX4) (N := 11) hx hb hts (h_X4_X4_settled) hown hK hP 0 rfl rfl 3 (by decide) (z_w hts 1 rfl) (fun _ h9 => h9) rfl dX4_settled_2 ?_
  refine lv_iload_n hx hb dX4_settled_5 rfl (lv_at hl 1 rfl) ?_
  have hPc := hP.sub (ws' := w_Row cs (q 2) 336 (M 2)) [2] rfl
  have hDc := hD.sub (ws' := w_Row cs (q 2) 336 (M 2)) [2] (by decide) rfl
  refine z_calli (va_runS (As := [.ref (q 2), .int x1]) (rest := [.ref (q 0)]) ⟨hx, hb, hml, hown, hts⟩ (c_X4_isCounter l D cs (q 2) H.size (M 2) x1 _ hw) (va_cwS 2 hts gX4_settled_X4_isCounter rfl rfl rfl (by decide +kernel) ⟨Nat.le_of_ble_eq_true rfl, Nat.le_of_ble_eq_true rfl⟩) (PC_S hPc hDc hKK) rfl rfl hl.1 rfl (lv_room (Nat.le_of_ble_eq_true rfl)) dX4_settled_6 ⟨Nat.le_of_ble_eq_true rfl, Nat.le_of_ble_eq_true rfl⟩) (fun r1 hw => ?_)
  obtain ⟨b1, hw⟩ := hw
  refine lv_if_eq (tgt := 16) hx hb dX4_settled_9 (by decide) (fun c2 => ?_) (fun c2 => ?_)
  · have hw := hw.1 c2
    refine lv_iconst (v := (1 : Int32)) hx hb dX4_settled_16 (by decide) ?_
    have hFc := va_free (wc := w_Mod cs q M) hD hS hA [0, 1, 2, 3, 4, 5, 6, 7, 8] rfl
    refine va_calli (va_runV (As := [.int (1 : Int32)]) (rest := []) ⟨hx, hb, hml, hown, hts⟩ (c_X4_refused l D cs q H.size M (1 : Int32) _ hw) (cwV 1 hts gX4_settled_X4_refused rfl rfl rfl (by decide +kernel) ⟨Nat.le_of_ble_eq_true rfl, Nat.le_of_ble_eq_true rfl⟩) (PC_V hP hD hKK 0 4 rfl rfl) rfl rfl hl.1 rfl (lv_room (Nat.le_of_ble_eq_true rfl)) dX4_settled_17 ⟨Nat.le_of_ble_eq_true rfl, Nat.le_of_ble_eq_true rfl⟩) hS (fun q _ h => hFc q h) hFc (fun r3 u3 t H locs ht hvm hw hB hz1 hk1 hS => ?_)
    obtain ⟨hP1, hD1⟩ := hB
    rw [ht] at hP1
    obtain ⟨b3, hw⟩ := hw
    have hD : va_D A (w_Mod cs q u3) := hD1.weaken (fun k q _ h => hFc q.1 h)
    have hP : va_P D vwCl (w_Mod cs q u3) H := hP1
    refine lv_if_eq (tgt := 25) hx hb dX4_settled_20 (by decide) (fun c4 => ?_) (fun c4 => ?_)
    · have hw := hw.1 c4
      refine lv_aload_n hx hb dX4_settled_25 rfl (lv_at hl 0 rfl) ?_
      refine va_get (D := D) (ci := 4) (v := .ref (q 2)) (C := RX4) (T := TX4) (N := 11) hx hb hts (h_X4_X4_settled) hown hK hP 0 rfl rfl 3 (by decide) (z_w hts 1 rfl) (fun _ h9 => h9) rfl dX4_settled_26 ?_
      refine lv_iconst (v := (0 : Int32)) hx hb dX4_settled_29 (by decide) ?_
      refine lv_aload_n hx hb dX4_settled_30 rfl (lv_at hl 0 rfl) ?_
      refine va_get (D := D) (ci := 4) (v := .ref (q 3)) (C := RX4) (T := TX4) (N := 11) hx hb hts (h_X4_X4_settled) hown hK hP 0 rfl rfl 4 (by decide) (z_w hts 2 rfl) (fun _ h9 => h9) rfl dX4_settled_31 ?_
      refine lv_iconst (v := (0 : Int32)) hx hb dX4_settled_34 (by decide) ?_
      have hPc := hP.sub (ws' := w_Row cs (q 2) 336 (u3 2) ++ w_Row cs (q 3) 336 (u3 3)) [2, 3] rfl
      have hDc := hD.sub (ws' := w_Row cs (q 2) 336 (u3 2) ++ w_Row cs (q 3) 336 (u3 3)) [2, 3] (by decide) rfl
      have hFc := va_free (wc := w_Row cs (q 2) 336 (u3 2) ++ w_Row cs (q 3) 336 (u3 3)) hD hS hA [2, 3] rfl
      refine va_callv (va_runS (As := [.ref (q 2), .int (0 : Int32), .ref (q 3), .int (0 : Int32)]) (rest := []) ⟨hx, hb, hml, hown, hts⟩ (c_X4_copyLine l D cs (q 2) (q 3) H.size 336 336 (u3 2) (u3 3) (0 : Int32) (0 : Int32) _ hw) (va_cwS 4 hts gX4_settled_X4_copyLine rfl rfl rfl (by decide +kernel) ⟨Nat.le_of_ble_eq_true rfl, Nat.le_of_ble_eq_true rfl⟩) (PC_S hPc hDc hKK) rfl rfl hl.1 rfl (lv_room (Nat.le_of_ble_eq_true rfl)) dX4_settled_35 ⟨Nat.le_of_ble_eq_true rfl, Nat.le_of_ble_eq_true rfl⟩) hS (fun q _ h => hFc q h) hFc (fun u5 t H locs ht hvm hw hB hz1 hk1 hS => ?_)
      obtain ⟨hP1, hD1⟩ := hB
      rw [ht] at hP1
      obtain ⟨hP, hD⟩ := va_join (wr := ([0, 1, 4, 5, 6, 7, 8].filterMap (fun i => (w_Mod cs q u3)[i]?))) (w1 := w_Row cs (q 2) 336 (u3 2) ++ w_Row cs (q 3) 336 u5) hP hD [2, 3] [0, 1, 4, 5, 6, 7, 8] rfl rfl (by decide) (by decide) hk1 hFc hP1 hD1
      have hP : va_P D vwCl (w_Mod cs q (zr2 u3 3 u5)) H := hP.sub (ws' := w_Mod cs q (zr2 u3 3 u5)) [0, 1, 7, 8, 2, 3, 4, 5, 6] rfl
      have hD : va_D A (w_Mod cs q (zr2 u3 3 u5)) := hD.sub (ws' := w_Mod cs q (zr2 u3 3 u5)) [0, 1, 7, 8, 2, 3, 4, 5, 6] (by decide) rfl
      refine lv_aload_n hx hb dX4_settled_38 rfl (lv_at hl 0 rfl) ?_
      refine lv_aload_n hx hb dX4_settled_39 rfl (lv_at hl 0 rfl) ?_
      refine va_get (D := D) (ci := 4) (v := .ref (q 3)) (C := RX4) (T := TX4) (N := 11) hx hb hts (h_X4_X4_settled) hown hK hP 0 rfl rfl 4 (by decide) (z_w hts 2 rfl) (fun _ h9 => h9) rfl dX4_settled_40 ?_
      refine lv_iload_n hx hb dX4_settled_43 rfl (lv_at hl 1 rfl) ?_
      have hFc := va_free (wc := w_Mod cs q (zr2 u3 3 u5)) hD hS hA [0, 1, 2, 3, 4, 5, 6, 7, 8] rfl
      refine va_calli (va_runV (As := [.ref (q 3), .int x1]) (rest := []) ⟨hx, hb, hml, hown, hts⟩ (c_X4_settles l D cs q H.size (zr2 u3 3 u5) x1 _ hw) (cwV 2 hts gX4_settled_X4_settles rfl rfl rfl (by decide +kernel) ⟨Nat.le_of_ble_eq_true rfl, Nat.le_of_ble_eq_true rfl⟩) (PC_V hP hD hKK 0 4 rfl rfl) rfl rfl hl.1 rfl (lv_room (Nat.le_of_ble_eq_true rfl)) dX4_settled_44 ⟨Nat.le_of_ble_eq_true rfl, Nat.le_of_ble_eq_true rfl⟩) hS (fun q _ h => hFc q h) hFc (fun r6 u6 t H locs ht hvm hw hB hz1 hk1 hS => ?_)
      obtain ⟨hP1, hD1⟩ := hB
      rw [ht] at hP1
      have hD : va_D A (w_Mod cs q u6) := hD1.weaken (fun k q _ h => hFc q.1 h)
      have hP : va_P D vwCl (w_Mod cs q u6) H := hP1
      exact W.iret (v := r6) hx hb hr (fun t ht hW => ⟨⟨r6, (u6), rfl, hw, by rw [ht]; exact hP, hD⟩, hS.F ht⟩) hS.2.2 dX4_settled_47 hlocks
    · have hw := hw.2 c4
      refine lv_iconst (v := (0 : Int32)) hx hb dX4_settled_23 (by decide) ?_
      exact W.iret (v := (0 : Int32)) hx hb hr (fun t ht hW => ⟨⟨(0 : Int32), (u3), rfl, hw, by rw [ht]; exact hP, hD⟩, hS.F ht⟩) hS.2.2 dX4_settled_24 hlocks
  · have hw := hw.2 c2
    refine lv_iconst (v := (0 : Int32)) hx hb dX4_settled_12 (by decide) ?_
    refine lv_goto (tgt := 17) hx hb dX4_settled_13 (by decide) ?_
    have hFc := va_free (wc := w_Mod cs q M) hD hS hA [0, 1, 2, 3, 4, 5, 6, 7, 8] rfl
    refine va_calli (va_runV (As := [.int (0 : Int32)]) (rest := []) ⟨hx, hb, hml, hown, hts⟩ (c_X4_refused l D cs q H.size M (0 : Int32) _ hw) (cwV 1 hts gX4_settled_X4_refused rfl rfl rfl (by decide +kernel) ⟨Nat.le_of_ble_eq_true rfl, Nat.le_of_ble_eq_true rfl⟩) (PC_V hP hD hKK 0 4 rfl rfl) rfl rfl hl.1 rfl (lv_room (Nat.le_of_ble_eq_true rfl)) dX4_settled_17 ⟨Nat.le_of_ble_eq_true rfl, Nat.le_of_ble_eq_true rfl⟩) hS (fun q _ h => hFc q h) hFc (fun r7 u7 t H locs ht hvm hw hB hz1 hk1 hS => ?_)
    obtain ⟨hP1, hD1⟩ := hB
    rw [ht] at hP1
    obtain ⟨b7, hw⟩ := hw
    have hD : va_D A (w_Mod cs q u7) := hD1.weaken (fun k q _ h => hFc q.1 h)
    have hP : va_P D vwCl (w_Mod cs q u7) H := hP1
    refine lv_if_eq (tgt := 25) hx hb dX4_settled_20 (by decide) (fun c8 => ?_) (fun c8 => ?_)
    · have hw := hw.1 c8
      refine lv_aload_n hx hb dX4_settled_25 rfl (lv_at hl 0 rfl) ?_
      refine va_get (D := D) (ci := 4) (v := .ref (q 2)) (C := RX4) (T := TX4) (N := 11) hx hb hts (h_X4_X4_settled) hown hK hP 0 rfl rfl 3 (by decide) (z_w hts 1 rfl) (fun _ h9 => h9) rfl dX4_settled_26 ?_
      refine lv_iconst (v := (0 : Int32)) hx hb dX4_settled_29 (by decide) ?_
      refine lv_aload_n hx hb dX4_settled_30 rfl (lv_at hl 0 rfl) ?_
      refine va_get (D := D) (ci := 4) (v := .ref (q 3)) (C := RX4) (T := TX4) (N := 11) hx hb hts (h_X4_X4_settled) hown hK hP 0 rfl rfl 4 (by decide) (z_w hts 2 rfl) (fun _ h9 => h9) rfl dX4_settled_31 ?_
      refine lv_iconst (v := (0 : Int32)) hx hb dX4_settled_34 (by decide) ?_
      have hPc := hP.sub (ws' := w_Row cs (q 2) 336 (u7 2) ++ w_Row cs (q 3) 336 (u7 3)) [2, 3] rfl
      have hDc := hD.sub (ws' := w_Row cs (q 2) 336 (u7 2) ++ w_Row cs (q 3) 336 (u7 3)) [2, 3] (by decide) rfl
      have hFc := va_free (wc := w_Row cs (q 2) 336 (u7 2) ++ w_Row cs (q 3) 336 (u7 3)) hD hS hA [2, 3] rfl
      refine va_callv (va_runS (As := [.ref (q 2), .int (0 : Int32), .ref (q 3), .int (0 : Int32)]) (rest := []) ⟨hx, hb, hml, hown, hts⟩ (c_X4_copyLine l D cs (q 2) (q 3) H.size 336 336 (u7 2) (u7 3) (0 : Int32) (0 : Int32) _ hw) (va_cwS 4 hts gX4_settled_X4_copyLine rfl rfl rfl (by decide +kernel) ⟨Nat.le_of_ble_eq_true rfl, Nat.le_of_ble_eq_true rfl⟩) (PC_S hPc hDc hKK) rfl rfl hl.1 rfl (lv_room (Nat.le_of_ble_eq_true rfl)) dX4_settled_35 ⟨Nat.le_of_ble_eq_true rfl, Nat.le_of_ble_eq_true rfl⟩) hS (fun q _ h => hFc q h) hFc (fun u9 t H locs ht hvm hw hB hz1 hk1 hS => ?_)
      obtain ⟨hP1, hD1⟩ := hB
      rw [ht] at hP1
      obtain ⟨hP, hD⟩ := va_join (wr := ([0, 1, 4, 5, 6, 7, 8].filterMap (fun i => (w_Mod cs q u7)[i]?))) (w1 := w_Row cs (q 2) 336 (u7 2) ++ w_Row cs (q 3) 336 u9) hP hD [2, 3] [0, 1, 4, 5, 6, 7, 8] rfl rfl (by decide) (by decide) hk1 hFc hP1 hD1
      have hP : va_P D vwCl (w_Mod cs q (zr2 u7 3 u9)) H := hP.sub (ws' := w_Mod cs q (zr2 u7 3 u9)) [0, 1, 7, 8, 2, 3, 4, 5, 6] rfl
      have hD : va_D A (w_Mod cs q (zr2 u7 3 u9)) := hD.sub (ws' := w_Mod cs q (zr2 u7 3 u9)) [0, 1, 7, 8, 2, 3, 4, 5, 6] (by decide) rfl
      refine lv_aload_n hx hb dX4_settled_38 rfl (lv_at hl 0 rfl) ?_
      refine lv_aload_n hx hb dX4_settled_39 rfl (lv_at hl 0 rfl) ?_
      refine va_get (D := D) (ci := 4) (v := .ref (q 3)) (C := RX4) (T := TX4) (N := 11) hx hb hts (h_X4_X4_settled) hown hK hP 0 rfl rfl 4 (by decide) (z_w hts 2 rfl) (fun _ h9 => h9) rfl dX4_settled_40 ?_
      refine lv_iload_n hx hb dX4_settled_43 rfl (lv_at hl 1 rfl) ?_
      have hFc := va_free (wc := w_Mod cs q (zr2 u7 3 u9)) hD hS hA [0, 1, 2, 3, 4, 5, 6, 7, 8] rfl
      refine va_calli (va_runV (As := [.ref (q 3), .int x1]) (rest := []) ⟨hx, hb, hml, hown, hts⟩ (c_X4_settles l D cs q H.size (zr2 u7 3 u9) x1 _ hw) (cwV 2 hts gX4_settled_X4_settles rfl rfl rfl (by decide +kernel) ⟨Nat.le_of_ble_eq_true rfl, Nat.le_of_ble_eq_true rfl⟩) (PC_V hP hD hKK 0 4 rfl rfl) rfl rfl hl.1 rfl (lv_room (Nat.le_of_ble_eq_true rfl)) dX4_settled_44 ⟨Nat.le_of_ble_eq_true rfl, Nat.le_of_ble_eq_true rfl⟩) hS (fun q _ h => hFc q h) hFc (fun r10 u10 t H locs ht hvm hw hB hz1 hk1 hS => ?_)
      obtain ⟨hP1, hD1⟩ := hB
      rw [ht] at hP1
      have hD : va_D A (w_Mod cs q u10) := hD1.weaken (fun k q _ h => hFc q.1 h)
      have hP : va_P D vwCl (w_Mod cs q u10) H := hP1
      exact W.iret (v := r10) hx hb hr (fun t ht hW => ⟨⟨r10, (u10), rfl, hw, by rw [ht]; exact hP, hD⟩, hS.F ht⟩) hS.2.2 dX4_settled_47 hlocks
    · have hw := hw.2 c8
      refine lv_iconst (v := (0 : Int32)) hx hb dX4_settled_23 (by decide) ?_
      exact W.iret (v := (0 : Int32)) hx hb hr (fun t ht hW => ⟨⟨(0 : Int32), (u7), rfl, hw, by rw [ht]; exact hP, hD⟩, hS.F ht⟩) hS.2.2 dX4_settled_24 hlocks
set_option maxHeartbeats 4000000 in
set_option maxRecDepth 100000 in
theorem c_X4_settled (l : Launch) (D : va_G) (cs : Nat → ClassId) (q : Nat → Nat) (sz : Nat) (M : MS) (x1 : Int32) (Q : Int32 → MS → Prop) (hw : wp_X4_settled M x1 Q) : Met l yX4_settled wsX4_settled ({ frames := 3, cells := 0, slots := 0, locals := 70 } : Room) (va_Pc [.ref (q 0), .int x1] (PC D cs (w_Mod cs q M) sz)) (va_Qi (fun r (u : MS) => Q r u) (fun (u : MS) t => va_P D vwCl (w_Mod cs q u) t.heap ∧ va_D (va_A (w_Mod cs q M) sz) (w_Mod cs q u)) (va_A (w_Mod cs q M) sz)) 0 0 (va_A (w_Mod cs q M) sz) := by
  refine Met.ofW (cc := cX4_settled) (maxL := 2) (ret := (some .int)) (by decide) rfl ?_
  intro p e s m args below meth c s₁ B hml hv
  obtain ⟨rfl, hsz, hP, hKK, hD0⟩ := hv
  have hC : MAt p s m _ meth c RX4 cX4_settled 2 (some .int) wsX4_settled D cs := ⟨B.exec, B.bytes, B.returns, hml, findClass_of_methodNamed B.named, atoms_spec (ws := wsX4_settled) B.pre, B.notSynchronized, hKK⟩
  have hl := lv_entry ([.ref (q 0), .int x1]) (n := 2) (Nat.le_of_ble_eq_true rfl)
  rw [lg_entry_eq]
  generalize (lg_sl ([.ref (q 0), .int x1]) ++ List.replicate (2 - (lg_sl ([.ref (q 0), .int x1])).length) Slot.unset).toArray = ls at hl ⊢
  subst hsz
  have hD := hD0.self (sz := s.heap.size)
  have hA : ∀ z : Nat, s.heap.size ≤ z → va_A (w_Mod cs q M) s.heap.size z := fun z h => Or.inr h
  exact t_X4_settled hC q M x1 Q hA hw s.heap [] hP hD va_S.rf ls hl
theorem h_X4_X4_shownAtLast : ∀ w ∈ u_ws RX4 TX4 11, w ∈ wsX4_shownAtLast := fun _ h => List.mem_cons_of_mem _ (List.mem_append_right _ h)
set_option maxHeartbeats 4000000 in
set_option maxRecDepth 100000 in
theorem t_X4_shownAtLast_38 {p : Program} {l : Launch} {e : Env} {s : State} {m : MethodId} {args : Array Value} {below : List Frame} {meth : Method} {c : Code} {D : va_G} {cs : Nat → ClassId} {A : Nat → Prop} (hC : MAt p s m args meth c RX4 cX4_shownAtLast 2 (some .int) wsX4_shownAtLast D cs) (q : Nat → Nat) (x1 : Int32) (Q : Int32 → MS → Prop) (hA : ∀ q : Nat, s.heap.size ≤ q → A q) : ∀ (n : Nat) (M : MS), wl_X4_shownAtLast_38 x1 Q n M → ∀ (H : Heap) (locs : List Loc), va_P D vwCl (w_Mod cs q M) H → va_D A (w_Mod cs q M) → va_S A s.heap H locs → ∀ ls : Array Slot, lv_has ls 2 [(0, .ref (q 0)), (1, .int x1)] → W p l e ({ frames := 4, cells := 0, slots := 0, locals := 85 } : Room) s m args below meth c H locs 0 0 (MQ below (va_Qi (fun r (u : MS) => Q r u) (fun (u : MS) t => va_P D vwCl (w_Mod cs q u) t.heap ∧ va_D A (w_Mod cs q u)) A) args s 0 0 A) (F0 m 38 ls []) := by
  obtain ⟨hx, hb, hr, hml, hown, hts, hlocks, hKK⟩ := id hC
  have hK := hKK.1
  intro n
  induction n with
  | zero =>
    intro M hw
    exact False.elim hw
  | succ n ih =>
    intro M hw H locs hP hD hS ls hl
    refine lv_aload_n hx hb dX4_shownAtLast_38 rfl (lv_at hl 0 rfl) ?_
    refine va_get (D := D) (ci := 4) (v := .ref (q 3)) (C := RX4) (T := TX4) (N := 11) hx hb hts (h_X4_X4_shownAtLast) hown hK hP 0 rfl rfl 4 (by decide) (z_w hts 2 rfl) (fun _ h9 => h9) rfl dX4_shownAtLast_39 ?_
    have hPc := hP.sub (ws' := w_Row cs (q 3) 336 (M 3)) [3] rfl
    have hDc := hD.sub (ws' := w_Row cs (q 3) 336 (M 3)) [3] (by decide) rfl
    refine z_calli (va_runS (As := [.ref (q 3)]) (rest := []) ⟨hx, hb, hml, hown, hts⟩ (c_X4_allSettled l D cs (q 3) H.size (M 3) _ hw) (va_cwS 1 hts gX4_shownAtLast_X4_allSettled rfl rfl rfl (by decide +kernel) ⟨Nat.le_of_ble_eq_true rfl, Nat.le_of_ble_eq_true rfl⟩) (PC_S hPc hDc hKK) rfl rfl hl.1 rfl (lv_room (Nat.le_of_ble_eq_true rfl)) dX4_shownAtLast_42 ⟨Nat.le_of_ble_eq_true rfl, Nat.le_of_ble_eq_true rfl⟩) (fun r6 hw => ?_)
    obtain ⟨b6, hw⟩ := hw
    refine lv_if_ne (tgt := 59) hx hb dX4_shownAtLast_45 (by decide) (fun c7 => ?_) (fun c7 => ?_)
    · have hw := hw.2 c7
      refine lv_aload_n hx hb dX4_shownAtLast_59 rfl (lv_at hl 0 rfl) ?_
      refine va_get (D := D) (ci := 4) (v := .ref (q 3)) (C := RX4) (T := TX4) (N := 11) hx hb hts (h_X4_X4_shownAtLast) hown hK hP 0 rfl rfl 4 (by decide) (z_w hts 2 rfl) (fun _ h9 => h9) rfl dX4_shownAtLast_60 ?_
      refine lv_iload_n hx hb dX4_shownAtLast_63 rfl (lv_at hl 1 rfl) ?_
      have hPc := hP.sub (ws' := w_Row cs (q 3) 336 (M 3)) [3] rfl
      have hDc := hD.sub (ws' := w_Row cs (q 3) 336 (M 3)) [3] (by decide) rfl
      refine z_calli (va_runS (As := [.ref (q 3), .int x1]) (rest := []) ⟨hx, hb, hml, hown, hts⟩ (c_X4_shownOn l D cs (q 3) H.size (M 3) x1 _ hw) (va_cwS 2 hts gX4_shownAtLast_X4_shownOn rfl rfl rfl (by decide +kernel) ⟨Nat.le_of_ble_eq_true rfl, Nat.le_of_ble_eq_true rfl⟩) (PC_S hPc hDc hKK) rfl rfl hl.1 rfl (lv_room (Nat.le_of_ble_eq_true rfl)) dX4_shownAtLast_64 ⟨Nat.le_of_ble_eq_true rfl, Nat.le_of_ble_eq_true rfl⟩) (fun r8 hw => ?_)
      exact W.iret (v := r8) hx hb hr (fun t ht hW => ⟨⟨r8, (M), rfl, hw, by rw [ht]; exact hP, hD⟩, hS.F ht⟩) hS.2.2 dX4_shownAtLast_67 hlocks
    · have hw := hw.1 c7
      refine lv_aload_n hx hb dX4_shownAtLast_48 rfl (lv_at hl 0 rfl) ?_
      refine lv_aload_n hx hb dX4_shownAtLast_49 rfl (lv_at hl 0 rfl) ?_
      refine va_get (D := D) (ci := 4) (v := .ref (q 3)) (C := RX4) (T := TX4) (N := 11) hx hb hts (h_X4_X4_shownAtLast) hown hK hP 0 rfl rfl 4 (by decide) (z_w hts 2 rfl) (fun _ h9 => h9) rfl dX4_shownAtLast_50 ?_
      have hFc := va_free (wc := w_Mod cs q M) hD hS hA [0, 1, 2, 3, 4, 5, 6, 7, 8] rfl
      refine va_callv (va_runV (As := [.ref (q 3)]) (rest := []) ⟨hx, hb, hml, hown, hts⟩ (c_X4_beat_t l D cs q H.size M _ hw) (cwV 1 hts gX4_shownAtLast_X4_beat rfl rfl rfl (by decide +kernel) ⟨Nat.le_of_ble_eq_true rfl, Nat.le_of_ble_eq_true rfl⟩) (PC_V hP hD hKK 0 4 rfl rfl) rfl rfl hl.1 rfl (lv_room (Nat.le_of_ble_eq_true rfl)) dX4_shownAtLast_53 ⟨Nat.le_of_ble_eq_true rfl, Nat.le_of_ble_eq_true rfl⟩) hS (fun q _ h => hFc q h) hFc (fun u9 t H locs ht hvm hw hB hz1 hk1 hS => ?_)
      obtain ⟨hP1, hD1⟩ := hB
      rw [ht] at hP1
      have hD : va_D A (w_Mod cs q u9) := hD1.weaken (fun k q _ h => hFc q.1 h)
      have hP : va_P D vwCl (w_Mod cs q u9) H := hP1
      refine lv_goto (tgt := 38) hx hb dX4_shownAtLast_56 (by decide) ?_
      exact ih _ hw _ _ hP hD hS ls (lv_sub hl [0, 1] rfl)
set_option maxHeartbeats 4000000 in
set_option maxRecDepth 100000 in
theorem t_X4_shownAtLast {p : Program} {l : Launch} {e : Env} {s : State} {m : MethodId} {args : Array Value} {below : List Frame} {meth : Method} {c : Code} {D : va_G} {cs : Nat → ClassId} {A : Nat → Prop} (hC : MAt p s m args meth c RX4 cX4_shownAtLast 2 (some .int) wsX4_shownAtLast D cs) (q : Nat → Nat) (M : MS) (x1 : Int32) (Q : Int32 → MS → Prop) (hA : ∀ q : Nat, s.heap.size ≤ q → A q) (hw : wp_X4_shownAtLast M x1 Q) (H : Heap) (locs : List Loc) (hP : va_P D vwCl (w_Mod cs q M) H) (hD : va_D A (w_Mod cs q M)) (hS : va_S A s.heap H locs) (ls : Array Slot) (hl : lv_has ls 2 [(0, .ref (q 0)), (1, .int x1)]) : W p l e ({ frames := 4, cells := 0, slots := 0, locals := 85 } : Room) s m args below meth c H locs 0 0 (MQ below (va_Qi (fun r (u : MS) => Q r u) (fun (u : MS) t => va_P D vwCl (w_Mod cs q u) t.heap ∧ va_D A (w_Mod cs q u)) A) args s 0 0 A) (F0 m 0 ls []) := by
  obtain ⟨hx, hb, hr, hml, hown, hts, hlocks, hKK⟩ := id hC
  have hK := hKK.1
  refine lv_aload_n hx hb dX4_shownAtLast_0 rfl (lv_at hl 0 rfl) ?_
  refine lv_aload_n hx hb dX4_shownAtLast_1 rfl (lv_at hl 0 rfl) ?_
  refine va_get (D := D) (ci := 4) (v := .ref (q 2)) (C := RX4) (T := TX4) (N := 11) hx hb hts (h_X4_X4_shownAtLast) hown hK hP 0 rfl rfl 3 (by decide) (z_w hts 1 rfl) (fun _ h9 => h9) rfl dX4_shownAtLast_2 ?_
  refine lv_iload_n hx hb dX4_shownAtLast_5 rfl (lv_at hl 1 rfl) ?_
  have hPc := hP.sub (ws' := w_Row cs (q 2) 336 (M 2)) [2] rfl
  have hDc := hD.sub (ws' := w_Row cs (q 2) 336 (M 2)) [2] (by decide) rfl
  refine z_calli (va_runS (As := [.ref (q 2), .int x1]) (rest := [.ref (q 0)]) ⟨hx, hb, hml, hown, hts⟩ (c_X4_isCounter l D cs (q 2) H.size (M 2) x1 _ hw) (va_cwS 2 hts gX4_shownAtLast_X4_isCounter rfl rfl rfl (by decide +kernel) ⟨Nat.le_of_ble_eq_true rfl, Nat.le_of_ble_eq_true rfl⟩) (PC_S hPc hDc hKK) rfl rfl hl.1 rfl (lv_room (Nat.le_of_ble_eq_true rfl)) dX4_shownAtLast_6 ⟨Nat.le_of_ble_eq_true rfl, Nat.le_of_ble_eq_true rfl⟩) (fun r1 hw => ?_)
  obtain ⟨b1, hw⟩ := hw
  refine lv_if_eq (tgt := 16) hx hb dX4_shownAtLast_9 (by decide) (fun c2 => ?_) (fun c2 => ?_)
  · have hw := hw.1 c2
    refine lv_iconst (v := (1 : Int32)) hx hb dX4_shownAtLast_16 (by decide) ?_
    have hFc := va_free (wc := w_Mod cs q M) hD hS hA [0, 1, 2, 3, 4, 5, 6, 7, 8] rfl
    refine va_calli (va_runV (As := [.int (1 : Int32)]) (rest := []) ⟨hx, hb, hml, hown, hts⟩ (c_X4_refused l D cs q H.size M (1 : Int32) _ hw) (cwV 1 hts gX4_shownAtLast_X4_refused rfl rfl rfl (by decide +kernel) ⟨Nat.le_of_ble_eq_true rfl, Nat.le_of_ble_eq_true rfl⟩) (PC_V hP hD hKK 0 4 rfl rfl) rfl rfl hl.1 rfl (lv_room (Nat.le_of_ble_eq_true rfl)) dX4_shownAtLast_17 ⟨Nat.le_of_ble_eq_true rfl, Nat.le_of_ble_eq_true rfl⟩) hS (fun q _ h => hFc q h) hFc (fun r3 u3 t H locs ht hvm hw hB hz1 hk1 hS => ?_)
    obtain ⟨hP1, hD1⟩ := hB
    rw [ht] at hP1
    obtain ⟨b3, hw⟩ := hw
    have hD : va_D A (w_Mod cs q u3) := hD1.weaken (fun k q _ h => hFc q.1 h)
    have hP : va_P D vwCl (w_Mod cs q u3) H := hP1
    refine lv_if_eq (tgt := 25) hx hb dX4_shownAtLast_20 (by decide) (fun c4 => ?_) (fun c4 => ?_)
    · have hw := hw.1 c4
      refine lv_aload_n hx hb dX4_shownAtLast_25 rfl (lv_at hl 0 rfl) ?_
      refine va_get (D := D) (ci := 4) (v := .ref (q 2)) (C := RX4) (T := TX4) (N := 11) hx hb hts (h_X4_X4_shownAtLast) hown hK hP 0 rfl rfl 3 (by decide) (z_w hts 1 rfl) (fun _ h9 => h9) rfl dX4_shownAtLast_26 ?_
      refine lv_iconst (v := (0 : Int32)) hx hb dX4_shownAtLast_29 (by decide) ?_
      refine lv_aload_n hx hb dX4_shownAtLast_30 rfl (lv_at hl 0 rfl) ?_
      refine va_get (D := D) (ci := 4) (v := .ref (q 3)) (C := RX4) (T := TX4) (N := 11) hx hb hts (h_X4_X4_shownAtLast) hown hK hP 0 rfl rfl 4 (by decide) (z_w hts 2 rfl) (fun _ h9 => h9) rfl dX4_shownAtLast_31 ?_
      refine lv_iconst (v := (0 : Int32)) hx hb dX4_shownAtLast_34 (by decide) ?_
      have hPc := hP.sub (ws' := w_Row cs (q 2) 336 (u3 2) ++ w_Row cs (q 3) 336 (u3 3)) [2, 3] rfl
      have hDc := hD.sub (ws' := w_Row cs (q 2) 336 (u3 2) ++ w_Row cs (q 3) 336 (u3 3)) [2, 3] (by decide) rfl
      have hFc := va_free (wc := w_Row cs (q 2) 336 (u3 2) ++ w_Row cs (q 3) 336 (u3 3)) hD hS hA [2, 3] rfl
      refine va_callv (va_runS (As := [.ref (q 2), .int (0 : Int32), .ref (q 3), .int (0 : Int32)]) (rest := []) ⟨hx, hb, hml, hown, hts⟩ (c_X4_copyLine l D cs (q 2) (q 3) H.size 336 336 (u3 2) (u3 3) (0 : Int32) (0 : Int32) _ hw) (va_cwS 4 hts gX4_shownAtLast_X4_copyLine rfl rfl rfl (by decide +kernel) ⟨Nat.le_of_ble_eq_true rfl, Nat.le_of_ble_eq_true rfl⟩) (PC_S hPc hDc hKK) rfl rfl hl.1 rfl (lv_room (Nat.le_of_ble_eq_true rfl)) dX4_shownAtLast_35 ⟨Nat.le_of_ble_eq_true rfl, Nat.le_of_ble_eq_true rfl⟩) hS (fun q _ h => hFc q h) hFc (fun u5 t H locs ht hvm hw hB hz1 hk1 hS => ?_)
      obtain ⟨hP1, hD1⟩ := hB
      rw [ht] at hP1
      obtain ⟨hP, hD⟩ := va_join (wr := ([0, 1, 4, 5, 6, 7, 8].filterMap (fun i => (w_Mod cs q u3)[i]?))) (w1 := w_Row cs (q 2) 336 (u3 2) ++ w_Row cs (q 3) 336 u5) hP hD [2, 3] [0, 1, 4, 5, 6, 7, 8] rfl rfl (by decide) (by decide) hk1 hFc hP1 hD1
      have hP : va_P D vwCl (w_Mod cs q (zr2 u3 3 u5)) H := hP.sub (ws' := w_Mod cs q (zr2 u3 3 u5)) [0, 1, 7, 8, 2, 3, 4, 5, 6] rfl
      have hD : va_D A (w_Mod cs q (zr2 u3 3 u5)) := hD.sub (ws' := w_Mod cs q (zr2 u3 3 u5)) [0, 1, 7, 8, 2, 3, 4, 5, 6] (by decide) rfl
      obtain ⟨n10, hw⟩ := hw
      exact t_X4_shownAtLast_38 hC q _ _ hA n10 _ hw H locs hP hD hS ls (lv_sub hl [0, 1] rfl)
    · have hw := hw.2 c4
      refine lv_iconst (v := (0 : Int32)) hx hb dX4_shownAtLast_23 (by decide) ?_
      exact W.iret (v := (0 : Int32)) hx hb hr (fun t ht hW => ⟨⟨(0 : Int32), (u3), rfl, hw, by rw [ht]; exact hP, hD⟩, hS.F ht⟩) hS.2.2 dX4_shownAtLast_24 hlocks
  · have hw := hw.2 c2
    refine lv_iconst (v := (0 : Int32)) hx hb dX4_shownAtLast_12 (by decide) ?_
    refine lv_goto (tgt := 17) hx hb dX4_shownAtLast_13 (by decide) ?_
    have hFc := va_free (wc := w_Mod cs q M) hD hS hA [0, 1, 2, 3, 4, 5, 6, 7, 8] rfl
    refine va_calli (va_runV (As := [.int (0 : Int32)]) (rest := []) ⟨hx, hb, hml, hown, hts⟩ (c_X4_refused l D cs q H.size M (0 : Int32) _ hw) (cwV 1 hts gX4_shownAtLast_X4_refused rfl rfl rfl (by decide +kernel) ⟨Nat.le_of_ble_eq_true rfl, Nat.le_of_ble_eq_true rfl⟩) (PC_V hP hD hKK 0 4 rfl rfl) rfl rfl hl.1 rfl (lv_room (Nat.le_of_ble_eq_true rfl)) dX4_shownAtLast_17 ⟨Nat.le_of_ble_eq_true rfl, Nat.le_of_ble_eq_true rfl⟩) hS (fun q _ h => hFc q h) hFc (fun r11 u11 t H locs ht hvm hw hB hz1 hk1 hS => ?_)
    obtain ⟨hP1, hD1⟩ := hB
    rw [ht] at hP1
    obtain ⟨b11, hw⟩ := hw
    have hD : va_D A (w_Mod cs q u11) := hD1.weaken (fun k q _ h => hFc q.1 h)
    have hP : va_P D vwCl (w_Mod cs q u11) H := hP1
    refine lv_if_eq (tgt := 25) hx hb dX4_shownAtLast_20 (by decide) (fun c12 => ?_) (fun c12 => ?_)
    · have hw := hw.1 c12
      refine lv_aload_n hx hb dX4_shownAtLast_25 rfl (lv_at hl 0 rfl) ?_
      refine va_get (D := D) (ci := 4) (v := .ref (q 2)) (C := RX4) (T := TX4) (N := 11) hx hb hts (h_X4_X4_shownAtLast) hown hK hP 0 rfl rfl 3 (by decide) (z_w hts 1 rfl) (fun _ h9 => h9) rfl dX4_shownAtLast_26 ?_
      refine lv_iconst (v := (0 : Int32)) hx hb dX4_shownAtLast_29 (by decide) ?_
      refine lv_aload_n hx hb dX4_shownAtLast_30 rfl (lv_at hl 0 rfl) ?_
      refine va_get (D := D) (ci := 4) (v := .ref (q 3)) (C := RX4) (T := TX4) (N := 11) hx hb hts (h_X4_X4_shownAtLast) hown hK hP 0 rfl rfl 4 (by decide) (z_w hts 2 rfl) (fun _ h9 => h9) rfl dX4_shownAtLast_31 ?_
      refine lv_iconst (v := (0 : Int32)) hx hb dX4_shownAtLast_34 (by decide) ?_
      have hPc := hP.sub (ws' := w_Row cs (q 2) 336 (u11 2) ++ w_Row cs (q 3) 336 (u11 3)) [2, 3] rfl
      have hDc := hD.sub (ws' := w_Row cs (q 2) 336 (u11 2) ++ w_Row cs (q 3) 336 (u11 3)) [2, 3] (by decide) rfl
      have hFc := va_free (wc := w_Row cs (q 2) 336 (u11 2) ++ w_Row cs (q 3) 336 (u11 3)) hD hS hA [2, 3] rfl
      refine va_callv (va_runS (As := [.ref (q 2), .int (0 : Int32), .ref (q 3), .int (0 : Int32)]) (rest := []) ⟨hx, hb, hml, hown, hts⟩ (c_X4_copyLine l D cs (q 2) (q 3) H.size 336 336 (u11 2) (u11 3) (0 : Int32) (0 : Int32) _ hw) (va_cwS 4 hts gX4_shownAtLast_X4_copyLine rfl rfl rfl (by decide +kernel) ⟨Nat.le_of_ble_eq_true rfl, Nat.le_of_ble_eq_true rfl⟩) (PC_S hPc hDc hKK) rfl rfl hl.1 rfl (lv_room (Nat.le_of_ble_eq_true rfl)) dX4_shownAtLast_35 ⟨Nat.le_of_ble_eq_true rfl, Nat.le_of_ble_eq_true rfl⟩) hS (fun q _ h => hFc q h) hFc (fun u13 t H locs ht hvm hw hB hz1 hk1 hS => ?_)
      obtain ⟨hP1, hD1⟩ := hB
      rw [ht] at hP1
      obtain ⟨hP, hD⟩ := va_join (wr := ([0, 1, 4, 5, 6, 7, 8].filterMap (fun i => (w_Mod cs q u11)[i]?))) (w1 := w_Row cs (q 2) 336 (u11 2) ++ w_Row cs (q 3) 336 u13) hP hD [2, 3] [0, 1, 4, 5, 6, 7, 8] rfl rfl (by decide) (by decide) hk1 hFc hP1 hD1
      have hP : va_P D vwCl (w_Mod cs q (zr2 u11 3 u13)) H := hP.sub (ws' := w_Mod cs q (zr2 u11 3 u13)) [0, 1, 7, 8, 2, 3, 4, 5, 6] rfl
      have hD : va_D A (w_Mod cs q (zr2 u11 3 u13)) := hD.sub (ws' := w_Mod cs q (zr2 u11 3 u13)) [0, 1, 7, 8, 2, 3, 4, 5, 6] (by decide) rfl
      obtain ⟨n14, hw⟩ := hw
      exact t_X4_shownAtLast_38 hC q _ _ hA n14 _ hw H locs hP hD hS ls (lv_sub hl [0, 1] rfl)
    · have hw := hw.2 c12
      refine lv_iconst (v := (0 : Int32)) hx hb dX4_shownAtLast_23 (by decide) ?_
      exact W.iret (v := (0 : Int32)) hx hb hr (fun t ht hW => ⟨⟨(0 : Int32), (u11), rfl, hw, by rw [ht]; exact hP, hD⟩, hS.F ht⟩) hS.2.2 dX4_shownAtLast_24 hlocks
set_option maxHeartbeats 4000000 in
set_option maxRecDepth 100000 in
theorem c_X4_shownAtLast (l : Launch) (D : va_G) (cs : Nat → ClassId) (q : Nat → Nat) (sz : Nat) (M : MS) (x1 : Int32) (Q : Int32 → MS → Prop) (hw : wp_X4_shownAtLast M x1 Q) : Met l yX4_shownAtLast wsX4_shownAtLast ({ frames := 4, cells := 0, slots := 0, locals := 85 } : Room) (va_Pc [.ref (q 0), .int x1] (PC D cs (w_Mod cs q M) sz)) (va_Qi (fun r (u : MS) => Q r u) (fun (u : MS) t => va_P D vwCl (w_Mod cs q u) t.heap ∧ va_D (va_A (w_Mod cs q M) sz) (w_Mod cs q u)) (va_A (w_Mod cs q M) sz)) 0 0 (va_A (w_Mod cs q M) sz) := by
  refine Met.ofW (cc := cX4_shownAtLast) (maxL := 2) (ret := (some .int)) (by decide) rfl ?_
  intro p e s m args below meth c s₁ B hml hv
  obtain ⟨rfl, hsz, hP, hKK, hD0⟩ := hv
  have hC : MAt p s m _ meth c RX4 cX4_shownAtLast 2 (some .int) wsX4_shownAtLast D cs := ⟨B.exec, B.bytes, B.returns, hml, findClass_of_methodNamed B.named, atoms_spec (ws := wsX4_shownAtLast) B.pre, B.notSynchronized, hKK⟩
  have hl := lv_entry ([.ref (q 0), .int x1]) (n := 2) (Nat.le_of_ble_eq_true rfl)
  rw [lg_entry_eq]
  generalize (lg_sl ([.ref (q 0), .int x1]) ++ List.replicate (2 - (lg_sl ([.ref (q 0), .int x1])).length) Slot.unset).toArray = ls at hl ⊢
  subst hsz
  have hD := hD0.self (sz := s.heap.size)
  have hA : ∀ z : Nat, s.heap.size ≤ z → va_A (w_Mod cs q M) s.heap.size z := fun z h => Or.inr h
  exact t_X4_shownAtLast hC q M x1 Q hA hw s.heap [] hP hD va_S.rf ls hl
theorem h_X4_X4_whenShown : ∀ w ∈ u_ws RX4 TX4 11, w ∈ wsX4_whenShown := fun _ h => List.mem_cons_of_mem _ (List.mem_append_right _ h)
set_option maxHeartbeats 4000000 in
set_option maxRecDepth 100000 in
theorem t_X4_whenShown_56 {p : Program} {l : Launch} {e : Env} {s : State} {m : MethodId} {args : Array Value} {below : List Frame} {meth : Method} {c : Code} {D : va_G} {cs : Nat → ClassId} {A : Nat → Prop} (hC : MAt p s m args meth c RX4 cX4_whenShown 4 (some .int) wsX4_whenShown D cs) (q : Nat → Nat) (x1 : Int32) (x2 : Int32) (Q : Int32 → MS → Prop) (hA : ∀ q : Nat, s.heap.size ≤ q → A q) : ∀ (n : Nat) (M : MS) (x3 : Int32), wl_X4_whenShown_56 x1 x2 Q n M x3 → ∀ (H : Heap) (locs : List Loc), va_P D vwCl (w_Mod cs q M) H → va_D A (w_Mod cs q M) → va_S A s.heap H locs → ∀ ls : Array Slot, lv_has ls 4 [(0, .ref (q 0)), (1, .int x1), (2, .int x2), (3, .int x3)] → W p l e ({ frames := 4, cells := 0, slots := 0, locals := 85 } : Room) s m args below meth c H locs 0 0 (MQ below (va_Qi (fun r (u : MS) => Q r u) (fun (u : MS) t => va_P D vwCl (w_Mod cs q u) t.heap ∧ va_D A (w_Mod cs q u)) A) args s 0 0 A) (F0 m 56 ls []) := by
  obtain ⟨hx, hb, hr, hml, hown, hts, hlocks, hKK⟩ := id hC
  have hK := hKK.1
  intro n
  induction n with
  | zero =>
    intro M x3 hw
    exact False.elim hw
  | succ n ih =>
    intro M x3 hw H locs hP hD hS ls hl
    refine lv_aload_n hx hb dX4_whenShown_56 rfl (lv_at hl 0 rfl) ?_
    refine va_get (D := D) (ci := 4) (v := .ref (q 3)) (C := RX4) (T := TX4) (N := 11) hx hb hts (h_X4_X4_whenShown) hown hK hP 0 rfl rfl 4 (by decide) (z_w hts 3 rfl) (fun _ h9 => h9) rfl dX4_whenShown_57 ?_
    refine lv_iload_n hx hb dX4_whenShown_60 rfl (lv_at hl 1 rfl) ?_
    have hPc := hP.sub (ws' := w_Row cs (q 3) 336 (M 3)) [3] rfl
    have hDc := hD.sub (ws' := w_Row cs (q 3) 336 (M 3)) [3] (by decide) rfl
    refine z_calli (va_runS (As := [.ref (q 3), .int x1]) (rest := []) ⟨hx, hb, hml, hown, hts⟩ (c_X4_shownOn l D cs (q 3) H.size (M 3) x1 _ hw) (va_cwS 2 hts gX4_whenShown_X4_shownOn rfl rfl rfl (by decide +kernel) ⟨Nat.le_of_ble_eq_true rfl, Nat.le_of_ble_eq_true rfl⟩) (PC_S hPc hDc hKK) rfl rfl hl.1 rfl (lv_room (Nat.le_of_ble_eq_true rfl)) dX4_whenShown_61 ⟨Nat.le_of_ble_eq_true rfl, Nat.le_of_ble_eq_true rfl⟩) (fun r8 hw => ?_)
    refine lv_iload_n hx hb dX4_whenShown_64 rfl (lv_at hl 2 rfl) ?_
    refine lv_icmp_eq (tgt := 94) hx hb dX4_whenShown_65 (by decide) (fun c9 => ?_) (fun c9 => ?_)
    · have hw := hw.1 c9
      refine lv_iload_n hx hb dX4_whenShown_94 rfl (lv_at hl 3 rfl) ?_
      exact W.iret (v := x3) hx hb hr (fun t ht hW => ⟨⟨x3, (M), rfl, hw, by rw [ht]; exact hP, hD⟩, hS.F ht⟩) hS.2.2 dX4_whenShown_95 hlocks
    · have hw := hw.2 c9
      refine lv_aload_n hx hb dX4_whenShown_68 rfl (lv_at hl 0 rfl) ?_
      refine va_get (D := D) (ci := 4) (v := .ref (q 3)) (C := RX4) (T := TX4) (N := 11) hx hb hts (h_X4_X4_whenShown) hown hK hP 0 rfl rfl 4 (by decide) (z_w hts 3 rfl) (fun _ h9 => h9) rfl dX4_whenShown_69 ?_
      have hPc := hP.sub (ws' := w_Row cs (q 3) 336 (M 3)) [3] rfl
      have hDc := hD.sub (ws' := w_Row cs (q 3) 336 (M 3)) [3] (by decide) rfl
      refine z_calli (va_runS (As := [.ref (q 3)]) (rest := []) ⟨hx, hb, hml, hown, hts⟩ (c_X4_allSettled l D cs (q 3) H.size (M 3) _ hw) (va_cwS 1 hts gX4_whenShown_X4_allSettled rfl rfl rfl (by decide +kernel) ⟨Nat.le_of_ble_eq_true rfl, Nat.le_of_ble_eq_true rfl⟩) (PC_S hPc hDc hKK) rfl rfl hl.1 rfl (lv_room (Nat.le_of_ble_eq_true rfl)) dX4_whenShown_72 ⟨Nat.le_of_ble_eq_true rfl, Nat.le_of_ble_eq_true rfl⟩) (fun r10 hw => ?_)
      obtain ⟨b10, hw⟩ := hw
      refine lv_if_eq (tgt := 80) hx hb dX4_whenShown_75 (by decide) (fun c11 => ?_) (fun c11 => ?_)
      · have hw := hw.1 c11
        refine lv_aload_n hx hb dX4_whenShown_80 rfl (lv_at hl 0 rfl) ?_
        refine lv_aload_n hx hb dX4_whenShown_81 rfl (lv_at hl 0 rfl) ?_
        refine va_get (D := D) (ci := 4) (v := .ref (q 3)) (C := RX4) (T := TX4) (N := 11) hx hb hts (h_X4_X4_whenShown) hown hK hP 0 rfl rfl 4 (by decide) (z_w hts 3 rfl) (fun _ h9 => h9) rfl dX4_whenShown_82 ?_
        have hFc := va_free (wc := w_Mod cs q M) hD hS hA [0, 1, 2, 3, 4, 5, 6, 7, 8] rfl
        refine va_callv (va_runV (As := [.ref (q 3)]) (rest := []) ⟨hx, hb, hml, hown, hts⟩ (c_X4_beat_t l D cs q H.size M _ hw) (cwV 1 hts gX4_whenShown_X4_beat rfl rfl rfl (by decide +kernel) ⟨Nat.le_of_ble_eq_true rfl, Nat.le_of_ble_eq_true rfl⟩) (PC_V hP hD hKK 0 4 rfl rfl) rfl rfl hl.1 rfl (lv_room (Nat.le_of_ble_eq_true rfl)) dX4_whenShown_85 ⟨Nat.le_of_ble_eq_true rfl, Nat.le_of_ble_eq_true rfl⟩) hS (fun q _ h => hFc q h) hFc (fun u12 t H locs ht hvm hw hB hz1 hk1 hS => ?_)
        obtain ⟨hP1, hD1⟩ := hB
        rw [ht] at hP1
        have hD : va_D A (w_Mod cs q u12) := hD1.weaken (fun k q _ h => hFc q.1 h)
        have hP : va_P D vwCl (w_Mod cs q u12) H := hP1
        refine lv_iinc (v := x3 + 1) (lv' := [(3, .int (x3 + 1)), (0, .ref (q 0)), (1, .int x1), (2, .int x2)]) hx hb dX4_whenShown_88 hl (k := 3) rfl rfl (by decide) rfl (fun ls hl => ?_)
        refine lv_goto (tgt := 56) hx hb dX4_whenShown_91 (by decide) ?_
        exact ih _ _ hw _ _ hP hD hS ls (lv_sub hl [1, 2, 3, 0] rfl)
      · have hw := hw.2 c11
        refine lv_iconst (v := (-1 : Int32)) hx hb dX4_whenShown_78 (by decide) ?_
        exact W.iret (v := (-1 : Int32)) hx hb hr (fun t ht hW => ⟨⟨(-1 : Int32), (M), rfl, hw, by rw [ht]; exact hP, hD⟩, hS.F ht⟩) hS.2.2 dX4_whenShown_79 hlocks
set_option maxHeartbeats 4000000 in
set_option maxRecDepth 100000 in
theorem t_X4_whenShown {p : Program} {l : Launch} {e : Env} {s : State} {m : MethodId} {args : Array Value} {below : List Frame} {meth : Method} {c : Code} {D : va_G} {cs : Nat → ClassId} {A : Nat → Prop} (hC : MAt p s m args meth c RX4 cX4_whenShown 4 (some .int) wsX4_whenShown D cs) (q : Nat → Nat) (M : MS) (x1 : Int32) (x2 : Int32) (Q : Int32 → MS → Prop) (hA : ∀ q : Nat, s.heap.size ≤ q → A q) (hw : wp_X4_whenShown M x1 x2 Q) (H : Heap) (locs : List Loc) (hP : va_P D vwCl (w_Mod cs q M) H) (hD : va_D A (w_Mod cs q M)) (hS : va_S A s.heap H locs) (ls : Array Slot) (hl : lv_has ls 4 [(0, .ref (q 0)), (1, .int x1), (2, .int x2)]) : W p l e ({ frames := 4, cells := 0, slots := 0, locals := 85 } : Room) s m args below meth c H locs 0 0 (MQ below (va_Qi (fun r (u : MS) => Q r u) (fun (u : MS) t => va_P D vwCl (w_Mod cs q u) t.heap ∧ va_D A (w_Mod cs q u)) A) args s 0 0 A) (F0 m 0 ls []) := by
  obtain ⟨hx, hb, hr, hml, hown, hts, hlocks, hKK⟩ := id hC
  have hK := hKK.1
  refine lv_aload_n hx hb dX4_whenShown_0 rfl (lv_at hl 0 rfl) ?_
  refine lv_aload_n hx hb dX4_whenShown_1 rfl (lv_at hl 0 rfl) ?_
  refine va_get (D := D) (ci := 4) (v := .ref (q 2)) (C := RX4) (T := TX4) (N := 11) hx hb hts (h_X4_X4_whenShown) hown hK hP 0 rfl rfl 3 (by decide) (z_w hts 1 rfl) (fun _ h9 => h9) rfl dX4_whenShown_2 ?_
  refine lv_iload_n hx hb dX4_whenShown_5 rfl (lv_at hl 1 rfl) ?_
  have hPc := hP.sub (ws' := w_Row cs (q 2) 336 (M 2)) [2] rfl
  have hDc := hD.sub (ws' := w_Row cs (q 2) 336 (M 2)) [2] (by decide) rfl
  refine z_calli (va_runS (As := [.ref (q 2), .int x1]) (rest := [.ref (q 0)]) ⟨hx, hb, hml, hown, hts⟩ (c_X4_isCounter l D cs (q 2) H.size (M 2) x1 _ hw) (va_cwS 2 hts gX4_whenShown_X4_isCounter rfl rfl rfl (by decide +kernel) ⟨Nat.le_of_ble_eq_true rfl, Nat.le_of_ble_eq_true rfl⟩) (PC_S hPc hDc hKK) rfl rfl hl.1 rfl (lv_room (Nat.le_of_ble_eq_true rfl)) dX4_whenShown_6 ⟨Nat.le_of_ble_eq_true rfl, Nat.le_of_ble_eq_true rfl⟩) (fun r1 hw => ?_)
  obtain ⟨b1, hw⟩ := hw
  refine lv_if_ne (tgt := 16) hx hb dX4_whenShown_9 (by decide) (fun c2 => ?_) (fun c2 => ?_)
  · have hw := hw.2 c2
    refine lv_iload_n hx hb dX4_whenShown_16 rfl (lv_at hl 2 rfl) ?_
    refine lv_i2l (v := x2.toInt64) hx hb dX4_whenShown_17 rfl ?_
    refine lv_lconst (v := (0 : Int64)) hx hb dX4_whenShown_18 (by decide) ?_
    refine lv_ldc2 (v := (19682 : Int64)) hx hb hown (z_w hts 2 (w := .constantLong RX4 132 (19682)) rfl) dX4_whenShown_19 ?_
    have hPc := hP.sub (ws' := ([] : va_W)) [] rfl
    have hDc := hD.sub (ws' := ([] : va_W)) [] (by decide) rfl
    refine z_calli (va_runS (As := [.long x2.toInt64, .long (0 : Int64), .long (19682 : Int64)]) (rest := [.ref (q 0)]) ⟨hx, hb, hml, hown, hts⟩ (c_X4_in l D cs  H.size x2.toInt64 (0 : Int64) (19682 : Int64) _ hw) (va_cwS 3 hts gX4_whenShown_X4_in rfl rfl rfl (by decide +kernel) ⟨Nat.le_of_ble_eq_true rfl, Nat.le_of_ble_eq_true rfl⟩) (PC_S hPc hDc hKK) rfl rfl hl.1 rfl (lv_room (Nat.le_of_ble_eq_true rfl)) dX4_whenShown_22 ⟨Nat.le_of_ble_eq_true rfl, Nat.le_of_ble_eq_true rfl⟩) (fun r3 hw => ?_)
    obtain ⟨b3, hw⟩ := hw
    refine lv_if_eq (tgt := 32) hx hb dX4_whenShown_25 (by decide) (fun c4 => ?_) (fun c4 => ?_)
    · have hw := hw.1 c4
      refine lv_iconst (v := (2 : Int32)) hx hb dX4_whenShown_32 (by decide) ?_
      have hFc := va_free (wc := w_Mod cs q M) hD hS hA [0, 1, 2, 3, 4, 5, 6, 7, 8] rfl
      refine va_calli (va_runV (As := [.int (2 : Int32)]) (rest := []) ⟨hx, hb, hml, hown, hts⟩ (c_X4_refused l D cs q H.size M (2 : Int32) _ hw) (cwV 1 hts gX4_whenShown_X4_refused rfl rfl rfl (by decide +kernel) ⟨Nat.le_of_ble_eq_true rfl, Nat.le_of_ble_eq_true rfl⟩) (PC_V hP hD hKK 0 4 rfl rfl) rfl rfl hl.1 rfl (lv_room (Nat.le_of_ble_eq_true rfl)) dX4_whenShown_33 ⟨Nat.le_of_ble_eq_true rfl, Nat.le_of_ble_eq_true rfl⟩) hS (fun q _ h => hFc q h) hFc (fun r5 u5 t H locs ht hvm hw hB hz1 hk1 hS => ?_)
      obtain ⟨hP1, hD1⟩ := hB
      rw [ht] at hP1
      obtain ⟨b5, hw⟩ := hw
      have hD : va_D A (w_Mod cs q u5) := hD1.weaken (fun k q _ h => hFc q.1 h)
      have hP : va_P D vwCl (w_Mod cs q u5) H := hP1
      refine lv_if_eq (tgt := 41) hx hb dX4_whenShown_36 (by decide) (fun c6 => ?_) (fun c6 => ?_)
      · have hw := hw.1 c6
        refine lv_aload_n hx hb dX4_whenShown_41 rfl (lv_at hl 0 rfl) ?_
        refine va_get (D := D) (ci := 4) (v := .ref (q 2)) (C := RX4) (T := TX4) (N := 11) hx hb hts (h_X4_X4_whenShown) hown hK hP 0 rfl rfl 3 (by decide) (z_w hts 1 rfl) (fun _ h9 => h9) rfl dX4_whenShown_42 ?_
        refine lv_iconst (v := (0 : Int32)) hx hb dX4_whenShown_45 (by decide) ?_
        refine lv_aload_n hx hb dX4_whenShown_46 rfl (lv_at hl 0 rfl) ?_
        refine va_get (D := D) (ci := 4) (v := .ref (q 3)) (C := RX4) (T := TX4) (N := 11) hx hb hts (h_X4_X4_whenShown) hown hK hP 0 rfl rfl 4 (by decide) (z_w hts 3 rfl) (fun _ h9 => h9) rfl dX4_whenShown_47 ?_
        refine lv_iconst (v := (0 : Int32)) hx hb dX4_whenShown_50 (by decide) ?_
        have hPc := hP.sub (ws' := w_Row cs (q 2) 336 (u5 2) ++ w_Row cs (q 3) 336 (u5 3)) [2, 3] rfl
        have hDc := hD.sub (ws' := w_Row cs (q 2) 336 (u5 2) ++ w_Row cs (q 3) 336 (u5 3)) [2, 3] (by decide) rfl
        have hFc := va_free (wc := w_Row cs (q 2) 336 (u5 2) ++ w_Row cs (q 3) 336 (u5 3)) hD hS hA [2, 3] rfl
        refine va_callv (va_runS (As := [.ref (q 2), .int (0 : Int32), .ref (q 3), .int (0 : Int32)]) (rest := []) ⟨hx, hb, hml, hown, hts⟩ (c_X4_copyLine l D cs (q 2) (q 3) H.size 336 336 (u5 2) (u5 3) (0 : Int32) (0 : Int32) _ hw) (va_cwS 4 hts gX4_whenShown_X4_copyLine rfl rfl rfl (by decide +kernel) ⟨Nat.le_of_ble_eq_true rfl, Nat.le_of_ble_eq_true rfl⟩) (PC_S hPc hDc hKK) rfl rfl hl.1 rfl (lv_room (Nat.le_of_ble_eq_true rfl)) dX4_whenShown_51 ⟨Nat.le_of_ble_eq_true rfl, Nat.le_of_ble_eq_true rfl⟩) hS (fun q _ h => hFc q h) hFc (fun u7 t H locs ht hvm hw hB hz1 hk1 hS => ?_)
        obtain ⟨hP1, hD1⟩ := hB
        rw [ht] at hP1
        obtain ⟨hP, hD⟩ := va_join (wr := ([0, 1, 4, 5, 6, 7, 8].filterMap (fun i => (w_Mod cs q u5)[i]?))) (w1 := w_Row cs (q 2) 336 (u5 2) ++ w_Row cs (q 3) 336 u7) hP hD [2, 3] [0, 1, 4, 5, 6, 7, 8] rfl rfl (by decide) (by decide) hk1 hFc hP1 hD1
        have hP : va_P D vwCl (w_Mod cs q (zr2 u5 3 u7)) H := hP.sub (ws' := w_Mod cs q (zr2 u5 3 u7)) [0, 1, 7, 8, 2, 3, 4, 5, 6] rfl
        have hD : va_D A (w_Mod cs q (zr2 u5 3 u7)) := hD.sub (ws' := w_Mod cs q (zr2 u5 3 u7)) [0, 1, 7, 8, 2, 3, 4, 5, 6] (by decide) rfl
        refine lv_iconst (v := (0 : Int32)) hx hb dX4_whenShown_54 (by decide) ?_
        refine lv_istore_n (lv' := [(3, .int (0 : Int32)), (0, .ref (q 0)), (1, .int x1), (2, .int x2)]) hx hb dX4_whenShown_55 rfl hl (by decide) rfl (fun ls hl => ?_)
        obtain ⟨n13, hw⟩ := hw
        exact t_X4_whenShown_56 hC q _ _ _ hA n13 _ _ hw H locs hP hD hS ls (lv_sub hl [1, 2, 3, 0] rfl)
      · have hw := hw.2 c6
        refine lv_iconst (v := (0 : Int32)) hx hb dX4_whenShown_39 (by decide) ?_
        exact W.iret (v := (0 : Int32)) hx hb hr (fun t ht hW => ⟨⟨(0 : Int32), (u5), rfl, hw, by rw [ht]; exact hP, hD⟩, hS.F ht⟩) hS.2.2 dX4_whenShown_40 hlocks
    · have hw := hw.2 c4
      refine lv_iconst (v := (0 : Int32)) hx hb dX4_whenShown_28 (by decide) ?_
      refine lv_goto (tgt := 33) hx hb dX4_whenShown_29 (by decide) ?_
      have hFc := va_free (wc := w_Mod cs q M) hD hS hA [0, 1, 2, 3, 4, 5, 6, 7, 8] rfl
      refine va_calli (va_runV (As := [.int (0 : Int32)]) (rest := []) ⟨hx, hb, hml, hown, hts⟩ (c_X4_refused l D cs q H.size M (0 : Int32) _ hw) (cwV 1 hts gX4_whenShown_X4_refused rfl rfl rfl (by decide +kernel) ⟨Nat.le_of_ble_eq_true rfl, Nat.le_of_ble_eq_true rfl⟩) (PC_V hP hD hKK 0 4 rfl rfl) rfl rfl hl.1 rfl (lv_room (Nat.le_of_ble_eq_true rfl)) dX4_whenShown_33 ⟨Nat.le_of_ble_eq_true rfl, Nat.le_of_ble_eq_true rfl⟩) hS (fun q _ h => hFc q h) hFc (fun r14 u14 t H locs ht hvm hw hB hz1 hk1 hS => ?_)
      obtain ⟨hP1, hD1⟩ := hB
      rw [ht] at hP1
      obtain ⟨b14, hw⟩ := hw
      have hD : va_D A (w_Mod cs q u14) := hD1.weaken (fun k q _ h => hFc q.1 h)
      have hP : va_P D vwCl (w_Mod cs q u14) H := hP1
      refine lv_if_eq (tgt := 41) hx hb dX4_whenShown_36 (by decide) (fun c15 => ?_) (fun c15 => ?_)
      · have hw := hw.1 c15
        refine lv_aload_n hx hb dX4_whenShown_41 rfl (lv_at hl 0 rfl) ?_
        refine va_get (D := D) (ci := 4) (v := .ref (q 2)) (C := RX4) (T := TX4) (N := 11) hx hb hts (h_X4_X4_whenShown) hown hK hP 0 rfl rfl 3 (by decide) (z_w hts 1 rfl) (fun _ h9 => h9) rfl dX4_whenShown_42 ?_
        refine lv_iconst (v := (0 : Int32)) hx hb dX4_whenShown_45 (by decide) ?_
        refine lv_aload_n hx hb dX4_whenShown_46 rfl (lv_at hl 0 rfl) ?_
        refine va_get (D := D) (ci := 4) (v := .ref (q 3)) (C := RX4) (T := TX4) (N := 11) hx hb hts (h_X4_X4_whenShown) hown hK hP 0 rfl rfl 4 (by decide) (z_w hts 3 rfl) (fun _ h9 => h9) rfl dX4_whenShown_47 ?_
        refine lv_iconst (v := (0 : Int32)) hx hb dX4_whenShown_50 (by decide) ?_
        have hPc := hP.sub (ws' := w_Row cs (q 2) 336 (u14 2) ++ w_Row cs (q 3) 336 (u14 3)) [2, 3] rfl
        have hDc := hD.sub (ws' := w_Row cs (q 2) 336 (u14 2) ++ w_Row cs (q 3) 336 (u14 3)) [2, 3] (by decide) rfl
        have hFc := va_free (wc := w_Row cs (q 2) 336 (u14 2) ++ w_Row cs (q 3) 336 (u14 3)) hD hS hA [2, 3] rfl
        refine va_callv (va_runS (As := [.ref (q 2), .int (0 : Int32), .ref (q 3), .int (0 : Int32)]) (rest := []) ⟨hx, hb, hml, hown, hts⟩ (c_X4_copyLine l D cs (q 2) (q 3) H.size 336 336 (u14 2) (u14 3) (0 : Int32) (0 : Int32) _ hw) (va_cwS 4 hts gX4_whenShown_X4_copyLine rfl rfl rfl (by decide +kernel) ⟨Nat.le_of_ble_eq_true rfl, Nat.le_of_ble_eq_true rfl⟩) (PC_S hPc hDc hKK) rfl rfl hl.1 rfl (lv_room (Nat.le_of_ble_eq_true rfl)) dX4_whenShown_51 ⟨Nat.le_of_ble_eq_true rfl, Nat.le_of_ble_eq_true rfl⟩) hS (fun q _ h => hFc q h) hFc (fun u16 t H locs ht hvm hw hB hz1 hk1 hS => ?_)
        obtain ⟨hP1, hD1⟩ := hB
        rw [ht] at hP1
        obtain ⟨hP, hD⟩ := va_join (wr := ([0, 1, 4, 5, 6, 7, 8].filterMap (fun i => (w_Mod cs q u14)[i]?))) (w1 := w_Row cs (q 2) 336 (u14 2) ++ w_Row cs (q 3) 336 u16) hP hD [2, 3] [0, 1, 4, 5, 6, 7, 8] rfl rfl (by decide) (by decide) hk1 hFc hP1 hD1
        have hP : va_P D vwCl (w_Mod cs q (zr2 u14 3 u16)) H := hP.sub (ws' := w_Mod cs q (zr2 u14 3 u16)) [0, 1, 7, 8, 2, 3, 4, 5, 6] rfl
        have hD : va_D A (w_Mod cs q (zr2 u14 3 u16)) := hD.sub (ws' := w_Mod cs q (zr2 u14 3 u16)) [0, 1, 7, 8, 2, 3, 4, 5, 6] (by decide) rfl
        refine lv_iconst (v := (0 : Int32)) hx hb dX4_whenShown_54 (by decide) ?_
        refine lv_istore_n (lv' := [(3, .int (0 : Int32)), (0, .ref (q 0)), (1, .int x1), (2, .int x2)]) hx hb dX4_whenShown_55 rfl hl (by decide) rfl (fun ls hl => ?_)
        obtain ⟨n17, hw⟩ := hw
        exact t_X4_whenShown_56 hC q _ _ _ hA n17 _ _ hw H locs hP hD hS ls (lv_sub hl [1, 2, 3, 0] rfl)
      · have hw := hw.2 c15
        refine lv_iconst (v := (0 : Int32)) hx hb dX4_whenShown_39 (by decide) ?_
        exact W.iret (v := (0 : Int32)) hx hb hr (fun t ht hW => ⟨⟨(0 : Int32), (u14), rfl, hw, by rw [ht]; exact hP, hD⟩, hS.F ht⟩) hS.2.2 dX4_whenShown_40 hlocks
  · have hw := hw.1 c2
    refine lv_iconst (v := (1 : Int32)) hx hb dX4_whenShown_12 (by decide) ?_
    refine lv_goto (tgt := 33) hx hb dX4_whenShown_13 (by decide) ?_
    have hFc := va_free (wc := w_Mod cs q M) hD hS hA [0, 1, 2, 3, 4, 5, 6, 7, 8] rfl
    refine va_calli (va_runV (As := [.int (1 : Int32)]) (rest := []) ⟨hx, hb, hml, hown, hts⟩ (c_X4_refused l D cs q H.size M (1 : Int32) _ hw) (cwV 1 hts gX4_whenShown_X4_refused rfl rfl rfl (by decide +kernel) ⟨Nat.le_of_ble_eq_true rfl, Nat.le_of_ble_eq_true rfl⟩) (PC_V hP hD hKK 0 4 rfl rfl) rfl rfl hl.1 rfl (lv_room (Nat.le_of_ble_eq_true rfl)) dX4_whenShown_33 ⟨Nat.le_of_ble_eq_true rfl, Nat.le_of_ble_eq_true rfl⟩) hS (fun q _ h => hFc q h) hFc (fun r18 u18 t H locs ht hvm hw hB hz1 hk1 hS => ?_)
    obtain ⟨hP1, hD1⟩ := hB
    rw [ht] at hP1
    obtain ⟨b18, hw⟩ := hw
    have hD : va_D A (w_Mod cs q u18) := hD1.weaken (fun k q _ h => hFc q.1 h)
    have hP : va_P D vwCl (w_Mod cs q u18) H := hP1
    refine lv_if_eq (tgt := 41) hx hb dX4_whenShown_36 (by decide) (fun c19 => ?_) (fun c19 => ?_)
    · have hw := hw.1 c19
      refine lv_aload_n hx hb dX4_whenShown_41 rfl (lv_at hl 0 rfl) ?_
      refine va_get (D := D) (ci := 4) (v := .ref (q 2)) (C := RX4) (T := TX4) (N := 11) hx hb hts (h_X4_X4_whenShown) hown hK hP 0 rfl rfl 3 (by decide) (z_w hts 1 rfl) (fun _ h9 => h9) rfl dX4_whenShown_42 ?_
      refine lv_iconst (v := (0 : Int32)) hx hb dX4_whenShown_45 (by decide) ?_
      refine lv_aload_n hx hb dX4_whenShown_46 rfl (lv_at hl 0 rfl) ?_
      refine va_get (D := D) (ci := 4) (v := .ref (q 3)) (C := RX4) (T := TX4) (N := 11) hx hb hts (h_X4_X4_whenShown) hown hK hP 0 rfl rfl 4 (by decide) (z_w hts 3 rfl) (fun _ h9 => h9) rfl dX4_whenShown_47 ?_
      refine lv_iconst (v := (0 : Int32)) hx hb dX4_whenShown_50 (by decide) ?_
      have hPc := hP.sub (ws' := w_Row cs (q 2) 336 (u18 2) ++ w_Row cs (q 3) 336 (u18 3)) [2, 3] rfl
      have hDc := hD.sub (ws' := w_Row cs (q 2) 336 (u18 2) ++ w_Row cs (q 3) 336 (u18 3)) [2, 3] (by decide) rfl
      have hFc := va_free (wc := w_Row cs (q 2) 336 (u18 2) ++ w_Row cs (q 3) 336 (u18 3)) hD hS hA [2, 3] rfl
      refine va_callv (va_runS (As := [.ref (q 2), .int (0 : Int32), .ref (q 3), .int (0 : Int32)]) (rest := []) ⟨hx, hb, hml, hown, hts⟩ (c_X4_copyLine l D cs (q 2) (q 3) H.size 336 336 (u18 2) (u18 3) (0 : Int32) (0 : Int32) _ hw) (va_cwS 4 hts gX4_whenShown_X4_copyLine rfl rfl rfl (by decide +kernel) ⟨Nat.le_of_ble_eq_true rfl, Nat.le_of_ble_eq_true rfl⟩) (PC_S hPc hDc hKK) rfl rfl hl.1 rfl (lv_room (Nat.le_of_ble_eq_true rfl)) dX4_whenShown_51 ⟨Nat.le_of_ble_eq_true rfl, Nat.le_of_ble_eq_true rfl⟩) hS (fun q _ h => hFc q h) hFc (fun u20 t H locs ht hvm hw hB hz1 hk1 hS => ?_)
      obtain ⟨hP1, hD1⟩ := hB
      rw [ht] at hP1
      obtain ⟨hP, hD⟩ := va_join (wr := ([0, 1, 4, 5, 6, 7, 8].filterMap (fun i => (w_Mod cs q u18)[i]?))) (w1 := w_Row cs (q 2) 336 (u18 2) ++ w_Row cs (q 3) 336 u20) hP hD [2, 3] [0, 1, 4, 5, 6, 7, 8] rfl rfl (by decide) (by decide) hk1 hFc hP1 hD1
      have hP : va_P D vwCl (w_Mod cs q (zr2 u18 3 u20)) H := hP.sub (ws' := w_Mod cs q (zr2 u18 3 u20)) [0, 1, 7, 8, 2, 3, 4, 5, 6] rfl
      have hD : va_D A (w_Mod cs q (zr2 u18 3 u20)) := hD.sub (ws' := w_Mod cs q (zr2 u18 3 u20)) [0, 1, 7, 8, 2, 3, 4, 5, 6] (by decide) rfl
      refine lv_iconst (v := (0 : Int32)) hx hb dX4_whenShown_54 (by decide) ?_
      refine lv_istore_n (lv' := [(3, .int (0 : Int32)), (0, .ref (q 0)), (1, .int x1), (2, .int x2)]) hx hb dX4_whenShown_55 rfl hl (by decide) rfl (fun ls hl => ?_)
      obtain ⟨n21, hw⟩ := hw
      exact t_X4_whenShown_56 hC q _ _ _ hA n21 _ _ hw H locs hP hD hS ls (lv_sub hl [1, 2, 3, 0] rfl)
    · have hw := hw.2 c19
      refine lv_iconst (v := (0 : Int32)) hx hb dX4_whenShown_39 (by decide) ?_
      exact W.iret (v := (0 : Int32)) hx hb hr (fun t ht hW => ⟨⟨(0 : Int32), (u18), rfl, hw, by rw [ht]; exact hP, hD⟩, hS.F ht⟩) hS.2.2 dX4_whenShown_40 hlocks
set_option maxHeartbeats 4000000 in
set_option maxRecDepth 100000 in
theorem c_X4_whenShown (l : Launch) (D : va_G) (cs : Nat → ClassId) (q : Nat → Nat) (sz : Nat) (M : MS) (x1 : Int32) (x2 : Int32) (Q : Int32 → MS → Prop) (hw : wp_X4_whenShown M x1 x2 Q) : Met l yX4_whenShown wsX4_whenShown ({ frames := 4, cells := 0, slots := 0, locals := 85 } : Room) (va_Pc [.ref (q 0), .int x1, .int x2] (PC D cs (w_Mod cs q M) sz)) (va_Qi (fun r (u : MS) => Q r u) (fun (u : MS) t => va_P D vwCl (w_Mod cs q u) t.heap ∧ va_D (va_A (w_Mod cs q M) sz) (w_Mod cs q u)) (va_A (w_Mod cs q M) sz)) 0 0 (va_A (w_Mod cs q M) sz) := by
  refine Met.ofW (cc := cX4_whenShown) (maxL := 4) (ret := (some .int)) (by decide) rfl ?_
  intro p e s m args below meth c s₁ B hml hv
  obtain ⟨rfl, hsz, hP, hKK, hD0⟩ := hv
  have hC : MAt p s m _ meth c RX4 cX4_whenShown 4 (some .int) wsX4_whenShown D cs := ⟨B.exec, B.bytes, B.returns, hml, findClass_of_methodNamed B.named, atoms_spec (ws := wsX4_whenShown) B.pre, B.notSynchronized, hKK⟩
  have hl := lv_entry ([.ref (q 0), .int x1, .int x2]) (n := 4) (Nat.le_of_ble_eq_true rfl)
  rw [lg_entry_eq]
  generalize (lg_sl ([.ref (q 0), .int x1, .int x2]) ++ List.replicate (4 - (lg_sl ([.ref (q 0), .int x1, .int x2])).length) Slot.unset).toArray = ls at hl ⊢
  subst hsz
  have hD := hD0.self (sz := s.heap.size)
  have hA : ∀ z : Nat, s.heap.size ≤ z → va_A (w_Mod cs q M) s.heap.size z := fun z h => Or.inr h
  exact t_X4_whenShown hC q M x1 x2 Q hA hw s.heap [] hP hD va_S.rf ls hl
theorem h_X4_X4_leastPace : ∀ w ∈ u_ws RX4 TX4 11, w ∈ wsX4_leastPace := fun _ h => List.mem_cons_of_mem _ (List.mem_append_right _ h)
set_option maxHeartbeats 4000000 in
set_option maxRecDepth 100000 in
theorem t_X4_leastPace_28 {p : Program} {l : Launch} {e : Env} {s : State} {m : MethodId} {args : Array Value} {below : List Frame} {meth : Method} {c : Code} {D : va_G} {cs : Nat → ClassId} {A : Nat → Prop} (hC : MAt p s m args meth c RX4 cX4_leastPace 3 (some .int) wsX4_leastPace D cs) (q : Nat → Nat) (x1 : Int32) (Q : Int32 → MS → Prop) (hA : ∀ q : Nat, s.heap.size ≤ q → A q) : ∀ (n : Nat) (M : MS) (x2 : Int32), wl_X4_leastPace_28 x1 Q n M x2 → ∀ (H : Heap) (locs : List Loc), va_P D vwCl (w_Mod cs q M) H → va_D A (w_Mod cs q M) → va_S A s.heap H locs → ∀ ls : Array Slot, lv_has ls 3 [(0, .ref (q 0)), (1, .int x1), (2, .int x2)] → W p l e ({ frames := 4, cells := 0, slots := 0, locals := 88 } : Room) s m args below meth c H locs 0 0 (MQ below (va_Qi (fun r (u : MS) => Q r u) (fun (u : MS) t => va_P D vwCl (w_Mod cs q u) t.heap ∧ va_D A (w_Mod cs q u)) A) args s 0 0 A) (F0 m 28 ls []) := by
  obtain ⟨hx, hb, hr, hml, hown, hts, hlocks, hKK⟩ := id hC
  have hK := hKK.1
  intro n
  induction n with
  | zero =>
    intro M x2 hw
    exact False.elim hw
  | succ n ih =>
    intro M x2 hw H locs hP hD hS ls hl
    refine lv_iload_n hx hb dX4_leastPace_28 rfl (lv_at hl 2 rfl) ?_
    refine lv_bipush (v := (9 : Int32)) hx hb dX4_leastPace_29 (by decide) ?_
    refine lv_icmp_gt (tgt := 82) hx hb dX4_leastPace_31 (by decide) (fun c5 => ?_) (fun c5 => ?_)
    · have hw := hw.1 c5
      refine lv_iconst (v := (-1 : Int32)) hx hb dX4_leastPace_82 (by decide) ?_
      exact W.iret (v := (-1 : Int32)) hx hb hr (fun t ht hW => ⟨⟨(-1 : Int32), (M), rfl, hw, by rw [ht]; exact hP, hD⟩, hS.F ht⟩) hS.2.2 dX4_leastPace_83 hlocks
    · have hw := hw.2 c5
      refine lv_aload_n hx hb dX4_leastPace_34 rfl (lv_at hl 0 rfl) ?_
      refine va_get (D := D) (ci := 4) (v := .ref (q 2)) (C := RX4) (T := TX4) (N := 11) hx hb hts (h_X4_X4_leastPace) hown hK hP 0 rfl rfl 3 (by decide) (z_w hts 2 rfl) (fun _ h9 => h9) rfl dX4_leastPace_35 ?_
      refine lv_iconst (v := (0 : Int32)) hx hb dX4_leastPace_38 (by decide) ?_
      refine lv_aload_n hx hb dX4_leastPace_39 rfl (lv_at hl 0 rfl) ?_
      refine va_get (D := D) (ci := 4) (v := .ref (q 3)) (C := RX4) (T := TX4) (N := 11) hx hb hts (h_X4_X4_leastPace) hown hK hP 0 rfl rfl 4 (by decide) (z_w hts 3 rfl) (fun _ h9 => h9) rfl dX4_leastPace_40 ?_
      refine lv_iconst (v := (0 : Int32)) hx hb dX4_leastPace_43 (by decide) ?_
      have hPc := hP.sub (ws' := w_Row cs (q 2) 336 (M 2) ++ w_Row cs (q 3) 336 (M 3)) [2, 3] rfl
      have hDc := hD.sub (ws' := w_Row cs (q 2) 336 (M 2) ++ w_Row cs (q 3) 336 (M 3)) [2, 3] (by decide) rfl
      have hFc := va_free (wc := w_Row cs (q 2) 336 (M 2) ++ w_Row cs (q 3) 336 (M 3)) hD hS hA [2, 3] rfl
      refine va_callv (va_runS (As := [.ref (q 2), .int (0 : Int32), .ref (q 3), .int (0 : Int32)]) (rest := []) ⟨hx, hb, hml, hown, hts⟩ (c_X4_copyLine l D cs (q 2) (q 3) H.size 336 336 (M 2) (M 3) (0 : Int32) (0 : Int32) _ hw) (va_cwS 4 hts gX4_leastPace_X4_copyLine rfl rfl rfl (by decide +kernel) ⟨Nat.le_of_ble_eq_true rfl, Nat.le_of_ble_eq_true rfl⟩) (PC_S hPc hDc hKK) rfl rfl hl.1 rfl (lv_room (Nat.le_of_ble_eq_true rfl)) dX4_leastPace_44 ⟨Nat.le_of_ble_eq_true rfl, Nat.le_of_ble_eq_true rfl⟩) hS (fun q _ h => hFc q h) hFc (fun u6 t H locs ht hvm hw hB hz1 hk1 hS => ?_)
      obtain ⟨hP1, hD1⟩ := hB
      rw [ht] at hP1
      obtain ⟨hP, hD⟩ := va_join (wr := ([0, 1, 4, 5, 6, 7, 8].filterMap (fun i => (w_Mod cs q M)[i]?))) (w1 := w_Row cs (q 2) 336 (M 2) ++ w_Row cs (q 3) 336 u6) hP hD [2, 3] [0, 1, 4, 5, 6, 7, 8] rfl rfl (by decide) (by decide) hk1 hFc hP1 hD1
      have hP : va_P D vwCl (w_Mod cs q (zr2 M 3 u6)) H := hP.sub (ws' := w_Mod cs q (zr2 M 3 u6)) [0, 1, 7, 8, 2, 3, 4, 5, 6] rfl
      have hD : va_D A (w_Mod cs q (zr2 M 3 u6)) := hD.sub (ws' := w_Mod cs q (zr2 M 3 u6)) [0, 1, 7, 8, 2, 3, 4, 5, 6] (by decide) rfl
      refine lv_aload_n hx hb dX4_leastPace_47 rfl (lv_at hl 0 rfl) ?_
      refine va_get (D := D) (ci := 4) (v := .ref (q 3)) (C := RX4) (T := TX4) (N := 11) hx hb hts (h_X4_X4_leastPace) hown hK hP 0 rfl rfl 4 (by decide) (z_w hts 3 rfl) (fun _ h9 => h9) rfl dX4_leastPace_48 ?_
      refine lv_iconst (v := (1 : Int32)) hx hb dX4_leastPace_51 (by decide) ?_
      refine lv_iload_n hx hb dX4_leastPace_52 rfl (lv_at hl 2 rfl) ?_
      obtain ⟨M7, eM7⟩ : ∃ z : MS, z = (zr2 M 3 u6) := ⟨_, rfl⟩
      have hw := hw M7 eM7
      rw [← eM7] at hP hD
      refine va_iast hx hb hK hP hD hS 3 0 rfl rfl (show vp_in (1 : Int32) 336 by unfold vp_in; decide) dX4_leastPace_53 (fun H locs hP hD hS => ?_)
      have hP : va_P D vwCl (w_Mod cs q (zr2 M7 3 (upd (M7 3) (1 : Int32).toNatClampNeg x2))) H := hP
      have hD : va_D A (w_Mod cs q (zr2 M7 3 (upd (M7 3) (1 : Int32).toNatClampNeg x2))) := hD
      refine lv_aload_n hx hb dX4_leastPace_54 rfl (lv_at hl 0 rfl) ?_
      refine lv_aload_n hx hb dX4_leastPace_55 rfl (lv_at hl 0 rfl) ?_
      refine va_get (D := D) (ci := 4) (v := .ref (q 3)) (C := RX4) (T := TX4) (N := 11) hx hb hts (h_X4_X4_leastPace) hown hK hP 0 rfl rfl 4 (by decide) (z_w hts 3 rfl) (fun _ h9 => h9) rfl dX4_leastPace_56 ?_
      refine lv_iload_n hx hb dX4_leastPace_59 rfl (lv_at hl 1 rfl) ?_
      have hFc := va_free (wc := w_Mod cs q (zr2 M7 3 (upd (M7 3) (1 : Int32).toNatClampNeg x2))) hD hS hA [0, 1, 2, 3, 4, 5, 6, 7, 8] rfl
      refine va_calli (va_runV (As := [.ref (q 3), .int x1]) (rest := []) ⟨hx, hb, hml, hown, hts⟩ (c_X4_beatsOn_t l D cs q H.size (zr2 M7 3 (upd (M7 3) (1 : Int32).toNatClampNeg x2)) x1 _ hw) (cwV 2 hts gX4_leastPace_X4_beatsOn rfl rfl rfl (by decide +kernel) ⟨Nat.le_of_ble_eq_true rfl, Nat.le_of_ble_eq_true rfl⟩) (PC_V hP hD hKK 0 4 rfl rfl) rfl rfl hl.1 rfl (lv_room (Nat.le_of_ble_eq_true rfl)) dX4_leastPace_60 ⟨Nat.le_of_ble_eq_true rfl, Nat.le_of_ble_eq_true rfl⟩) hS (fun q _ h => hFc q h) hFc (fun r8 u8 t H locs ht hvm hw hB hz1 hk1 hS => ?_)
      obtain ⟨hP1, hD1⟩ := hB
      rw [ht] at hP1
      have hD : va_D A (w_Mod cs q u8) := hD1.weaken (fun k q _ h => hFc q.1 h)
      have hP : va_P D vwCl (w_Mod cs q u8) H := hP1
      refine lv_pop hx hb dX4_leastPace_63 rfl ?_
      refine lv_aload_n hx hb dX4_leastPace_64 rfl (lv_at hl 0 rfl) ?_
      refine va_get (D := D) (ci := 4) (v := .ref (q 3)) (C := RX4) (T := TX4) (N := 11) hx hb hts (h_X4_X4_leastPace) hown hK hP 0 rfl rfl 4 (by decide) (z_w hts 3 rfl) (fun _ h9 => h9) rfl dX4_leastPace_65 ?_
      have hPc := hP.sub (ws' := w_Row cs (q 3) 336 (u8 3)) [3] rfl
      have hDc := hD.sub (ws' := w_Row cs (q 3) 336 (u8 3)) [3] (by decide) rfl
      refine z_calli (va_runS (As := [.ref (q 3)]) (rest := []) ⟨hx, hb, hml, hown, hts⟩ (c_X4_allSettled l D cs (q 3) H.size (u8 3) _ hw) (va_cwS 1 hts gX4_leastPace_X4_allSettled rfl rfl rfl (by decide +kernel) ⟨Nat.le_of_ble_eq_true rfl, Nat.le_of_ble_eq_true rfl⟩) (PC_S hPc hDc hKK) rfl rfl hl.1 rfl (lv_room (Nat.le_of_ble_eq_true rfl)) dX4_leastPace_68 ⟨Nat.le_of_ble_eq_true rfl, Nat.le_of_ble_eq_true rfl⟩) (fun r9 hw => ?_)
      obtain ⟨b9, hw⟩ := hw
      refine lv_if_eq (tgt := 76) hx hb dX4_leastPace_71 (by decide) (fun c10 => ?_) (fun c10 => ?_)
      · have hw := hw.1 c10
        refine lv_iinc (v := x2 + 1) (lv' := [(2, .int (x2 + 1)), (0, .ref (q 0)), (1, .int x1)]) hx hb dX4_leastPace_76 hl (k := 2) rfl rfl (by decide) rfl (fun ls hl => ?_)
        refine lv_goto (tgt := 28) hx hb dX4_leastPace_79 (by decide) ?_
        exact ih _ _ hw _ _ hP hD hS ls (lv_sub hl [1, 2, 0] rfl)
      · have hw := hw.2 c10
        refine lv_iload_n hx hb dX4_leastPace_74 rfl (lv_at hl 2 rfl) ?_
        exact W.iret (v := x2) hx hb hr (fun t ht hW => ⟨⟨x2, (u8), rfl, hw, by rw [ht]; exact hP, hD⟩, hS.F ht⟩) hS.2.2 dX4_leastPace_75 hlocks
set_option maxHeartbeats 4000000 in
set_option maxRecDepth 100000 in
theorem t_X4_leastPace {p : Program} {l : Launch} {e : Env} {s : State} {m : MethodId} {args : Array Value} {below : List Frame} {meth : Method} {c : Code} {D : va_G} {cs : Nat → ClassId} {A : Nat → Prop} (hC : MAt p s m args meth c RX4 cX4_leastPace 3 (some .int) wsX4_leastPace D cs) (q : Nat → Nat) (M : MS) (x1 : Int32) (Q : Int32 → MS → Prop) (hA : ∀ q : Nat, s.heap.size ≤ q → A q) (hw : wp_X4_leastPace M x1 Q) (H : Heap) (locs : List Loc) (hP : va_P D vwCl (w_Mod cs q M) H) (hD : va_D A (w_Mod cs q M)) (hS : va_S A s.heap H locs) (ls : Array Slot) (hl : lv_has ls 3 [(0, .ref (q 0)), (1, .int x1)]) : W p l e ({ frames := 4, cells := 0, slots := 0, locals := 88 } : Room) s m args below meth c H locs 0 0 (MQ below (va_Qi (fun r (u : MS) => Q r u) (fun (u : MS) t => va_P D vwCl (w_Mod cs q u) t.heap ∧ va_D A (w_Mod cs q u)) A) args s 0 0 A) (F0 m 0 ls []) := by
  obtain ⟨hx, hb, hr, hml, hown, hts, hlocks, hKK⟩ := id hC
  have hK := hKK.1
  refine lv_aload_n hx hb dX4_leastPace_0 rfl (lv_at hl 0 rfl) ?_
  refine lv_iload_n hx hb dX4_leastPace_1 rfl (lv_at hl 1 rfl) ?_
  refine lv_i2l (v := x1.toInt64) hx hb dX4_leastPace_2 rfl ?_
  refine lv_lconst (v := (0 : Int64)) hx hb dX4_leastPace_3 (by decide) ?_
  refine lv_ldc2 (v := (99 : Int64)) hx hb hown (z_w hts 1 (w := .constantLong RX4 150 (99)) rfl) dX4_leastPace_4 ?_
  have hPc := hP.sub (ws' := ([] : va_W)) [] rfl
  have hDc := hD.sub (ws' := ([] : va_W)) [] (by decide) rfl
  refine z_calli (va_runS (As := [.long x1.toInt64, .long (0 : Int64), .long (99 : Int64)]) (rest := [.ref (q 0)]) ⟨hx, hb, hml, hown, hts⟩ (c_X4_in l D cs  H.size x1.toInt64 (0 : Int64) (99 : Int64) _ hw) (va_cwS 3 hts gX4_leastPace_X4_in rfl rfl rfl (by decide +kernel) ⟨Nat.le_of_ble_eq_true rfl, Nat.le_of_ble_eq_true rfl⟩) (PC_S hPc hDc hKK) rfl rfl hl.1 rfl (lv_room (Nat.le_of_ble_eq_true rfl)) dX4_leastPace_7 ⟨Nat.le_of_ble_eq_true rfl, Nat.le_of_ble_eq_true rfl⟩) (fun r1 hw => ?_)
  obtain ⟨b1, hw⟩ := hw
  refine lv_if_eq (tgt := 17) hx hb dX4_leastPace_10 (by decide) (fun c2 => ?_) (fun c2 => ?_)
  · have hw := hw.1 c2
    refine lv_iconst (v := (1 : Int32)) hx hb dX4_leastPace_17 (by decide) ?_
    have hFc := va_free (wc := w_Mod cs q M) hD hS hA [0, 1, 2, 3, 4, 5, 6, 7, 8] rfl
    refine va_calli (va_runV (As := [.int (1 : Int32)]) (rest := []) ⟨hx, hb, hml, hown, hts⟩ (c_X4_refused l D cs q H.size M (1 : Int32) _ hw) (cwV 1 hts gX4_leastPace_X4_refused rfl rfl rfl (by decide +kernel) ⟨Nat.le_of_ble_eq_true rfl, Nat.le_of_ble_eq_true rfl⟩) (PC_V hP hD hKK 0 4 rfl rfl) rfl rfl hl.1 rfl (lv_room (Nat.le_of_ble_eq_true rfl)) dX4_leastPace_18 ⟨Nat.le_of_ble_eq_true rfl, Nat.le_of_ble_eq_true rfl⟩) hS (fun q _ h => hFc q h) hFc (fun r3 u3 t H locs ht hvm hw hB hz1 hk1 hS => ?_)
    obtain ⟨hP1, hD1⟩ := hB
    rw [ht] at hP1
    obtain ⟨b3, hw⟩ := hw
    have hD : va_D A (w_Mod cs q u3) := hD1.weaken (fun k q _ h => hFc q.1 h)
    have hP : va_P D vwCl (w_Mod cs q u3) H := hP1
    refine lv_if_eq (tgt := 26) hx hb dX4_leastPace_21 (by decide) (fun c4 => ?_) (fun c4 => ?_)
    · have hw := hw.1 c4
      refine lv_iconst (v := (1 : Int32)) hx hb dX4_leastPace_26 (by decide) ?_
      refine lv_istore_n (lv' := [(2, .int (1 : Int32)), (0, .ref (q 0)), (1, .int x1)]) hx hb dX4_leastPace_27 rfl hl (by decide) rfl (fun ls hl => ?_)
      obtain ⟨n11, hw⟩ := hw
      exact t_X4_leastPace_28 hC q _ _ hA n11 _ _ hw H locs hP hD hS ls (lv_sub hl [1, 2, 0] rfl)
    · have hw := hw.2 c4
      refine lv_iconst (v := (0 : Int32)) hx hb dX4_leastPace_24 (by decide) ?_
      exact W.iret (v := (0 : Int32)) hx hb hr (fun t ht hW => ⟨⟨(0 : Int32), (u3), rfl, hw, by rw [ht]; exact hP, hD⟩, hS.F ht⟩) hS.2.2 dX4_leastPace_25 hlocks
  · have hw := hw.2 c2
    refine lv_iconst (v := (0 : Int32)) hx hb dX4_leastPace_13 (by decide) ?_
    refine lv_goto (tgt := 18) hx hb dX4_leastPace_14 (by decide) ?_
    have hFc := va_free (wc := w_Mod cs q M) hD hS hA [0, 1, 2, 3, 4, 5, 6, 7, 8] rfl
    refine va_calli (va_runV (As := [.int (0 : Int32)]) (rest := []) ⟨hx, hb, hml, hown, hts⟩ (c_X4_refused l D cs q H.size M (0 : Int32) _ hw) (cwV 1 hts gX4_leastPace_X4_refused rfl rfl rfl (by decide +kernel) ⟨Nat.le_of_ble_eq_true rfl, Nat.le_of_ble_eq_true rfl⟩) (PC_V hP hD hKK 0 4 rfl rfl) rfl rfl hl.1 rfl (lv_room (Nat.le_of_ble_eq_true rfl)) dX4_leastPace_18 ⟨Nat.le_of_ble_eq_true rfl, Nat.le_of_ble_eq_true rfl⟩) hS (fun q _ h => hFc q h) hFc (fun r12 u12 t H locs ht hvm hw hB hz1 hk1 hS => ?_)
    obtain ⟨hP1, hD1⟩ := hB
    rw [ht] at hP1
    obtain ⟨b12, hw⟩ := hw
    have hD : va_D A (w_Mod cs q u12) := hD1.weaken (fun k q _ h => hFc q.1 h)
    have hP : va_P D vwCl (w_Mod cs q u12) H := hP1
    refine lv_if_eq (tgt := 26) hx hb dX4_leastPace_21 (by decide) (fun c13 => ?_) (fun c13 => ?_)
    · have hw := hw.1 c13
      refine lv_iconst (v := (1 : Int32)) hx hb dX4_leastPace_26 (by decide) ?_
      refine lv_istore_n (lv' := [(2, .int (1 : Int32)), (0, .ref (q 0)), (1, .int x1)]) hx hb dX4_leastPace_27 rfl hl (by decide) rfl (fun ls hl => ?_)
      obtain ⟨n14, hw⟩ := hw
      exact t_X4_leastPace_28 hC q _ _ hA n14 _ _ hw H locs hP hD hS ls (lv_sub hl [1, 2, 0] rfl)
    · have hw := hw.2 c13
      refine lv_iconst (v := (0 : Int32)) hx hb dX4_leastPace_24 (by decide) ?_
      exact W.iret (v := (0 : Int32)) hx hb hr (fun t ht hW => ⟨⟨(0 : Int32), (u12), rfl, hw, by rw [ht]; exact hP, hD⟩, hS.F ht⟩) hS.2.2 dX4_leastPace_25 hlocks
set_option maxHeartbeats 4000000 in
set_option maxRecDepth 100000 in
theorem c_X4_leastPace (l : Launch) (D : va_G) (cs : Nat → ClassId) (q : Nat → Nat) (sz : Nat) (M : MS) (x1 : Int32) (Q : Int32 → MS → Prop) (hw : wp_X4_leastPace M x1 Q) : Met l yX4_leastPace wsX4_leastPace ({ frames := 4, cells := 0, slots := 0, locals := 88 } : Room) (va_Pc [.ref (q 0), .int x1] (PC D cs (w_Mod cs q M) sz)) (va_Qi (fun r (u : MS) => Q r u) (fun (u : MS) t => va_P D vwCl (w_Mod cs q u) t.heap ∧ va_D (va_A (w_Mod cs q M) sz) (w_Mod cs q u)) (va_A (w_Mod cs q M) sz)) 0 0 (va_A (w_Mod cs q M) sz) := by
  refine Met.ofW (cc := cX4_leastPace) (maxL := 3) (ret := (some .int)) (by decide) rfl ?_
  intro p e s m args below meth c s₁ B hml hv
  obtain ⟨rfl, hsz, hP, hKK, hD0⟩ := hv
  have hC : MAt p s m _ meth c RX4 cX4_leastPace 3 (some .int) wsX4_leastPace D cs := ⟨B.exec, B.bytes, B.returns, hml, findClass_of_methodNamed B.named, atoms_spec (ws := wsX4_leastPace) B.pre, B.notSynchronized, hKK⟩
  have hl := lv_entry ([.ref (q 0), .int x1]) (n := 3) (Nat.le_of_ble_eq_true rfl)
  rw [lg_entry_eq]
  generalize (lg_sl ([.ref (q 0), .int x1]) ++ List.replicate (3 - (lg_sl ([.ref (q 0), .int x1])).length) Slot.unset).toArray = ls at hl ⊢
  subst hsz
  have hD := hD0.self (sz := s.heap.size)
  have hA : ∀ z : Nat, s.heap.size ≤ z → va_A (w_Mod cs q M) s.heap.size z := fun z h => Or.inr h
  exact t_X4_leastPace hC q M x1 Q hA hw s.heap [] hP hD va_S.rf ls hl
theorem h_X4_X4_slowest : ∀ w ∈ u_ws RX4 TX4 11, w ∈ wsX4_slowest := fun _ h => List.mem_cons_of_mem _ (List.mem_append_right _ h)
set_option maxHeartbeats 4000000 in
set_option maxRecDepth 100000 in
theorem t_X4_slowest_75 {p : Program} {l : Launch} {e : Env} {s : State} {m : MethodId} {args : Array Value} {below : List Frame} {meth : Method} {c : Code} {D : va_G} {cs : Nat → ClassId} {A : Nat → Prop} (hC : MAt p s m args meth c RX4 cX4_slowest 7 (some .int) wsX4_slowest D cs) (q : Nat → Nat) (x1 : Int32) (x2 : Int32) (Q : Int32 → MS → Prop) (hA : ∀ q : Nat, s.heap.size ≤ q → A q) : ∀ (n : Nat) (M : MS) (x3 : Int32) (x4 : Int32) (x5 : Int32), wl_X4_slowest_75 x1 x2 Q n M x3 x4 x5 → ∀ (H : Heap) (locs : List Loc), va_P D vwCl (w_Mod cs q M) H → va_D A (w_Mod cs q M) → va_S A s.heap H locs → ∀ ls : Array Slot, lv_has ls 7 [(0, .ref (q 0)), (1, .int x1), (2, .int x2), (3, .int x3), (4, .int x4), (5, .int x5)] → W p l e ({ frames := 3, cells := 0, slots := 0, locals := 70 } : Room) s m args below meth c H locs 0 0 (MQ below (va_Qi (fun r (u : MS) => Q r u) (fun (u : MS) t => va_P D vwCl (w_Mod cs q u) t.heap ∧ va_D A (w_Mod cs q u)) A) args s 0 0 A) (F0 m 75 ls []) := by
  obtain ⟨hx, hb, hr, hml, hown, hts, hlocks, hKK⟩ := id hC
  have hK := hKK.1
  intro n
  induction n with
  | zero =>
    intro M x3 x4 x5 hw
    exact False.elim hw
  | succ n ih =>
    intro M x3 x4 x5 hw H locs hP hD hS ls hl
    refine lv_iload hx hb dX4_slowest_75 (lv_at hl 5 rfl) ?_
    refine lv_iload_n hx hb dX4_slowest_77 rfl (lv_at hl 2 rfl) ?_
    refine lv_icmp_gt (tgt := 152) hx hb dX4_slowest_78 (by decide) (fun c11 => ?_) (fun c11 => ?_)
    · have hw := hw.1 c11
      refine lv_iload_n hx hb dX4_slowest_152 rfl (lv_at hl 3 rfl) ?_
      exact W.iret (v := x3) hx hb hr (fun t ht hW => ⟨⟨x3, (M), rfl, hw, by rw [ht]; exact hP, hD⟩, hS.F ht⟩) hS.2.2 dX4_slowest_153 hlocks
    · have hw := hw.2 c11
      refine lv_aload_n hx hb dX4_slowest_81 rfl (lv_at hl 0 rfl) ?_
      refine va_get (D := D) (ci := 4) (v := .ref (q 2)) (C := RX4) (T := TX4) (N := 11) hx hb hts (h_X4_X4_slowest) hown hK hP 0 rfl rfl 3 (by decide) (z_w hts 1 rfl) (fun _ h9 => h9) rfl dX4_slowest_82 ?_
      refine lv_iconst (v := (0 : Int32)) hx hb dX4_slowest_85 (by decide) ?_
      refine lv_aload_n hx hb dX4_slowest_86 rfl (lv_at hl 0 rfl) ?_
      refine va_get (D := D) (ci := 4) (v := .ref (q 3)) (C := RX4) (T := TX4) (N := 11) hx hb hts (h_X4_X4_slowest) hown hK hP 0 rfl rfl 4 (by decide) (z_w hts 2 rfl) (fun _ h9 => h9) rfl dX4_slowest_87 ?_
      refine lv_iconst (v := (0 : Int32)) hx hb dX4_slowest_90 (by decide) ?_
      have hPc := hP.sub (ws' := w_Row cs (q 2) 336 (M 2) ++ w_Row cs (q 3) 336 (M 3)) [2, 3] rfl
      have hDc := hD.sub (ws' := w_Row cs (q 2) 336 (M 2) ++ w_Row cs (q 3) 336 (M 3)) [2, 3] (by decide) rfl
      have hFc := va_free (wc := w_Row cs (q 2) 336 (M 2) ++ w_Row cs (q 3) 336 (M 3)) hD hS hA [2, 3] rfl
      refine va_callv (va_runS (As := [.ref (q 2), .int (0 : Int32), .ref (q 3), .int (0 : Int32)]) (rest := []) ⟨hx, hb, hml, hown, hts⟩ (c_X4_copyLine l D cs (q 2) (q 3) H.size 336 336 (M 2) (M 3) (0 : Int32) (0 : Int32) _ hw) (va_cwS 4 hts gX4_slowest_X4_copyLine rfl rfl rfl (by decide +kernel) ⟨Nat.le_of_ble_eq_true rfl, Nat.le_of_ble_eq_true rfl⟩) (PC_S hPc hDc hKK) rfl rfl hl.1 rfl (lv_room (Nat.le_of_ble_eq_true rfl)) dX4_slowest_91 ⟨Nat.le_of_ble_eq_true rfl, Nat.le_of_ble_eq_true rfl⟩) hS (fun q _ h => hFc q h) hFc (fun u12 t H locs ht hvm hw hB hz1 hk1 hS => ?_)
      obtain ⟨hP1, hD1⟩ := hB
      rw [ht] at hP1
      obtain ⟨hP, hD⟩ := va_join (wr := ([0, 1, 4, 5, 6, 7, 8].filterMap (fun i => (w_Mod cs q M)[i]?))) (w1 := w_Row cs (q 2) 336 (M 2) ++ w_Row cs (q 3) 336 u12) hP hD [2, 3] [0, 1, 4, 5, 6, 7, 8] rfl rfl (by decide) (by decide) hk1 hFc hP1 hD1
      have hP : va_P D vwCl (w_Mod cs q (zr2 M 3 u12)) H := hP.sub (ws' := w_Mod cs q (zr2 M 3 u12)) [0, 1, 7, 8, 2, 3, 4, 5, 6] rfl
      have hD : va_D A (w_Mod cs q (zr2 M 3 u12)) := hD.sub (ws' := w_Mod cs q (zr2 M 3 u12)) [0, 1, 7, 8, 2, 3, 4, 5, 6] (by decide) rfl
      refine lv_aload_n hx hb dX4_slowest_94 rfl (lv_at hl 0 rfl) ?_
      refine va_get (D := D) (ci := 4) (v := .ref (q 3)) (C := RX4) (T := TX4) (N := 11) hx hb hts (h_X4_X4_slowest) hown hK hP 0 rfl rfl 4 (by decide) (z_w hts 2 rfl) (fun _ h9 => h9) rfl dX4_slowest_95 ?_
      refine lv_iload_n hx hb dX4_slowest_98 rfl (lv_at hl 1 rfl) ?_
      refine lv_iload hx hb dX4_slowest_99 (lv_at hl 5 rfl) ?_
      have hPc := hP.sub (ws' := w_Row cs (q 3) 336 u12) [3] rfl
      have hDc := hD.sub (ws' := w_Row cs (q 3) 336 u12) [3] (by decide) rfl
      have hFc := va_free (wc := w_Row cs (q 3) 336 u12) hD hS hA [3] rfl
      refine va_calli (va_runS (As := [.ref (q 3), .int x1, .int x5]) (rest := []) ⟨hx, hb, hml, hown, hts⟩ (c_X4_addOn l D cs (q 3) H.size u12 x1 x5 _ hw) (va_cwS 3 hts gX4_slowest_X4_addOn rfl rfl rfl (by decide +kernel) ⟨Nat.le_of_ble_eq_true rfl, Nat.le_of_ble_eq_true rfl⟩) (PC_S hPc hDc hKK) rfl rfl hl.1 rfl (lv_room (Nat.le_of_ble_eq_true rfl)) dX4_slowest_101 ⟨Nat.le_of_ble_eq_true rfl, Nat.le_of_ble_eq_true rfl⟩) hS (fun q _ h => hFc q h) hFc (fun r13 u13 t H locs ht hvm hw hB hz1 hk1 hS => ?_)
      obtain ⟨hP1, hD1⟩ := hB
      rw [ht] at hP1
      obtain ⟨hP, hD⟩ := va_join (wr := ([0, 1, 2, 4, 5, 6, 7, 8].filterMap (fun i => (w_Mod cs q (zr2 M 3 u12))[i]?))) (w1 := w_Row cs (q 3) 336 u13) hP hD [3] [0, 1, 2, 4, 5, 6, 7, 8] rfl rfl (by decide) (by decide) hk1 hFc hP1 hD1
      have hP : va_P D vwCl (w_Mod cs q (zr2 M 3 u13)) H := hP.sub (ws' := w_Mod cs q (zr2 M 3 u13)) [0, 1, 2, 8, 3, 4, 5, 6, 7] rfl
      have hD : va_D A (w_Mod cs q (zr2 M 3 u13)) := hD.sub (ws' := w_Mod cs q (zr2 M 3 u13)) [0, 1, 2, 8, 3, 4, 5, 6, 7] (by decide) rfl
      refine lv_pop hx hb dX4_slowest_104 rfl ?_
      refine lv_aload_n hx hb dX4_slowest_105 rfl (lv_at hl 0 rfl) ?_
      refine lv_aload_n hx hb dX4_slowest_106 rfl (lv_at hl 0 rfl) ?_
      refine va_get (D := D) (ci := 4) (v := .ref (q 3)) (C := RX4) (T := TX4) (N := 11) hx hb hts (h_X4_X4_slowest) hown hK hP 0 rfl rfl 4 (by decide) (z_w hts 2 rfl) (fun _ h9 => h9) rfl dX4_slowest_107 ?_
      refine lv_iload_n hx hb dX4_slowest_110 rfl (lv_at hl 1 rfl) ?_
      have hFc := va_free (wc := w_Mod cs q (zr2 M 3 u13)) hD hS hA [0, 1, 2, 3, 4, 5, 6, 7, 8] rfl
      refine va_calli (va_runV (As := [.ref (q 3), .int x1]) (rest := []) ⟨hx, hb, hml, hown, hts⟩ (c_X4_settles l D cs q H.size (zr2 M 3 u13) x1 _ hw) (cwV 2 hts gX4_slowest_X4_settles rfl rfl rfl (by decide +kernel) ⟨Nat.le_of_ble_eq_true rfl, Nat.le_of_ble_eq_true rfl⟩) (PC_V hP hD hKK 0 4 rfl rfl) rfl rfl hl.1 rfl (lv_room (Nat.le_of_ble_eq_true rfl)) dX4_slowest_111 ⟨Nat.le_of_ble_eq_true rfl, Nat.le_of_ble_eq_true rfl⟩) hS (fun q _ h => hFc q h) hFc (fun r14 u14 t H locs ht hvm hw hB hz1 hk1 hS => ?_)
      obtain ⟨hP1, hD1⟩ := hB
      rw [ht] at hP1
      have hD : va_D A (w_Mod cs q u14) := hD1.weaken (fun k q _ h => hFc q.1 h)
      have hP : va_P D vwCl (w_Mod cs q u14) H := hP1
      refine lv_istore (lv' := [(6, .int r14), (0, .ref (q 0)), (1, .int x1), (2, .int x2), (3, .int x3), (4, .int x4), (5, .int x5)]) hx hb dX4_slowest_114 hl (by decide) rfl (fun ls hl => ?_)
      refine lv_iload hx hb dX4_slowest_116 (lv_at hl 0 rfl) ?_
      refine lv_iload hx hb dX4_slowest_118 (lv_at hl 5 rfl) ?_
      refine lv_icmp_le (tgt := 128) hx hb dX4_slowest_120 (by decide) (fun c15 => ?_) (fun c15 => ?_)
      · have hw := hw.1 c15
        refine lv_iload_n hx hb dX4_slowest_128 rfl (lv_at hl 4 rfl) ?_
        refine lv_istore_n (lv' := [(3, .int x3), (6, .int r14), (0, .ref (q 0)), (1, .int x1), (2, .int x2), (4, .int x4), (5, .int x5)]) hx hb dX4_slowest_129 rfl hl (by decide) rfl (fun ls hl => ?_)
        refine lv_iload hx hb dX4_slowest_130 (lv_at hl 1 rfl) ?_
        refine lv_iload hx hb dX4_slowest_132 (lv_at hl 5 rfl) ?_
        refine lv_icmp_le (tgt := 142) hx hb dX4_slowest_134 (by decide) (fun c16 => ?_) (fun c16 => ?_)
        · have hw := hw.1 c16
          refine lv_iload hx hb dX4_slowest_142 (lv_at hl 5 rfl) ?_
          refine lv_istore (lv' := [(4, .int x4), (3, .int x3), (6, .int r14), (0, .ref (q 0)), (1, .int x1), (2, .int x2), (5, .int x5)]) hx hb dX4_slowest_144 hl (by decide) rfl (fun ls hl => ?_)
          refine lv_iinc (v := x5 + 1) (lv' := [(5, .int (x5 + 1)), (4, .int x4), (3, .int x3), (6, .int r14), (0, .ref (q 0)), (1, .int x1), (2, .int x2)]) hx hb dX4_slowest_146 hl (k := 6) rfl rfl (by decide) rfl (fun ls hl => ?_)
          refine lv_goto (tgt := 75) hx hb dX4_slowest_149 (by decide) ?_
          exact ih _ _ _ _ hw _ _ hP hD hS ls (lv_sub hl [4, 5, 6, 2, 1, 0] rfl)
        · have hw := hw.2 c16
          refine lv_iload hx hb dX4_slowest_137 (lv_at hl 1 rfl) ?_
          refine lv_goto (tgt := 144) hx hb dX4_slowest_139 (by decide) ?_
          refine lv_istore (lv' := [(4, .int r14), (3, .int x3), (6, .int r14), (0, .ref (q 0)), (1, .int x1), (2, .int x2), (5, .int x5)]) hx hb dX4_slowest_144 hl (by decide) rfl (fun ls hl => ?_)
          refine lv_iinc (v := x5 + 1) (lv' := [(5, .int (x5 + 1)), (4, .int r14), (3, .int x3), (6, .int r14), (0, .ref (q 0)), (1, .int x1), (2, .int x2)]) hx hb dX4_slowest_146 hl (k := 6) rfl rfl (by decide) rfl (fun ls hl => ?_)
          refine lv_goto (tgt := 75) hx hb dX4_slowest_149 (by decide) ?_
          exact ih _ _ _ _ hw _ _ hP hD hS ls (lv_sub hl [4, 5, 6, 2, 1, 0] rfl)
      · have hw := hw.2 c15
        refine lv_iload hx hb dX4_slowest_123 (lv_at hl 6 rfl) ?_
        refine lv_goto (tgt := 129) hx hb dX4_slowest_125 (by decide) ?_
        refine lv_istore_n (lv' := [(3, .int x5), (6, .int r14), (0, .ref (q 0)), (1, .int x1), (2, .int x2), (4, .int x4), (5, .int x5)]) hx hb dX4_slowest_129 rfl hl (by decide) rfl (fun ls hl => ?_)
        refine lv_iload hx hb dX4_slowest_130 (lv_at hl 1 rfl) ?_
        refine lv_iload hx hb dX4_slowest_132 (lv_at hl 5 rfl) ?_
        refine lv_icmp_le (tgt := 142) hx hb dX4_slowest_134 (by decide) (fun c17 => ?_) (fun c17 => ?_)
        · have hw := hw.1 c17
          refine lv_iload hx hb dX4_slowest_142 (lv_at hl 5 rfl) ?_
          refine lv_istore (lv' := [(4, .int x4), (3, .int x5), (6, .int r14), (0, .ref (q 0)), (1, .int x1), (2, .int x2), (5, .int x5)]) hx hb dX4_slowest_144 hl (by decide) rfl (fun ls hl => ?_)
          refine lv_iinc (v := x5 + 1) (lv' := [(5, .int (x5 + 1)), (4, .int x4), (3, .int x5), (6, .int r14), (0, .ref (q 0)), (1, .int x1), (2, .int x2)]) hx hb dX4_slowest_146 hl (k := 6) rfl rfl (by decide) rfl (fun ls hl => ?_)
          refine lv_goto (tgt := 75) hx hb dX4_slowest_149 (by decide) ?_
          exact ih _ _ _ _ hw _ _ hP hD hS ls (lv_sub hl [4, 5, 6, 2, 1, 0] rfl)
        · have hw := hw.2 c17
          refine lv_iload hx hb dX4_slowest_137 (lv_at hl 1 rfl) ?_
          refine lv_goto (tgt := 144) hx hb dX4_slowest_139 (by decide) ?_
          refine lv_istore (lv' := [(4, .int r14), (3, .int x5), (6, .int r14), (0, .ref (q 0)), (1, .int x1), (2, .int x2), (5, .int x5)]) hx hb dX4_slowest_144 hl (by decide) rfl (fun ls hl => ?_)
          refine lv_iinc (v := x5 + 1) (lv' := [(5, .int (x5 + 1)), (4, .int r14), (3, .int x5), (6, .int r14), (0, .ref (q 0)), (1, .int x1), (2, .int x2)]) hx hb dX4_slowest_146 hl (k := 6) rfl rfl (by decide) rfl (fun ls hl => ?_)
          refine lv_goto (tgt := 75) hx hb dX4_slowest_149 (by decide) ?_
          exact ih _ _ _ _ hw _ _ hP hD hS ls (lv_sub hl [4, 5, 6, 2, 1, 0] rfl)
set_option maxHeartbeats 4000000 in
set_option maxRecDepth 100000 in
theorem t_X4_slowest {p : Program} {l : Launch} {e : Env} {s : State} {m : MethodId} {args : Array Value} {below : List Frame} {meth : Method} {c : Code} {D : va_G} {cs : Nat → ClassId} {A : Nat → Prop} (hC : MAt p s m args meth c RX4 cX4_slowest 7 (some .int) wsX4_slowest D cs) (q : Nat → Nat) (M : MS) (x1 : Int32) (Q : Int32 → MS → Prop) (hA : ∀ q : Nat, s.heap.size ≤ q → A q) (hw : wp_X4_slowest M x1 Q) (H : Heap) (locs : List Loc) (hP : va_P D vwCl (w_Mod cs q M) H) (hD : va_D A (w_Mod cs q M)) (hS : va_S A s.heap H locs) (ls : Array Slot) (hl : lv_has ls 7 [(0, .ref (q 0)), (1, .int x1)]) : W p l e ({ frames := 3, cells := 0, slots := 0, locals := 70 } : Room) s m args below meth c H locs 0 0 (MQ below (va_Qi (fun r (u : MS) => Q r u) (fun (u : MS) t => va_P D vwCl (w_Mod cs q u) t.heap ∧ va_D A (w_Mod cs q u)) A) args s 0 0 A) (F0 m 0 ls []) := by
  obtain ⟨hx, hb, hr, hml, hown, hts, hlocks, hKK⟩ := id hC
  have hK := hKK.1
  refine lv_aload_n hx hb dX4_slowest_0 rfl (lv_at hl 0 rfl) ?_
  refine lv_aload_n hx hb dX4_slowest_1 rfl (lv_at hl 0 rfl) ?_
  refine va_get (D := D) (ci := 4) (v := .ref (q 2)) (C := RX4) (T := TX4) (N := 11) hx hb hts (h_X4_X4_slowest) hown hK hP 0 rfl rfl 3 (by decide) (z_w hts 1 rfl) (fun _ h9 => h9) rfl dX4_slowest_2 ?_
  refine lv_iload_n hx hb dX4_slowest_5 rfl (lv_at hl 1 rfl) ?_
  have hPc := hP.sub (ws' := w_Row cs (q 2) 336 (M 2)) [2] rfl
  have hDc := hD.sub (ws' := w_Row cs (q 2) 336 (M 2)) [2] (by decide) rfl
  refine z_calli (va_runS (As := [.ref (q 2), .int x1]) (rest := [.ref (q 0)]) ⟨hx, hb, hml, hown, hts⟩ (c_X4_isCounter l D cs (q 2) H.size (M 2) x1 _ hw) (va_cwS 2 hts gX4_slowest_X4_isCounter rfl rfl rfl (by decide +kernel) ⟨Nat.le_of_ble_eq_true rfl, Nat.le_of_ble_eq_true rfl⟩) (PC_S hPc hDc hKK) rfl rfl hl.1 rfl (lv_room (Nat.le_of_ble_eq_true rfl)) dX4_slowest_6 ⟨Nat.le_of_ble_eq_true rfl, Nat.le_of_ble_eq_true rfl⟩) (fun r1 hw => ?_)
  obtain ⟨b1, hw⟩ := hw
  refine lv_if_eq (tgt := 16) hx hb dX4_slowest_9 (by decide) (fun c2 => ?_) (fun c2 => ?_)
  · have hw := hw.1 c2
    refine lv_iconst (v := (1 : Int32)) hx hb dX4_slowest_16 (by decide) ?_
    have hFc := va_free (wc := w_Mod cs q M) hD hS hA [0, 1, 2, 3, 4, 5, 6, 7, 8] rfl
    refine va_calli (va_runV (As := [.int (1 : Int32)]) (rest := []) ⟨hx, hb, hml, hown, hts⟩ (c_X4_refused l D cs q H.size M (1 : Int32) _ hw) (cwV 1 hts gX4_slowest_X4_refused rfl rfl rfl (by decide +kernel) ⟨Nat.le_of_ble_eq_true rfl, Nat.le_of_ble_eq_true rfl⟩) (PC_V hP hD hKK 0 4 rfl rfl) rfl rfl hl.1 rfl (lv_room (Nat.le_of_ble_eq_true rfl)) dX4_slowest_17 ⟨Nat.le_of_ble_eq_true rfl, Nat.le_of_ble_eq_true rfl⟩) hS (fun q _ h => hFc q h) hFc (fun r3 u3 t H locs ht hvm hw hB hz1 hk1 hS => ?_)
    obtain ⟨hP1, hD1⟩ := hB
    rw [ht] at hP1
    obtain ⟨b3, hw⟩ := hw
    have hD : va_D A (w_Mod cs q u3) := hD1.weaken (fun k q _ h => hFc q.1 h)
    have hP : va_P D vwCl (w_Mod cs q u3) H := hP1
    refine lv_if_eq (tgt := 25) hx hb dX4_slowest_20 (by decide) (fun c4 => ?_) (fun c4 => ?_)
    · have hw := hw.1 c4
      refine lv_aload_n hx hb dX4_slowest_25 rfl (lv_at hl 0 rfl) ?_
      refine va_get (D := D) (ci := 4) (v := .ref (q 2)) (C := RX4) (T := TX4) (N := 11) hx hb hts (h_X4_X4_slowest) hown hK hP 0 rfl rfl 3 (by decide) (z_w hts 1 rfl) (fun _ h9 => h9) rfl dX4_slowest_26 ?_
      refine lv_iload_n hx hb dX4_slowest_29 rfl (lv_at hl 1 rfl) ?_
      have hPc := hP.sub (ws' := ([] : va_W)) [] rfl
      have hDc := hD.sub (ws' := ([] : va_W)) [] (by decide) rfl
      refine z_calli (va_runS (As := [.int x1]) (rest := [.ref (q 2)]) ⟨hx, hb, hml, hown, hts⟩ (c_X4_at l D cs  H.size x1 _ hw) (va_cwS 1 hts gX4_slowest_X4_at rfl rfl rfl (by decide +kernel) ⟨Nat.le_of_ble_eq_true rfl, Nat.le_of_ble_eq_true rfl⟩) (PC_S hPc hDc hKK) rfl rfl hl.1 rfl (lv_room (Nat.le_of_ble_eq_true rfl)) dX4_slowest_30 ⟨Nat.le_of_ble_eq_true rfl, Nat.le_of_ble_eq_true rfl⟩) (fun r5 hw => ?_)
      refine lv_iconst (v := (0 : Int32)) hx hb dX4_slowest_33 (by decide) ?_
      refine lv_iadd hx hb dX4_slowest_34 ?_
      obtain ⟨h6, hw⟩ := hw
      refine va_iald hx hb hK hP 2 0 rfl rfl h6 dX4_slowest_35 ?_
      refine lv_iconst (v := (1 : Int32)) hx hb dX4_slowest_36 (by decide) ?_
      refine lv_icmp_ne (tgt := 44) hx hb dX4_slowest_37 (by decide) (fun c7 => ?_) (fun c7 => ?_)
      · have hw := hw.2 c7
        refine lv_aload_n hx hb dX4_slowest_44 rfl (lv_at hl 0 rfl) ?_
        refine va_get (D := D) (ci := 4) (v := .ref (q 2)) (C := RX4) (T := TX4) (N := 11) hx hb hts (h_X4_X4_slowest) hown hK hP 0 rfl rfl 3 (by decide) (z_w hts 1 rfl) (fun _ h9 => h9) rfl dX4_slowest_45 ?_
        refine lv_iload_n hx hb dX4_slowest_48 rfl (lv_at hl 1 rfl) ?_
        have hPc := hP.sub (ws' := ([] : va_W)) [] rfl
        have hDc := hD.sub (ws' := ([] : va_W)) [] (by decide) rfl
        refine z_calli (va_runS (As := [.int x1]) (rest := [.ref (q 2)]) ⟨hx, hb, hml, hown, hts⟩ (c_X4_at l D cs  H.size x1 _ hw) (va_cwS 1 hts gX4_slowest_X4_at rfl rfl rfl (by decide +kernel) ⟨Nat.le_of_ble_eq_true rfl, Nat.le_of_ble_eq_true rfl⟩) (PC_S hPc hDc hKK) rfl rfl hl.1 rfl (lv_room (Nat.le_of_ble_eq_true rfl)) dX4_slowest_49 ⟨Nat.le_of_ble_eq_true rfl, Nat.le_of_ble_eq_true rfl⟩) (fun r8 hw => ?_)
        refine lv_iconst (v := (0 : Int32)) hx hb dX4_slowest_52 (by decide) ?_
        refine lv_iadd hx hb dX4_slowest_53 ?_
        obtain ⟨h9, hw⟩ := hw
        refine va_iald hx hb hK hP 2 0 rfl rfl h9 dX4_slowest_54 ?_
        refine lv_iconst (v := (2 : Int32)) hx hb dX4_slowest_55 (by decide) ?_
        refine lv_icmp_ne (tgt := 64) hx hb dX4_slowest_56 (by decide) (fun c10 => ?_) (fun c10 => ?_)
        · have hw := hw.2 c10
          refine lv_bipush (v := (26 : Int32)) hx hb dX4_slowest_64 (by decide) ?_
          refine lv_istore_n (lv' := [(2, .int (26 : Int32)), (0, .ref (q 0)), (1, .int x1)]) hx hb dX4_slowest_66 rfl hl (by decide) rfl (fun ls hl => ?_)
          refine lv_iconst (v := (-1 : Int32)) hx hb dX4_slowest_67 (by decide) ?_
          refine lv_istore_n (lv' := [(3, .int (-1 : Int32)), (2, .int (26 : Int32)), (0, .ref (q 0)), (1, .int x1)]) hx hb dX4_slowest_68 rfl hl (by decide) rfl (fun ls hl => ?_)
          refine lv_iconst (v := (-1 : Int32)) hx hb dX4_slowest_69 (by decide) ?_
          refine lv_istore (lv' := [(4, .int (-1 : Int32)), (3, .int (-1 : Int32)), (2, .int (26 : Int32)), (0, .ref (q 0)), (1, .int x1)]) hx hb dX4_slowest_70 hl (by decide) rfl (fun ls hl => ?_)
          refine lv_iconst (v := (1 : Int32)) hx hb dX4_slowest_72 (by decide) ?_
          refine lv_istore (lv' := [(5, .int (1 : Int32)), (4, .int (-1 : Int32)), (3, .int (-1 : Int32)), (2, .int (26 : Int32)), (0, .ref (q 0)), (1, .int x1)]) hx hb dX4_slowest_73 hl (by decide) rfl (fun ls hl => ?_)
          obtain ⟨n18, hw⟩ := hw
          exact t_X4_slowest_75 hC q _ _ _ hA n18 _ _ _ _ hw H locs hP hD hS ls (lv_sub hl [4, 5, 3, 2, 1, 0] rfl)
        · have hw := hw.1 c10
          refine lv_bipush (v := (8 : Int32)) hx hb dX4_slowest_59 (by decide) ?_
          refine lv_goto (tgt := 66) hx hb dX4_slowest_61 (by decide) ?_
          refine lv_istore_n (lv' := [(2, .int (8 : Int32)), (0, .ref (q 0)), (1, .int x1)]) hx hb dX4_slowest_66 rfl hl (by decide) rfl (fun ls hl => ?_)
          refine lv_iconst (v := (-1 : Int32)) hx hb dX4_slowest_67 (by decide) ?_
          refine lv_istore_n (lv' := [(3, .int (-1 : Int32)), (2, .int (8 : Int32)), (0, .ref (q 0)), (1, .int x1)]) hx hb dX4_slowest_68 rfl hl (by decide) rfl (fun ls hl => ?_)
          refine lv_iconst (v := (-1 : Int32)) hx hb dX4_slowest_69 (by decide) ?_
          refine lv_istore (lv' := [(4, .int (-1 : Int32)), (3, .int (-1 : Int32)), (2, .int (8 : Int32)), (0, .ref (q 0)), (1, .int x1)]) hx hb dX4_slowest_70 hl (by decide) rfl (fun ls hl => ?_)
          refine lv_iconst (v := (1 : Int32)) hx hb dX4_slowest_72 (by decide) ?_
          refine lv_istore (lv' := [(5, .int (1 : Int32)), (4, .int (-1 : Int32)), (3, .int (-1 : Int32)), (2, .int (8 : Int32)), (0, .ref (q 0)), (1, .int x1)]) hx hb dX4_slowest_73 hl (by decide) rfl (fun ls hl => ?_)
          obtain ⟨n19, hw⟩ := hw
          exact t_X4_slowest_75 hC q _ _ _ hA n19 _ _ _ _ hw H locs hP hD hS ls (lv_sub hl [4, 5, 3, 2, 1, 0] rfl)
      · have hw := hw.1 c7
        refine lv_iconst (v := (2 : Int32)) hx hb dX4_slowest_40 (by decide) ?_
        refine lv_goto (tgt := 66) hx hb dX4_slowest_41 (by decide) ?_
        refine lv_istore_n (lv' := [(2, .int (2 : Int32)), (0, .ref (q 0)), (1, .int x1)]) hx hb dX4_slowest_66 rfl hl (by decide) rfl (fun ls hl => ?_)
        refine lv_iconst (v := (-1 : Int32)) hx hb dX4_slowest_67 (by decide) ?_
        refine lv_istore_n (lv' := [(3, .int (-1 : Int32)), (2, .int (2 : Int32)), (0, .ref (q 0)), (1, .int x1)]) hx hb dX4_slowest_68 rfl hl (by decide) rfl (fun ls hl => ?_)
        refine lv_iconst (v := (-1 : Int32)) hx hb dX4_slowest_69 (by decide) ?_
        refine lv_istore (lv' := [(4, .int (-1 : Int32)), (3, .int (-1 : Int32)), (2, .int (2 : Int32)), (0, .ref (q 0)), (1, .int x1)]) hx hb dX4_slowest_70 hl (by decide) rfl (fun ls hl => ?_)
        refine lv_iconst (v := (1 : Int32)) hx hb dX4_slowest_72 (by decide) ?_
        refine lv_istore (lv' := [(5, .int (1 : Int32)), (4, .int (-1 : Int32)), (3, .int (-1 : Int32)), (2, .int (2 : Int32)), (0, .ref (q 0)), (1, .int x1)]) hx hb dX4_slowest_73 hl (by decide) rfl (fun ls hl => ?_)
        obtain ⟨n20, hw⟩ := hw
        exact t_X4_slowest_75 hC q _ _ _ hA n20 _ _ _ _ hw H locs hP hD hS ls (lv_sub hl [4, 5, 3, 2, 1, 0] rfl)
    · have hw := hw.2 c4
      refine lv_iconst (v := (0 : Int32)) hx hb dX4_slowest_23 (by decide) ?_
      exact W.iret (v := (0 : Int32)) hx hb hr (fun t ht hW => ⟨⟨(0 : Int32), (u3), rfl, hw, by rw [ht]; exact hP, hD⟩, hS.F ht⟩) hS.2.2 dX4_slowest_24 hlocks
  · have hw := hw.2 c2
    refine lv_iconst (v := (0 : Int32)) hx hb dX4_slowest_12 (by decide) ?_
    refine lv_goto (tgt := 17) hx hb dX4_slowest_13 (by decide) ?_
    have hFc := va_free (wc := w_Mod cs q M) hD hS hA [0, 1, 2, 3, 4, 5, 6, 7, 8] rfl
    refine va_calli (va_runV (As := [.int (0 : Int32)]) (rest := []) ⟨hx, hb, hml, hown, hts⟩ (c_X4_refused l D cs q H.size M (0 : Int32) _ hw) (cwV 1 hts gX4_slowest_X4_refused rfl rfl rfl (by decide +kernel) ⟨Nat.le_of_ble_eq_true rfl, Nat.le_of_ble_eq_true rfl⟩) (PC_V hP hD hKK 0 4 rfl rfl) rfl rfl hl.1 rfl (lv_room (Nat.le_of_ble_eq_true rfl)) dX4_slowest_17 ⟨Nat.le_of_ble_eq_true rfl, Nat.le_of_ble_eq_true rfl⟩) hS (fun q _ h => hFc q h) hFc (fun r21 u21 t H locs ht hvm hw hB hz1 hk1 hS => ?_)
    obtain ⟨hP1, hD1⟩ := hB
    rw [ht] at hP1
    obtain ⟨b21, hw⟩ := hw
    have hD : va_D A (w_Mod cs q u21) := hD1.weaken (fun k q _ h => hFc q.1 h)
    have hP : va_P D vwCl (w_Mod cs q u21) H := hP1
    refine lv_if_eq (tgt := 25) hx hb dX4_slowest_20 (by decide) (fun c22 => ?_) (fun c22 => ?_)
    · have hw := hw.1 c22
      refine lv_aload_n hx hb dX4_slowest_25 rfl (lv_at hl 0 rfl) ?_
      refine va_get (D := D) (ci := 4) (v := .ref (q 2)) (C := RX4) (T := TX4) (N := 11) hx hb hts (h_X4_X4_slowest) hown hK hP 0 rfl rfl 3 (by decide) (z_w hts 1 rfl) (fun _ h9 => h9) rfl dX4_slowest_26 ?_
      refine lv_iload_n hx hb dX4_slowest_29 rfl (lv_at hl 1 rfl) ?_
      have hPc := hP.sub (ws' := ([] : va_W)) [] rfl
      have hDc := hD.sub (ws' := ([] : va_W)) [] (by decide) rfl
      refine z_calli (va_runS (As := [.int x1]) (rest := [.ref (q 2)]) ⟨hx, hb, hml, hown, hts⟩ (c_X4_at l D cs  H.size x1 _ hw) (va_cwS 1 hts gX4_slowest_X4_at rfl rfl rfl (by decide +kernel) ⟨Nat.le_of_ble_eq_true rfl, Nat.le_of_ble_eq_true rfl⟩) (PC_S hPc hDc hKK) rfl rfl hl.1 rfl (lv_room (Nat.le_of_ble_eq_true rfl)) dX4_slowest_30 ⟨Nat.le_of_ble_eq_true rfl, Nat.le_of_ble_eq_true rfl⟩) (fun r23 hw => ?_)
      refine lv_iconst (v := (0 : Int32)) hx hb dX4_slowest_33 (by decide) ?_
      refine lv_iadd hx hb dX4_slowest_34 ?_
      obtain ⟨h24, hw⟩ := hw
      refine va_iald hx hb hK hP 2 0 rfl rfl h24 dX4_slowest_35 ?_
      refine lv_iconst (v := (1 : Int32)) hx hb dX4_slowest_36 (by decide) ?_
      refine lv_icmp_ne (tgt := 44) hx hb dX4_slowest_37 (by decide) (fun c25 => ?_) (fun c25 => ?_)
      · have hw := hw.2 c25
        refine lv_aload_n hx hb dX4_slowest_44 rfl (lv_at hl 0 rfl) ?_
        refine va_get (D := D) (ci := 4) (v := .ref (q 2)) (C := RX4) (T := TX4) (N := 11) hx hb hts (h_X4_X4_slowest) hown hK hP 0 rfl rfl 3 (by decide) (z_w hts 1 rfl) (fun _ h9 => h9) rfl dX4_slowest_45 ?_
        refine lv_iload_n hx hb dX4_slowest_48 rfl (lv_at hl 1 rfl) ?_
        have hPc := hP.sub (ws' := ([] : va_W)) [] rfl
        have hDc := hD.sub (ws' := ([] : va_W)) [] (by decide) rfl
        refine z_calli (va_runS (As := [.int x1]) (rest := [.ref (q 2)]) ⟨hx, hb, hml, hown, hts⟩ (c_X4_at l D cs  H.size x1 _ hw) (va_cwS 1 hts gX4_slowest_X4_at rfl rfl rfl (by decide +kernel) ⟨Nat.le_of_ble_eq_true rfl, Nat.le_of_ble_eq_true rfl⟩) (PC_S hPc hDc hKK) rfl rfl hl.1 rfl (lv_room (Nat.le_of_ble_eq_true rfl)) dX4_slowest_49 ⟨Nat.le_of_ble_eq_true rfl, Nat.le_of_ble_eq_true rfl⟩) (fun r26 hw => ?_)
        refine lv_iconst (v := (0 : Int32)) hx hb dX4_slowest_52 (by decide) ?_
        refine lv_iadd hx hb dX4_slowest_53 ?_
        obtain ⟨h27, hw⟩ := hw
        refine va_iald hx hb hK hP 2 0 rfl rfl h27 dX4_slowest_54 ?_
        refine lv_iconst (v := (2 : Int32)) hx hb dX4_slowest_55 (by decide) ?_
        refine lv_icmp_ne (tgt := 64) hx hb dX4_slowest_56 (by decide) (fun c28 => ?_) (fun c28 => ?_)
        · have hw := hw.2 c28
          refine lv_bipush (v := (26 : Int32)) hx hb dX4_slowest_64 (by decide) ?_
          refine lv_istore_n (lv' := [(2, .int (26 : Int32)), (0, .ref (q 0)), (1, .int x1)]) hx hb dX4_slowest_66 rfl hl (by decide) rfl (fun ls hl => ?_)
          refine lv_iconst (v := (-1 : Int32)) hx hb dX4_slowest_67 (by decide) ?_
          refine lv_istore_n (lv' := [(3, .int (-1 : Int32)), (2, .int (26 : Int32)), (0, .ref (q 0)), (1, .int x1)]) hx hb dX4_slowest_68 rfl hl (by decide) rfl (fun ls hl => ?_)
          refine lv_iconst (v := (-1 : Int32)) hx hb dX4_slowest_69 (by decide) ?_
          refine lv_istore (lv' := [(4, .int (-1 : Int32)), (3, .int (-1 : Int32)), (2, .int (26 : Int32)), (0, .ref (q 0)), (1, .int x1)]) hx hb dX4_slowest_70 hl (by decide) rfl (fun ls hl => ?_)
          refine lv_iconst (v := (1 : Int32)) hx hb dX4_slowest_72 (by decide) ?_
          refine lv_istore (lv' := [(5, .int (1 : Int32)), (4, .int (-1 : Int32)), (3, .int (-1 : Int32)), (2, .int (26 : Int32)), (0, .ref (q 0)), (1, .int x1)]) hx hb dX4_slowest_73 hl (by decide) rfl (fun ls hl => ?_)
          obtain ⟨n29, hw⟩ := hw
          exact t_X4_slowest_75 hC q _ _ _ hA n29 _ _ _ _ hw H locs hP hD hS ls (lv_sub hl [4, 5, 3, 2, 1, 0] rfl)
        · have hw := hw.1 c28
          refine lv_bipush (v := (8 : Int32)) hx hb dX4_slowest_59 (by decide) ?_
          refine lv_goto (tgt := 66) hx hb dX4_slowest_61 (by decide) ?_
          refine lv_istore_n (lv' := [(2, .int (8 : Int32)), (0, .ref (q 0)), (1, .int x1)]) hx hb dX4_slowest_66 rfl hl (by decide) rfl (fun ls hl => ?_)
          refine lv_iconst (v := (-1 : Int32)) hx hb dX4_slowest_67 (by decide) ?_
          refine lv_istore_n (lv' := [(3, .int (-1 : Int32)), (2, .int (8 : Int32)), (0, .ref (q 0)), (1, .int x1)]) hx hb dX4_slowest_68 rfl hl (by decide) rfl (fun ls hl => ?_)
          refine lv_iconst (v := (-1 : Int32)) hx hb dX4_slowest_69 (by decide) ?_
          refine lv_istore (lv' := [(4, .int (-1 : Int32)), (3, .int (-1 : Int32)), (2, .int (8 : Int32)), (0, .ref (q 0)), (1, .int x1)]) hx hb dX4_slowest_70 hl (by decide) rfl (fun ls hl => ?_)
          refine lv_iconst (v := (1 : Int32)) hx hb dX4_slowest_72 (by decide) ?_
          refine lv_istore (lv' := [(5, .int (1 : Int32)), (4, .int (-1 : Int32)), (3, .int (-1 : Int32)), (2, .int (8 : Int32)), (0, .ref (q 0)), (1, .int x1)]) hx hb dX4_slowest_73 hl (by decide) rfl (fun ls hl => ?_)
          obtain ⟨n30, hw⟩ := hw
          exact t_X4_slowest_75 hC q _ _ _ hA n30 _ _ _ _ hw H locs hP hD hS ls (lv_sub hl [4, 5, 3, 2, 1, 0] rfl)
      · have hw := hw.1 c25
        refine lv_iconst (v := (2 : Int32)) hx hb dX4_slowest_40 (by decide) ?_
        refine lv_goto (tgt := 66) hx hb dX4_slowest_41 (by decide) ?_
        refine lv_istore_n (lv' := [(2, .int (2 : Int32)), (0, .ref (q 0)), (1, .int x1)]) hx hb dX4_slowest_66 rfl hl (by decide) rfl (fun ls hl => ?_)
        refine lv_iconst (v := (-1 : Int32)) hx hb dX4_slowest_67 (by decide) ?_
        refine lv_istore_n (lv' := [(3, .int (-1 : Int32)), (2, .int (2 : Int32)), (0, .ref (q 0)), (1, .int x1)]) hx hb dX4_slowest_68 rfl hl (by decide) rfl (fun ls hl => ?_)
        refine lv_iconst (v := (-1 : Int32)) hx hb dX4_slowest_69 (by decide) ?_
        refine lv_istore (lv' := [(4, .int (-1 : Int32)), (3, .int (-1 : Int32)), (2, .int (2 : Int32)), (0, .ref (q 0)), (1, .int x1)]) hx hb dX4_slowest_70 hl (by decide) rfl (fun ls hl => ?_)
        refine lv_iconst (v := (1 : Int32)) hx hb dX4_slowest_72 (by decide) ?_
        refine lv_istore (lv' := [(5, .int (1 : Int32)), (4, .int (-1 : Int32)), (3, .int (-1 : Int32)), (2, .int (2 : Int32)), (0, .ref (q 0)), (1, .int x1)]) hx hb dX4_slowest_73 hl (by decide) rfl (fun ls hl => ?_)
        obtain ⟨n31, hw⟩ := hw
        exact t_X4_slowest_75 hC q _ _ _ hA n31 _ _ _ _ hw H locs hP hD hS ls (lv_sub hl [4, 5, 3, 2, 1, 0] rfl)
    · have hw := hw.2 c22
      refine lv_iconst (v := (0 : Int32)) hx hb dX4_slowest_23 (by decide) ?_
      exact W.iret (v := (0 : Int32)) hx hb hr (fun t ht hW => ⟨⟨(0 : Int32), (u21), rfl, hw, by rw [ht]; exact hP, hD⟩, hS.F ht⟩) hS.2.2 dX4_slowest_24 hlocks
set_option maxHeartbeats 4000000 in
set_option maxRecDepth 100000 in
theorem c_X4_slowest (l : Launch) (D : va_G) (cs : Nat → ClassId) (q : Nat → Nat) (sz : Nat) (M : MS) (x1 : Int32) (Q : Int32 → MS → Prop) (hw : wp_X4_slowest M x1 Q) : Met l yX4_slowest wsX4_slowest ({ frames := 3, cells := 0, slots := 0, locals := 70 } : Room) (va_Pc [.ref (q 0), .int x1] (PC D cs (w_Mod cs q M) sz)) (va_Qi (fun r (u : MS) => Q r u) (fun (u : MS) t => va_P D vwCl (w_Mod cs q u) t.heap ∧ va_D (va_A (w_Mod cs q M) sz) (w_Mod cs q u)) (va_A (w_Mod cs q M) sz)) 0 0 (va_A (w_Mod cs q M) sz) := by
  refine Met.ofW (cc := cX4_slowest) (maxL := 7) (ret := (some .int)) (by decide) rfl ?_
  intro p e s m args below meth c s₁ B hml hv
  obtain ⟨rfl, hsz, hP, hKK, hD0⟩ := hv
  have hC : MAt p s m _ meth c RX4 cX4_slowest 7 (some .int) wsX4_slowest D cs := ⟨B.exec, B.bytes, B.returns, hml, findClass_of_methodNamed B.named, atoms_spec (ws := wsX4_slowest) B.pre, B.notSynchronized, hKK⟩
  have hl := lv_entry ([.ref (q 0), .int x1]) (n := 7) (Nat.le_of_ble_eq_true rfl)
  rw [lg_entry_eq]
  generalize (lg_sl ([.ref (q 0), .int x1]) ++ List.replicate (7 - (lg_sl ([.ref (q 0), .int x1])).length) Slot.unset).toArray = ls at hl ⊢
  subst hsz
  have hD := hD0.self (sz := s.heap.size)
  have hA : ∀ z : Nat, s.heap.size ≤ z → va_A (w_Mod cs q M) s.heap.size z := fun z h => Or.inr h
  exact t_X4_slowest hC q M x1 Q hA hw s.heap [] hP hD va_S.rf ls hl
theorem h_X4_X4_doubles : ∀ w ∈ u_ws RX4 TX4 11, w ∈ wsX4_doubles := fun _ h => List.mem_cons_of_mem _ (List.mem_append_right _ h)
set_option maxHeartbeats 4000000 in
set_option maxRecDepth 100000 in
theorem t_X4_doubles_56 {p : Program} {l : Launch} {e : Env} {s : State} {m : MethodId} {args : Array Value} {below : List Frame} {meth : Method} {c : Code} {D : va_G} {cs : Nat → ClassId} {A : Nat → Prop} (hC : MAt p s m args meth c RX4 cX4_doubles 4 (some .int) wsX4_doubles D cs) (q : Nat → Nat) (x1 : Int32) (x2 : Int32) (Q : Int32 → MS → Prop) (hA : ∀ q : Nat, s.heap.size ≤ q → A q) : ∀ (n : Nat) (M : MS) (x3 : Int32), wl_X4_doubles_56 x1 x2 Q n M x3 → ∀ (H : Heap) (locs : List Loc), va_P D vwCl (w_Mod cs q M) H → va_D A (w_Mod cs q M) → va_S A s.heap H locs → ∀ ls : Array Slot, lv_has ls 4 [(0, .ref (q 0)), (1, .int x1), (2, .int x2), (3, .int x3)] → W p l e ({ frames := 3, cells := 0, slots := 0, locals := 67 } : Room) s m args below meth c H locs 0 0 (MQ below (va_Qi (fun r (u : MS) => Q r u) (fun (u : MS) t => va_P D vwCl (w_Mod cs q u) t.heap ∧ va_D A (w_Mod cs q u)) A) args s 0 0 A) (F0 m 56 ls []) := by
  obtain ⟨hx, hb, hr, hml, hown, hts, hlocks, hKK⟩ := id hC
  have hK := hKK.1
  intro n
  induction n with
  | zero =>
    intro M x3 hw
    exact False.elim hw
  | succ n ih =>
    intro M x3 hw H locs hP hD hS ls hl
    refine lv_iload_n hx hb dX4_doubles_56 rfl (lv_at hl 3 rfl) ?_
    refine lv_iload_n hx hb dX4_doubles_57 rfl (lv_at hl 2 rfl) ?_
    refine lv_icmp_ge (tgt := 84) hx hb dX4_doubles_58 (by decide) (fun c8 => ?_) (fun c8 => ?_)
    · have hw := hw.1 c8
      refine lv_aload_n hx hb dX4_doubles_84 rfl (lv_at hl 0 rfl) ?_
      refine va_get (D := D) (ci := 4) (v := .ref (q 3)) (C := RX4) (T := TX4) (N := 11) hx hb hts (h_X4_X4_doubles) hown hK hP 0 rfl rfl 4 (by decide) (z_w hts 3 rfl) (fun _ h9 => h9) rfl dX4_doubles_85 ?_
      have hPc := hP.sub (ws' := w_Row cs (q 3) 336 (M 3)) [3] rfl
      have hDc := hD.sub (ws' := w_Row cs (q 3) 336 (M 3)) [3] (by decide) rfl
      refine z_calli (va_runS (As := [.ref (q 3)]) (rest := []) ⟨hx, hb, hml, hown, hts⟩ (c_X4_doublesOn l D cs (q 3) H.size (M 3) _ hw) (va_cwS 1 hts gX4_doubles_X4_doublesOn rfl rfl rfl (by decide +kernel) ⟨Nat.le_of_ble_eq_true rfl, Nat.le_of_ble_eq_true rfl⟩) (PC_S hPc hDc hKK) rfl rfl hl.1 rfl (lv_room (Nat.le_of_ble_eq_true rfl)) dX4_doubles_88 ⟨Nat.le_of_ble_eq_true rfl, Nat.le_of_ble_eq_true rfl⟩) (fun r9 hw => ?_)
      exact W.iret (v := r9) hx hb hr (fun t ht hW => ⟨⟨r9, (M), rfl, hw, by rw [ht]; exact hP, hD⟩, hS.F ht⟩) hS.2.2 dX4_doubles_91 hlocks
    · have hw := hw.2 c8
      refine lv_aload_n hx hb dX4_doubles_61 rfl (lv_at hl 0 rfl) ?_
      refine va_get (D := D) (ci := 4) (v := .ref (q 3)) (C := RX4) (T := TX4) (N := 11) hx hb hts (h_X4_X4_doubles) hown hK hP 0 rfl rfl 4 (by decide) (z_w hts 3 rfl) (fun _ h9 => h9) rfl dX4_doubles_62 ?_
      refine lv_iload_n hx hb dX4_doubles_65 rfl (lv_at hl 1 rfl) ?_
      have hPc := hP.sub (ws' := w_Row cs (q 3) 336 (M 3)) [3] rfl
      have hDc := hD.sub (ws' := w_Row cs (q 3) 336 (M 3)) [3] (by decide) rfl
      have hFc := va_free (wc := w_Row cs (q 3) 336 (M 3)) hD hS hA [3] rfl
      refine va_calli (va_runS (As := [.ref (q 3), .int x1]) (rest := []) ⟨hx, hb, hml, hown, hts⟩ (c_X4_drawOn l D cs (q 3) H.size (M 3) x1 _ hw) (va_cwS 2 hts gX4_doubles_X4_drawOn rfl rfl rfl (by decide +kernel) ⟨Nat.le_of_ble_eq_true rfl, Nat.le_of_ble_eq_true rfl⟩) (PC_S hPc hDc hKK) rfl rfl hl.1 rfl (lv_room (Nat.le_of_ble_eq_true rfl)) dX4_doubles_66 ⟨Nat.le_of_ble_eq_true rfl, Nat.le_of_ble_eq_true rfl⟩) hS (fun q _ h => hFc q h) hFc (fun r10 u10 t H locs ht hvm hw hB hz1 hk1 hS => ?_)
      obtain ⟨hP1, hD1⟩ := hB
      rw [ht] at hP1
      obtain ⟨hP, hD⟩ := va_join (wr := ([0, 1, 2, 4, 5, 6, 7, 8].filterMap (fun i => (w_Mod cs q M)[i]?))) (w1 := w_Row cs (q 3) 336 u10) hP hD [3] [0, 1, 2, 4, 5, 6, 7, 8] rfl rfl (by decide) (by decide) hk1 hFc hP1 hD1
      have hP : va_P D vwCl (w_Mod cs q (zr2 M 3 u10)) H := hP.sub (ws' := w_Mod cs q (zr2 M 3 u10)) [0, 1, 2, 8, 3, 4, 5, 6, 7] rfl
      have hD : va_D A (w_Mod cs q (zr2 M 3 u10)) := hD.sub (ws' := w_Mod cs q (zr2 M 3 u10)) [0, 1, 2, 8, 3, 4, 5, 6, 7] (by decide) rfl
      refine lv_pop hx hb dX4_doubles_69 rfl ?_
      refine lv_aload_n hx hb dX4_doubles_70 rfl (lv_at hl 0 rfl) ?_
      refine lv_aload_n hx hb dX4_doubles_71 rfl (lv_at hl 0 rfl) ?_
      refine va_get (D := D) (ci := 4) (v := .ref (q 3)) (C := RX4) (T := TX4) (N := 11) hx hb hts (h_X4_X4_doubles) hown hK hP 0 rfl rfl 4 (by decide) (z_w hts 3 rfl) (fun _ h9 => h9) rfl dX4_doubles_72 ?_
      have hFc := va_free (wc := w_Mod cs q (zr2 M 3 u10)) hD hS hA [0, 1, 2, 3, 4, 5, 6, 7, 8] rfl
      refine va_callv (va_runV (As := [.ref (q 3)]) (rest := []) ⟨hx, hb, hml, hown, hts⟩ (c_X4_beat_t l D cs q H.size (zr2 M 3 u10) _ hw) (cwV 1 hts gX4_doubles_X4_beat rfl rfl rfl (by decide +kernel) ⟨Nat.le_of_ble_eq_true rfl, Nat.le_of_ble_eq_true rfl⟩) (PC_V hP hD hKK 0 4 rfl rfl) rfl rfl hl.1 rfl (lv_room (Nat.le_of_ble_eq_true rfl)) dX4_doubles_75 ⟨Nat.le_of_ble_eq_true rfl, Nat.le_of_ble_eq_true rfl⟩) hS (fun q _ h => hFc q h) hFc (fun u11 t H locs ht hvm hw hB hz1 hk1 hS => ?_)
      obtain ⟨hP1, hD1⟩ := hB
      rw [ht] at hP1
      have hD : va_D A (w_Mod cs q u11) := hD1.weaken (fun k q _ h => hFc q.1 h)
      have hP : va_P D vwCl (w_Mod cs q u11) H := hP1
      refine lv_iinc (v := x3 + 1) (lv' := [(3, .int (x3 + 1)), (0, .ref (q 0)), (1, .int x1), (2, .int x2)]) hx hb dX4_doubles_78 hl (k := 3) rfl rfl (by decide) rfl (fun ls hl => ?_)
      refine lv_goto (tgt := 56) hx hb dX4_doubles_81 (by decide) ?_
      exact ih _ _ hw _ _ hP hD hS ls (lv_sub hl [1, 2, 3, 0] rfl)
set_option maxHeartbeats 4000000 in
set_option maxRecDepth 100000 in
theorem t_X4_doubles {p : Program} {l : Launch} {e : Env} {s : State} {m : MethodId} {args : Array Value} {below : List Frame} {meth : Method} {c : Code} {D : va_G} {cs : Nat → ClassId} {A : Nat → Prop} (hC : MAt p s m args meth c RX4 cX4_doubles 4 (some .int) wsX4_doubles D cs) (q : Nat → Nat) (M : MS) (x1 : Int32) (x2 : Int32) (Q : Int32 → MS → Prop) (hA : ∀ q : Nat, s.heap.size ≤ q → A q) (hw : wp_X4_doubles M x1 x2 Q) (H : Heap) (locs : List Loc) (hP : va_P D vwCl (w_Mod cs q M) H) (hD : va_D A (w_Mod cs q M)) (hS : va_S A s.heap H locs) (ls : Array Slot) (hl : lv_has ls 4 [(0, .ref (q 0)), (1, .int x1), (2, .int x2)]) : W p l e ({ frames := 3, cells := 0, slots := 0, locals := 67 } : Room) s m args below meth c H locs 0 0 (MQ below (va_Qi (fun r (u : MS) => Q r u) (fun (u : MS) t => va_P D vwCl (w_Mod cs q u) t.heap ∧ va_D A (w_Mod cs q u)) A) args s 0 0 A) (F0 m 0 ls []) := by
  obtain ⟨hx, hb, hr, hml, hown, hts, hlocks, hKK⟩ := id hC
  have hK := hKK.1
  refine lv_aload_n hx hb dX4_doubles_0 rfl (lv_at hl 0 rfl) ?_
  refine lv_aload_n hx hb dX4_doubles_1 rfl (lv_at hl 0 rfl) ?_
  refine va_get (D := D) (ci := 4) (v := .ref (q 2)) (C := RX4) (T := TX4) (N := 11) hx hb hts (h_X4_X4_doubles) hown hK hP 0 rfl rfl 3 (by decide) (z_w hts 1 rfl) (fun _ h9 => h9) rfl dX4_doubles_2 ?_
  refine lv_iload_n hx hb dX4_doubles_5 rfl (lv_at hl 1 rfl) ?_
  have hPc := hP.sub (ws' := w_Row cs (q 2) 336 (M 2)) [2] rfl
  have hDc := hD.sub (ws' := w_Row cs (q 2) 336 (M 2)) [2] (by decide) rfl
  refine z_calli (va_runS (As := [.ref (q 2), .int x1]) (rest := [.ref (q 0)]) ⟨hx, hb, hml, hown, hts⟩ (c_X4_isCounter l D cs (q 2) H.size (M 2) x1 _ hw) (va_cwS 2 hts gX4_doubles_X4_isCounter rfl rfl rfl (by decide +kernel) ⟨Nat.le_of_ble_eq_true rfl, Nat.le_of_ble_eq_true rfl⟩) (PC_S hPc hDc hKK) rfl rfl hl.1 rfl (lv_room (Nat.le_of_ble_eq_true rfl)) dX4_doubles_6 ⟨Nat.le_of_ble_eq_true rfl, Nat.le_of_ble_eq_true rfl⟩) (fun r1 hw => ?_)
  obtain ⟨b1, hw⟩ := hw
  refine lv_if_ne (tgt := 16) hx hb dX4_doubles_9 (by decide) (fun c2 => ?_) (fun c2 => ?_)
  · have hw := hw.2 c2
    refine lv_iload_n hx hb dX4_doubles_16 rfl (lv_at hl 2 rfl) ?_
    refine lv_i2l (v := x2.toInt64) hx hb dX4_doubles_17 rfl ?_
    refine lv_lconst (v := (1 : Int64)) hx hb dX4_doubles_18 (by decide) ?_
    refine lv_ldc2 (v := (9 : Int64)) hx hb hown (z_w hts 2 (w := .constantLong RX4 155 (9)) rfl) dX4_doubles_19 ?_
    have hPc := hP.sub (ws' := ([] : va_W)) [] rfl
    have hDc := hD.sub (ws' := ([] : va_W)) [] (by decide) rfl
    refine z_calli (va_runS (As := [.long x2.toInt64, .long (1 : Int64), .long (9 : Int64)]) (rest := [.ref (q 0)]) ⟨hx, hb, hml, hown, hts⟩ (c_X4_in l D cs  H.size x2.toInt64 (1 : Int64) (9 : Int64) _ hw) (va_cwS 3 hts gX4_doubles_X4_in rfl rfl rfl (by decide +kernel) ⟨Nat.le_of_ble_eq_true rfl, Nat.le_of_ble_eq_true rfl⟩) (PC_S hPc hDc hKK) rfl rfl hl.1 rfl (lv_room (Nat.le_of_ble_eq_true rfl)) dX4_doubles_22 ⟨Nat.le_of_ble_eq_true rfl, Nat.le_of_ble_eq_true rfl⟩) (fun r3 hw => ?_)
    obtain ⟨b3, hw⟩ := hw
    refine lv_if_eq (tgt := 32) hx hb dX4_doubles_25 (by decide) (fun c4 => ?_) (fun c4 => ?_)
    · have hw := hw.1 c4
      refine lv_iconst (v := (2 : Int32)) hx hb dX4_doubles_32 (by decide) ?_
      have hFc := va_free (wc := w_Mod cs q M) hD hS hA [0, 1, 2, 3, 4, 5, 6, 7, 8] rfl
      refine va_calli (va_runV (As := [.int (2 : Int32)]) (rest := []) ⟨hx, hb, hml, hown, hts⟩ (c_X4_refused l D cs q H.size M (2 : Int32) _ hw) (cwV 1 hts gX4_doubles_X4_refused rfl rfl rfl (by decide +kernel) ⟨Nat.le_of_ble_eq_true rfl, Nat.le_of_ble_eq_true rfl⟩) (PC_V hP hD hKK 0 4 rfl rfl) rfl rfl hl.1 rfl (lv_room (Nat.le_of_ble_eq_true rfl)) dX4_doubles_33 ⟨Nat.le_of_ble_eq_true rfl, Nat.le_of_ble_eq_true rfl⟩) hS (fun q _ h => hFc q h) hFc (fun r5 u5 t H locs ht hvm hw hB hz1 hk1 hS => ?_)
      obtain ⟨hP1, hD1⟩ := hB
      rw [ht] at hP1
      obtain ⟨b5, hw⟩ := hw
      have hD : va_D A (w_Mod cs q u5) := hD1.weaken (fun k q _ h => hFc q.1 h)
      have hP : va_P D vwCl (w_Mod cs q u5) H := hP1
      refine lv_if_eq (tgt := 41) hx hb dX4_doubles_36 (by decide) (fun c6 => ?_) (fun c6 => ?_)
      · have hw := hw.1 c6
        refine lv_aload_n hx hb dX4_doubles_41 rfl (lv_at hl 0 rfl) ?_
        refine va_get (D := D) (ci := 4) (v := .ref (q 2)) (C := RX4) (T := TX4) (N := 11) hx hb hts (h_X4_X4_doubles) hown hK hP 0 rfl rfl 3 (by decide) (z_w hts 1 rfl) (fun _ h9 => h9) rfl dX4_doubles_42 ?_
        refine lv_iconst (v := (0 : Int32)) hx hb dX4_doubles_45 (by decide) ?_
        refine lv_aload_n hx hb dX4_doubles_46 rfl (lv_at hl 0 rfl) ?_
        refine va_get (D := D) (ci := 4) (v := .ref (q 3)) (C := RX4) (T := TX4) (N := 11) hx hb hts (h_X4_X4_doubles) hown hK hP 0 rfl rfl 4 (by decide) (z_w hts 3 rfl) (fun _ h9 => h9) rfl dX4_doubles_47 ?_
        refine lv_iconst (v := (0 : Int32)) hx hb dX4_doubles_50 (by decide) ?_
        have hPc := hP.sub (ws' := w_Row cs (q 2) 336 (u5 2) ++ w_Row cs (q 3) 336 (u5 3)) [2, 3] rfl
        have hDc := hD.sub (ws' := w_Row cs (q 2) 336 (u5 2) ++ w_Row cs (q 3) 336 (u5 3)) [2, 3] (by decide) rfl
        have hFc := va_free (wc := w_Row cs (q 2) 336 (u5 2) ++ w_Row cs (q 3) 336 (u5 3)) hD hS hA [2, 3] rfl
        refine va_callv (va_runS (As := [.ref (q 2), .int (0 : Int32), .ref (q 3), .int (0 : Int32)]) (rest := []) ⟨hx, hb, hml, hown, hts⟩ (c_X4_copyLine l D cs (q 2) (q 3) H.size 336 336 (u5 2) (u5 3) (0 : Int32) (0 : Int32) _ hw) (va_cwS 4 hts gX4_doubles_X4_copyLine rfl rfl rfl (by decide +kernel) ⟨Nat.le_of_ble_eq_true rfl, Nat.le_of_ble_eq_true rfl⟩) (PC_S hPc hDc hKK) rfl rfl hl.1 rfl (lv_room (Nat.le_of_ble_eq_true rfl)) dX4_doubles_51 ⟨Nat.le_of_ble_eq_true rfl, Nat.le_of_ble_eq_true rfl⟩) hS (fun q _ h => hFc q h) hFc (fun u7 t H locs ht hvm hw hB hz1 hk1 hS => ?_)
        obtain ⟨hP1, hD1⟩ := hB
        rw [ht] at hP1
        obtain ⟨hP, hD⟩ := va_join (wr := ([0, 1, 4, 5, 6, 7, 8].filterMap (fun i => (w_Mod cs q u5)[i]?))) (w1 := w_Row cs (q 2) 336 (u5 2) ++ w_Row cs (q 3) 336 u7) hP hD [2, 3] [0, 1, 4, 5, 6, 7, 8] rfl rfl (by decide) (by decide) hk1 hFc hP1 hD1
        have hP : va_P D vwCl (w_Mod cs q (zr2 u5 3 u7)) H := hP.sub (ws' := w_Mod cs q (zr2 u5 3 u7)) [0, 1, 7, 8, 2, 3, 4, 5, 6] rfl
        have hD : va_D A (w_Mod cs q (zr2 u5 3 u7)) := hD.sub (ws' := w_Mod cs q (zr2 u5 3 u7)) [0, 1, 7, 8, 2, 3, 4, 5, 6] (by decide) rfl
        refine lv_iconst (v := (0 : Int32)) hx hb dX4_doubles_54 (by decide) ?_
        refine lv_istore_n (lv' := [(3, .int (0 : Int32)), (0, .ref (q 0)), (1, .int x1), (2, .int x2)]) hx hb dX4_doubles_55 rfl hl (by decide) rfl (fun ls hl => ?_)
        obtain ⟨n12, hw⟩ := hw
        exact t_X4_doubles_56 hC q _ _ _ hA n12 _ _ hw H locs hP hD hS ls (lv_sub hl [1, 2, 3, 0] rfl)
      · have hw := hw.2 c6
        refine lv_iconst (v := (0 : Int32)) hx hb dX4_doubles_39 (by decide) ?_
        exact W.iret (v := (0 : Int32)) hx hb hr (fun t ht hW => ⟨⟨(0 : Int32), (u5), rfl, hw, by rw [ht]; exact hP, hD⟩, hS.F ht⟩) hS.2.2 dX4_doubles_40 hlocks
    · have hw := hw.2 c4
      refine lv_iconst (v := (0 : Int32)) hx hb dX4_doubles_28 (by decide) ?_
      refine lv_goto (tgt := 33) hx hb dX4_doubles_29 (by decide) ?_
      have hFc := va_free (wc := w_Mod cs q M) hD hS hA [0, 1, 2, 3, 4, 5, 6, 7, 8] rfl
      refine va_calli (va_runV (As := [.int (0 : Int32)]) (rest := []) ⟨hx, hb, hml, hown, hts⟩ (c_X4_refused l D cs q H.size M (0 : Int32) _ hw) (cwV 1 hts gX4_doubles_X4_refused rfl rfl rfl (by decide +kernel) ⟨Nat.le_of_ble_eq_true rfl, Nat.le_of_ble_eq_true rfl⟩) (PC_V hP hD hKK 0 4 rfl rfl) rfl rfl hl.1 rfl (lv_room (Nat.le_of_ble_eq_true rfl)) dX4_doubles_33 ⟨Nat.le_of_ble_eq_true rfl, Nat.le_of_ble_eq_true rfl⟩) hS (fun q _ h => hFc q h) hFc (fun r13 u13 t H locs ht hvm hw hB hz1 hk1 hS => ?_)
      obtain ⟨hP1, hD1⟩ := hB
      rw [ht] at hP1
      obtain ⟨b13, hw⟩ := hw
      have hD : va_D A (w_Mod cs q u13) := hD1.weaken (fun k q _ h => hFc q.1 h)
      have hP : va_P D vwCl (w_Mod cs q u13) H := hP1
      refine lv_if_eq (tgt := 41) hx hb dX4_doubles_36 (by decide) (fun c14 => ?_) (fun c14 => ?_)
      · have hw := hw.1 c14
        refine lv_aload_n hx hb dX4_doubles_41 rfl (lv_at hl 0 rfl) ?_
        refine va_get (D := D) (ci := 4) (v := .ref (q 2)) (C := RX4) (T := TX4) (N := 11) hx hb hts (h_X4_X4_doubles) hown hK hP 0 rfl rfl 3 (by decide) (z_w hts 1 rfl) (fun _ h9 => h9) rfl dX4_doubles_42 ?_
        refine lv_iconst (v := (0 : Int32)) hx hb dX4_doubles_45 (by decide) ?_
        refine lv_aload_n hx hb dX4_doubles_46 rfl (lv_at hl 0 rfl) ?_
        refine va_get (D := D) (ci := 4) (v := .ref (q 3)) (C := RX4) (T := TX4) (N := 11) hx hb hts (h_X4_X4_doubles) hown hK hP 0 rfl rfl 4 (by decide) (z_w hts 3 rfl) (fun _ h9 => h9) rfl dX4_doubles_47 ?_
        refine lv_iconst (v := (0 : Int32)) hx hb dX4_doubles_50 (by decide) ?_
        have hPc := hP.sub (ws' := w_Row cs (q 2) 336 (u13 2) ++ w_Row cs (q 3) 336 (u13 3)) [2, 3] rfl
        have hDc := hD.sub (ws' := w_Row cs (q 2) 336 (u13 2) ++ w_Row cs (q 3) 336 (u13 3)) [2, 3] (by decide) rfl
        have hFc := va_free (wc := w_Row cs (q 2) 336 (u13 2) ++ w_Row cs (q 3) 336 (u13 3)) hD hS hA [2, 3] rfl
        refine va_callv (va_runS (As := [.ref (q 2), .int (0 : Int32), .ref (q 3), .int (0 : Int32)]) (rest := []) ⟨hx, hb, hml, hown, hts⟩ (c_X4_copyLine l D cs (q 2) (q 3) H.size 336 336 (u13 2) (u13 3) (0 : Int32) (0 : Int32) _ hw) (va_cwS 4 hts gX4_doubles_X4_copyLine rfl rfl rfl (by decide +kernel) ⟨Nat.le_of_ble_eq_true rfl, Nat.le_of_ble_eq_true rfl⟩) (PC_S hPc hDc hKK) rfl rfl hl.1 rfl (lv_room (Nat.le_of_ble_eq_true rfl)) dX4_doubles_51 ⟨Nat.le_of_ble_eq_true rfl, Nat.le_of_ble_eq_true rfl⟩) hS (fun q _ h => hFc q h) hFc (fun u15 t H locs ht hvm hw hB hz1 hk1 hS => ?_)
        obtain ⟨hP1, hD1⟩ := hB
        rw [ht] at hP1
        obtain ⟨hP, hD⟩ := va_join (wr := ([0, 1, 4, 5, 6, 7, 8].filterMap (fun i => (w_Mod cs q u13)[i]?))) (w1 := w_Row cs (q 2) 336 (u13 2) ++ w_Row cs (q 3) 336 u15) hP hD [2, 3] [0, 1, 4, 5, 6, 7, 8] rfl rfl (by decide) (by decide) hk1 hFc hP1 hD1
        have hP : va_P D vwCl (w_Mod cs q (zr2 u13 3 u15)) H := hP.sub (ws' := w_Mod cs q (zr2 u13 3 u15)) [0, 1, 7, 8, 2, 3, 4, 5, 6] rfl
        have hD : va_D A (w_Mod cs q (zr2 u13 3 u15)) := hD.sub (ws' := w_Mod cs q (zr2 u13 3 u15)) [0, 1, 7, 8, 2, 3, 4, 5, 6] (by decide) rfl
        refine lv_iconst (v := (0 : Int32)) hx hb dX4_doubles_54 (by decide) ?_
        refine lv_istore_n (lv' := [(3, .int (0 : Int32)), (0, .ref (q 0)), (1, .int x1), (2, .int x2)]) hx hb dX4_doubles_55 rfl hl (by decide) rfl (fun ls hl => ?_)
        obtain ⟨n16, hw⟩ := hw
        exact t_X4_doubles_56 hC q _ _ _ hA n16 _ _ hw H locs hP hD hS ls (lv_sub hl [1, 2, 3, 0] rfl)
      · have hw := hw.2 c14
        refine lv_iconst (v := (0 : Int32)) hx hb dX4_doubles_39 (by decide) ?_
        exact W.iret (v := (0 : Int32)) hx hb hr (fun t ht hW => ⟨⟨(0 : Int32), (u13), rfl, hw, by rw [ht]; exact hP, hD⟩, hS.F ht⟩) hS.2.2 dX4_doubles_40 hlocks
  · have hw := hw.1 c2
    refine lv_iconst (v := (1 : Int32)) hx hb dX4_doubles_12 (by decide) ?_
    refine lv_goto (tgt := 33) hx hb dX4_doubles_13 (by decide) ?_
    have hFc := va_free (wc := w_Mod cs q M) hD hS hA [0, 1, 2, 3, 4, 5, 6, 7, 8] rfl
    refine va_calli (va_runV (As := [.int (1 : Int32)]) (rest := []) ⟨hx, hb, hml, hown, hts⟩ (c_X4_refused l D cs q H.size M (1 : Int32) _ hw) (cwV 1 hts gX4_doubles_X4_refused rfl rfl rfl (by decide +kernel) ⟨Nat.le_of_ble_eq_true rfl, Nat.le_of_ble_eq_true rfl⟩) (PC_V hP hD hKK 0 4 rfl rfl) rfl rfl hl.1 rfl (lv_room (Nat.le_of_ble_eq_true rfl)) dX4_doubles_33 ⟨Nat.le_of_ble_eq_true rfl, Nat.le_of_ble_eq_true rfl⟩) hS (fun q _ h => hFc q h) hFc (fun r17 u17 t H locs ht hvm hw hB hz1 hk1 hS => ?_)
    obtain ⟨hP1, hD1⟩ := hB
    rw [ht] at hP1
    obtain ⟨b17, hw⟩ := hw
    have hD : va_D A (w_Mod cs q u17) := hD1.weaken (fun k q _ h => hFc q.1 h)
    have hP : va_P D vwCl (w_Mod cs q u17) H := hP1
    refine lv_if_eq (tgt := 41) hx hb dX4_doubles_36 (by decide) (fun c18 => ?_) (fun c18 => ?_)
    · have hw := hw.1 c18
      refine lv_aload_n hx hb dX4_doubles_41 rfl (lv_at hl 0 rfl) ?_
      refine va_get (D := D) (ci := 4) (v := .ref (q 2)) (C := RX4) (T := TX4) (N := 11) hx hb hts (h_X4_X4_doubles) hown hK hP 0 rfl rfl 3 (by decide) (z_w hts 1 rfl) (fun _ h9 => h9) rfl dX4_doubles_42 ?_
      refine lv_iconst (v := (0 : Int32)) hx hb dX4_doubles_45 (by decide) ?_
      refine lv_aload_n hx hb dX4_doubles_46 rfl (lv_at hl 0 rfl) ?_
      refine va_get (D := D) (ci := 4) (v := .ref (q 3)) (C := RX4) (T := TX4) (N := 11) hx hb hts (h_X4_X4_doubles) hown hK hP 0 rfl rfl 4 (by decide) (z_w hts 3 rfl) (fun _ h9 => h9) rfl dX4_doubles_47 ?_
      refine lv_iconst (v := (0 : Int32)) hx hb dX4_doubles_50 (by decide) ?_
      have hPc := hP.sub (ws' := w_Row cs (q 2) 336 (u17 2) ++ w_Row cs (q 3) 336 (u17 3)) [2, 3] rfl
      have hDc := hD.sub (ws' := w_Row cs (q 2) 336 (u17 2) ++ w_Row cs (q 3) 336 (u17 3)) [2, 3] (by decide) rfl
      have hFc := va_free (wc := w_Row cs (q 2) 336 (u17 2) ++ w_Row cs (q 3) 336 (u17 3)) hD hS hA [2, 3] rfl
      refine va_callv (va_runS (As := [.ref (q 2), .int (0 : Int32), .ref (q 3), .int (0 : Int32)]) (rest := []) ⟨hx, hb, hml, hown, hts⟩ (c_X4_copyLine l D cs (q 2) (q 3) H.size 336 336 (u17 2) (u17 3) (0 : Int32) (0 : Int32) _ hw) (va_cwS 4 hts gX4_doubles_X4_copyLine rfl rfl rfl (by decide +kernel) ⟨Nat.le_of_ble_eq_true rfl, Nat.le_of_ble_eq_true rfl⟩) (PC_S hPc hDc hKK) rfl rfl hl.1 rfl (lv_room (Nat.le_of_ble_eq_true rfl)) dX4_doubles_51 ⟨Nat.le_of_ble_eq_true rfl, Nat.le_of_ble_eq_true rfl⟩) hS (fun q _ h => hFc q h) hFc (fun u19 t H locs ht hvm hw hB hz1 hk1 hS => ?_)
      obtain ⟨hP1, hD1⟩ := hB
      rw [ht] at hP1
      obtain ⟨hP, hD⟩ := va_join (wr := ([0, 1, 4, 5, 6, 7, 8].filterMap (fun i => (w_Mod cs q u17)[i]?))) (w1 := w_Row cs (q 2) 336 (u17 2) ++ w_Row cs (q 3) 336 u19) hP hD [2, 3] [0, 1, 4, 5, 6, 7, 8] rfl rfl (by decide) (by decide) hk1 hFc hP1 hD1
      have hP : va_P D vwCl (w_Mod cs q (zr2 u17 3 u19)) H := hP.sub (ws' := w_Mod cs q (zr2 u17 3 u19)) [0, 1, 7, 8, 2, 3, 4, 5, 6] rfl
      have hD : va_D A (w_Mod cs q (zr2 u17 3 u19)) := hD.sub (ws' := w_Mod cs q (zr2 u17 3 u19)) [0, 1, 7, 8, 2, 3, 4, 5, 6] (by decide) rfl
      refine lv_iconst (v := (0 : Int32)) hx hb dX4_doubles_54 (by decide) ?_
      refine lv_istore_n (lv' := [(3, .int (0 : Int32)), (0, .ref (q 0)), (1, .int x1), (2, .int x2)]) hx hb dX4_doubles_55 rfl hl (by decide) rfl (fun ls hl => ?_)
      obtain ⟨n20, hw⟩ := hw
      exact t_X4_doubles_56 hC q _ _ _ hA n20 _ _ hw H locs hP hD hS ls (lv_sub hl [1, 2, 3, 0] rfl)
    · have hw := hw.2 c18
      refine lv_iconst (v := (0 : Int32)) hx hb dX4_doubles_39 (by decide) ?_
      exact W.iret (v := (0 : Int32)) hx hb hr (fun t ht hW => ⟨⟨(0 : Int32), (u17), rfl, hw, by rw [ht]; exact hP, hD⟩, hS.F ht⟩) hS.2.2 dX4_doubles_40 hlocks
set_option maxHeartbeats 4000000 in
set_option maxRecDepth 100000 in
theorem c_X4_doubles (l : Launch) (D : va_G) (cs : Nat → ClassId) (q : Nat → Nat) (sz : Nat) (M : MS) (x1 : Int32) (x2 : Int32) (Q : Int32 → MS → Prop) (hw : wp_X4_doubles M x1 x2 Q) : Met l yX4_doubles wsX4_doubles ({ frames := 3, cells := 0, slots := 0, locals := 67 } : Room) (va_Pc [.ref (q 0), .int x1, .int x2] (PC D cs (w_Mod cs q M) sz)) (va_Qi (fun r (u : MS) => Q r u) (fun (u : MS) t => va_P D vwCl (w_Mod cs q u) t.heap ∧ va_D (va_A (w_Mod cs q M) sz) (w_Mod cs q u)) (va_A (w_Mod cs q M) sz)) 0 0 (va_A (w_Mod cs q M) sz) := by
  refine Met.ofW (cc := cX4_doubles) (maxL := 4) (ret := (some .int)) (by decide) rfl ?_
  intro p e s m args below meth c s₁ B hml hv
  obtain ⟨rfl, hsz, hP, hKK, hD0⟩ := hv
  have hC : MAt p s m _ meth c RX4 cX4_doubles 4 (some .int) wsX4_doubles D cs := ⟨B.exec, B.bytes, B.returns, hml, findClass_of_methodNamed B.named, atoms_spec (ws := wsX4_doubles) B.pre, B.notSynchronized, hKK⟩
  have hl := lv_entry ([.ref (q 0), .int x1, .int x2]) (n := 4) (Nat.le_of_ble_eq_true rfl)
  rw [lg_entry_eq]
  generalize (lg_sl ([.ref (q 0), .int x1, .int x2]) ++ List.replicate (4 - (lg_sl ([.ref (q 0), .int x1, .int x2])).length) Slot.unset).toArray = ls at hl ⊢
  subst hsz
  have hD := hD0.self (sz := s.heap.size)
  have hA : ∀ z : Nat, s.heap.size ≤ z → va_A (w_Mod cs q M) s.heap.size z := fun z h => Or.inr h
  exact t_X4_doubles hC q M x1 x2 Q hA hw s.heap [] hP hD va_S.rf ls hl
theorem h_X4_X4_command : ∀ w ∈ u_ws RX4 TX4 11, w ∈ wsX4_command := fun _ h => List.mem_cons_of_mem _ (List.mem_append_right _ h)
set_option maxHeartbeats 4000000 in
set_option maxRecDepth 100000 in
theorem t_X4_command {p : Program} {l : Launch} {e : Env} {s : State} {m : MethodId} {args : Array Value} {below : List Frame} {meth : Method} {c : Code} {D : va_G} {cs : Nat → ClassId} {A : Nat → Prop} (hC : MAt p s m args meth c RX4 cX4_command 5 (some .boolean) wsX4_command D cs) (q : Nat → Nat) (M : MS) (x1 : Int32) (x2 : Int32) (x3 : Int32) (Q : Int32 → MS → Prop) (hA : ∀ q : Nat, s.heap.size ≤ q → A q) (hw : wp_X4_command M x1 x2 x3 Q) (H : Heap) (locs : List Loc) (hP : va_P D vwCl (w_Mod cs q M) H) (hD : va_D A (w_Mod cs q M)) (hS : va_S A s.heap H locs) (ls : Array Slot) (hl : lv_has ls 5 [(0, .ref (q 0)), (1, .int x1), (2, .int x2), (3, .int x3)]) : W p l e ({ frames := 4, cells := 0, slots := 0, locals := 88 } : Room) s m args below meth c H locs 0 0 (MQ below (va_Qi (fun r (u : MS) => (r = 0 ∨ r = 1) ∧ Q r u) (fun (u : MS) t => va_P D vwCl (w_Mod cs q u) t.heap ∧ va_D A (w_Mod cs q u)) A) args s 0 0 A) (F0 m 0 ls []) := by
  obtain ⟨hx, hb, hr, hml, hown, hts, hlocks, hKK⟩ := id hC
  have hK := hKK.1
  refine lv_aload_n hx hb dX4_command_0 rfl (lv_at hl 0 rfl) ?_
  refine va_get (D := D) (ci := 4) (v := .ref (q 3)) (C := RX4) (T := TX4) (N := 11) hx hb hts (h_X4_X4_command) hown hK hP 0 rfl rfl 4 (by decide) (z_w hts 1 rfl) (fun _ h9 => h9) rfl dX4_command_1 ?_
  refine lv_iload_n hx hb dX4_command_4 rfl (lv_at hl 2 rfl) ?_
  have hPc := hP.sub (ws' := w_Row cs (q 3) 336 (M 3)) [3] rfl
  have hDc := hD.sub (ws' := w_Row cs (q 3) 336 (M 3)) [3] (by decide) rfl
  refine z_calli (va_runS (As := [.ref (q 3), .int x2]) (rest := []) ⟨hx, hb, hml, hown, hts⟩ (c_X4_isCounter l D cs (q 3) H.size (M 3) x2 _ hw) (va_cwS 2 hts gX4_command_X4_isCounter rfl rfl rfl (by decide +kernel) ⟨Nat.le_of_ble_eq_true rfl, Nat.le_of_ble_eq_true rfl⟩) (PC_S hPc hDc hKK) rfl rfl hl.1 rfl (lv_room (Nat.le_of_ble_eq_true rfl)) dX4_command_5 ⟨Nat.le_of_ble_eq_true rfl, Nat.le_of_ble_eq_true rfl⟩) (fun r1 hw => ?_)
  obtain ⟨b1, hw⟩ := hw
  refine lv_istore (lv' := [(4, .int r1), (0, .ref (q 0)), (1, .int x1), (2, .int x2), (3, .int x3)]) hx hb dX4_command_8 hl (by decide) rfl (fun ls hl => ?_)
  refine lv_iload_n hx hb dX4_command_10 rfl (lv_at hl 2 rfl) ?_
  by_cases c2_0 : x1 = 1
  · have hw := hw.1 c2_0
    refine lv_tableIn (off := 49) (tgt := 60) hx hb dX4_command_11 (by rw [c2_0]; decide) (by rw [c2_0]; decide) (by rw [c2_0]; rfl) (by decide) ?_
    refine lv_iload hx hb dX4_command_60 (lv_at hl 0 rfl) ?_
    refine lv_if_eq (tgt := 103) hx hb dX4_command_62 (by decide) (fun c3 => ?_) (fun c3 => ?_)
    · have hw := hw.1 c3
      refine lv_iconst (v := (0 : Int32)) hx hb dX4_command_103 (by decide) ?_
      exact W.zret (v := (0 : Int32)) hx hb hr rfl (fun t ht hW => ⟨⟨(0 : Int32), (M), rfl, ⟨Or.inl rfl, hw⟩, by rw [ht]; exact hP, hD⟩, hS.F ht⟩) hS.2.2 dX4_command_104 hlocks
    · have hw := hw.2 c3
      refine lv_aload_n hx hb dX4_command_65 rfl (lv_at hl 1 rfl) ?_
      refine va_get (D := D) (ci := 4) (v := .ref (q 3)) (C := RX4) (T := TX4) (N := 11) hx hb hts (h_X4_X4_command) hown hK hP 0 rfl rfl 4 (by decide) (z_w hts 1 rfl) (fun _ h9 => h9) rfl dX4_command_66 ?_
      refine lv_iload_n hx hb dX4_command_69 rfl (lv_at hl 3 rfl) ?_
      refine lv_iload_n hx hb dX4_command_70 rfl (lv_at hl 4 rfl) ?_
      have hPc := hP.sub (ws' := w_Row cs (q 3) 336 (M 3)) [3] rfl
      have hDc := hD.sub (ws' := w_Row cs (q 3) 336 (M 3)) [3] (by decide) rfl
      refine z_calli (va_runS (As := [.ref (q 3), .int x2, .int x3]) (rest := []) ⟨hx, hb, hml, hown, hts⟩ (c_X4_fits l D cs (q 3) H.size (M 3) x2 x3 _ hw) (va_cwS 3 hts gX4_command_X4_fits rfl rfl rfl (by decide +kernel) ⟨Nat.le_of_ble_eq_true rfl, Nat.le_of_ble_eq_true rfl⟩) (PC_S hPc hDc hKK) rfl rfl hl.1 rfl (lv_room (Nat.le_of_ble_eq_true rfl)) dX4_command_71 ⟨Nat.le_of_ble_eq_true rfl, Nat.le_of_ble_eq_true rfl⟩) (fun r4 hw => ?_)
      obtain ⟨b4, hw⟩ := hw
      refine lv_if_eq (tgt := 103) hx hb dX4_command_74 (by decide) (fun c5 => ?_) (fun c5 => ?_)
      · have hw := hw.1 c5
        refine lv_iconst (v := (0 : Int32)) hx hb dX4_command_103 (by decide) ?_
        exact W.zret (v := (0 : Int32)) hx hb hr rfl (fun t ht hW => ⟨⟨(0 : Int32), (M), rfl, ⟨Or.inl rfl, hw⟩, by rw [ht]; exact hP, hD⟩, hS.F ht⟩) hS.2.2 dX4_command_104 hlocks
      · have hw := hw.2 c5
        refine lv_aload_n hx hb dX4_command_77 rfl (lv_at hl 1 rfl) ?_
        refine va_get (D := D) (ci := 4) (v := .ref (q 3)) (C := RX4) (T := TX4) (N := 11) hx hb hts (h_X4_X4_command) hown hK hP 0 rfl rfl 4 (by decide) (z_w hts 1 rfl) (fun _ h9 => h9) rfl dX4_command_78 ?_
        refine lv_iload_n hx hb dX4_command_81 rfl (lv_at hl 3 rfl) ?_
        refine lv_iload_n hx hb dX4_command_82 rfl (lv_at hl 2 rfl) ?_
        refine lv_iconst (v := (1 : Int32)) hx hb dX4_command_83 (by decide) ?_
        refine lv_icmp_ne (tgt := 91) hx hb dX4_command_84 (by decide) (fun c6 => ?_) (fun c6 => ?_)
        · have hw := hw.2 c6
          refine lv_iload_n hx hb dX4_command_91 rfl (lv_at hl 4 rfl) ?_
          refine lv_ineg hx hb dX4_command_92 ?_
          have hPc := hP.sub (ws' := w_Row cs (q 3) 336 (M 3)) [3] rfl
          have hDc := hD.sub (ws' := w_Row cs (q 3) 336 (M 3)) [3] (by decide) rfl
          have hFc := va_free (wc := w_Row cs (q 3) 336 (M 3)) hD hS hA [3] rfl
          refine va_calli (va_runS (As := [.ref (q 3), .int x2, .int (-x3)]) (rest := []) ⟨hx, hb, hml, hown, hts⟩ (c_X4_addOn l D cs (q 3) H.size (M 3) x2 (-x3) _ hw) (va_cwS 3 hts gX4_command_X4_addOn rfl rfl rfl (by decide +kernel) ⟨Nat.le_of_ble_eq_true rfl, Nat.le_of_ble_eq_true rfl⟩) (PC_S hPc hDc hKK) rfl rfl hl.1 rfl (lv_room (Nat.le_of_ble_eq_true rfl)) dX4_command_93 ⟨Nat.le_of_ble_eq_true rfl, Nat.le_of_ble_eq_true rfl⟩) hS (fun q _ h => hFc q h) hFc (fun r7 u7 t H locs ht hvm hw hB hz1 hk1 hS => ?_)
          obtain ⟨hP1, hD1⟩ := hB
          rw [ht] at hP1
          obtain ⟨hP, hD⟩ := va_join (wr := ([0, 1, 2, 4, 5, 6, 7, 8].filterMap (fun i => (w_Mod cs q M)[i]?))) (w1 := w_Row cs (q 3) 336 u7) hP hD [3] [0, 1, 2, 4, 5, 6, 7, 8] rfl rfl (by decide) (by decide) hk1 hFc hP1 hD1
          have hP : va_P D vwCl (w_Mod cs q (zr2 M 3 u7)) H := hP.sub (ws' := w_Mod cs q (zr2 M 3 u7)) [0, 1, 2, 8, 3, 4, 5, 6, 7] rfl
          have hD : va_D A (w_Mod cs q (zr2 M 3 u7)) := hD.sub (ws' := w_Mod cs q (zr2 M 3 u7)) [0, 1, 2, 8, 3, 4, 5, 6, 7] (by decide) rfl
          refine lv_if_lt (tgt := 103) hx hb dX4_command_96 (by decide) (fun c8 => ?_) (fun c8 => ?_)
          · have hw := hw.1 c8
            refine lv_iconst (v := (0 : Int32)) hx hb dX4_command_103 (by decide) ?_
            exact W.zret (v := (0 : Int32)) hx hb hr rfl (fun t ht hW => ⟨⟨(0 : Int32), (zr2 M 3 u7), rfl, ⟨Or.inl rfl, hw⟩, by rw [ht]; exact hP, hD⟩, hS.F ht⟩) hS.2.2 dX4_command_104 hlocks
          · have hw := hw.2 c8
            refine lv_iconst (v := (1 : Int32)) hx hb dX4_command_99 (by decide) ?_
            refine lv_goto (tgt := 104) hx hb dX4_command_100 (by decide) ?_
            exact W.zret (v := (1 : Int32)) hx hb hr rfl (fun t ht hW => ⟨⟨(1 : Int32), (zr2 M 3 u7), rfl, ⟨Or.inr rfl, hw⟩, by rw [ht]; exact hP, hD⟩, hS.F ht⟩) hS.2.2 dX4_command_104 hlocks
        · have hw := hw.1 c6
          refine lv_iload_n hx hb dX4_command_87 rfl (lv_at hl 4 rfl) ?_
          refine lv_goto (tgt := 93) hx hb dX4_command_88 (by decide) ?_
          have hPc := hP.sub (ws' := w_Row cs (q 3) 336 (M 3)) [3] rfl
          have hDc := hD.sub (ws' := w_Row cs (q 3) 336 (M 3)) [3] (by decide) rfl
          have hFc := va_free (wc := w_Row cs (q 3) 336 (M 3)) hD hS hA [3] rfl
          refine va_calli (va_runS (As := [.ref (q 3), .int x2, .int x3]) (rest := []) ⟨hx, hb, hml, hown, hts⟩ (c_X4_addOn l D cs (q 3) H.size (M 3) x2 x3 _ hw) (va_cwS 3 hts gX4_command_X4_addOn rfl rfl rfl (by decide +kernel) ⟨Nat.le_of_ble_eq_true rfl, Nat.le_of_ble_eq_true rfl⟩) (PC_S hPc hDc hKK) rfl rfl hl.1 rfl (lv_room (Nat.le_of_ble_eq_true rfl)) dX4_command_93 ⟨Nat.le_of_ble_eq_true rfl, Nat.le_of_ble_eq_true rfl⟩) hS (fun q _ h => hFc q h) hFc (fun r9 u9 t H locs ht hvm hw hB hz1 hk1 hS => ?_)
          obtain ⟨hP1, hD1⟩ := hB
          rw [ht] at hP1
          obtain ⟨hP, hD⟩ := va_join (wr := ([0, 1, 2, 4, 5, 6, 7, 8].filterMap (fun i => (w_Mod cs q M)[i]?))) (w1 := w_Row cs (q 3) 336 u9) hP hD [3] [0, 1, 2, 4, 5, 6, 7, 8] rfl rfl (by decide) (by decide) hk1 hFc hP1 hD1
          have hP : va_P D vwCl (w_Mod cs q (zr2 M 3 u9)) H := hP.sub (ws' := w_Mod cs q (zr2 M 3 u9)) [0, 1, 2, 8, 3, 4, 5, 6, 7] rfl
          have hD : va_D A (w_Mod cs q (zr2 M 3 u9)) := hD.sub (ws' := w_Mod cs q (zr2 M 3 u9)) [0, 1, 2, 8, 3, 4, 5, 6, 7] (by decide) rfl
          refine lv_if_lt (tgt := 103) hx hb dX4_command_96 (by decide) (fun c10 => ?_) (fun c10 => ?_)
          · have hw := hw.1 c10
            refine lv_iconst (v := (0 : Int32)) hx hb dX4_command_103 (by decide) ?_
            exact W.zret (v := (0 : Int32)) hx hb hr rfl (fun t ht hW => ⟨⟨(0 : Int32), (zr2 M 3 u9), rfl, ⟨Or.inl rfl, hw⟩, by rw [ht]; exact hP, hD⟩, hS.F ht⟩) hS.2.2 dX4_command_104 hlocks
          · have hw := hw.2 c10
            refine lv_iconst (v := (1 : Int32)) hx hb dX4_command_99 (by decide) ?_
            refine lv_goto (tgt := 104) hx hb dX4_command_100 (by decide) ?_
            exact W.zret (v := (1 : Int32)) hx hb hr rfl (fun t ht hW => ⟨⟨(1 : Int32), (zr2 M 3 u9), rfl, ⟨Or.inr rfl, hw⟩, by rw [ht]; exact hP, hD⟩, hS.F ht⟩) hS.2.2 dX4_command_104 hlocks
  have hw := hw.2 c2_0
  by_cases c2_1 : x1 = 2
  · have hw := hw.1 c2_1
    refine lv_tableIn (off := 49) (tgt := 60) hx hb dX4_command_11 (by rw [c2_1]; decide) (by rw [c2_1]; decide) (by rw [c2_1]; rfl) (by decide) ?_
    refine lv_iload hx hb dX4_command_60 (lv_at hl 0 rfl) ?_
    refine lv_if_eq (tgt := 103) hx hb dX4_command_62 (by decide) (fun c11 => ?_) (fun c11 => ?_)
    · have hw := hw.1 c11
      refine lv_iconst (v := (0 : Int32)) hx hb dX4_command_103 (by decide) ?_
      exact W.zret (v := (0 : Int32)) hx hb hr rfl (fun t ht hW => ⟨⟨(0 : Int32), (M), rfl, ⟨Or.inl rfl, hw⟩, by rw [ht]; exact hP, hD⟩, hS.F ht⟩) hS.2.2 dX4_command_104 hlocks
    · have hw := hw.2 c11
      refine lv_aload_n hx hb dX4_command_65 rfl (lv_at hl 1 rfl) ?_
      refine va_get (D := D) (ci := 4) (v := .ref (q 3)) (C := RX4) (T := TX4) (N := 11) hx hb hts (h_X4_X4_command) hown hK hP 0 rfl rfl 4 (by decide) (z_w hts 1 rfl) (fun _ h9 => h9) rfl dX4_command_66 ?_
      refine lv_iload_n hx hb dX4_command_69 rfl (lv_at hl 3 rfl) ?_
      refine lv_iload_n hx hb dX4_command_70 rfl (lv_at hl 4 rfl) ?_
      have hPc := hP.sub (ws' := w_Row cs (q 3) 336 (M 3)) [3] rfl
      have hDc := hD.sub (ws' := w_Row cs (q 3) 336 (M 3)) [3] (by decide) rfl
      refine z_calli (va_runS (As := [.ref (q 3), .int x2, .int x3]) (rest := []) ⟨hx, hb, hml, hown, hts⟩ (c_X4_fits l D cs (q 3) H.size (M 3) x2 x3 _ hw) (va_cwS 3 hts gX4_command_X4_fits rfl rfl rfl (by decide +kernel) ⟨Nat.le_of_ble_eq_true rfl, Nat.le_of_ble_eq_true rfl⟩) (PC_S hPc hDc hKK) rfl rfl hl.1 rfl (lv_room (Nat.le_of_ble_eq_true rfl)) dX4_command_71 ⟨Nat.le_of_ble_eq_true rfl, Nat.le_of_ble_eq_true rfl⟩) (fun r12 hw => ?_)
      obtain ⟨b12, hw⟩ := hw
      refine lv_if_eq (tgt := 103) hx hb dX4_command_74 (by decide) (fun c13 => ?_) (fun c13 => ?_)
      · have hw := hw.1 c13
        refine lv_iconst (v := (0 : Int32)) hx hb dX4_command_103 (by decide) ?_
        exact W.zret (v := (0 : Int32)) hx hb hr rfl (fun t ht hW => ⟨⟨(0 : Int32), (M), rfl, ⟨Or.inl rfl, hw⟩, by rw [ht]; exact hP, hD⟩, hS.F ht⟩) hS.2.2 dX4_command_104 hlocks
      · have hw := hw.2 c13
        refine lv_aload_n hx hb dX4_command_77 rfl (lv_at hl 1 rfl) ?_
        refine va_get (D := D) (ci := 4) (v := .ref (q 3)) (C := RX4) (T := TX4) (N := 11) hx hb hts (h_X4_X4_command) hown hK hP 0 rfl rfl 4 (by decide) (z_w hts 1 rfl) (fun _ h9 => h9) rfl dX4_command_78 ?_
        refine lv_iload_n hx hb dX4_command_81 rfl (lv_at hl 3 rfl) ?_
        refine lv_iload_n hx hb dX4_command_82 rfl (lv_at hl 2 rfl) ?_
        refine lv_iconst (v := (1 : Int32)) hx hb dX4_command_83 (by decide) ?_
        refine lv_icmp_ne (tgt := 91) hx hb dX4_command_84 (by decide) (fun c14 => ?_) (fun c14 => ?_)
        · have hw := hw.2 c14
          refine lv_iload_n hx hb dX4_command_91 rfl (lv_at hl 4 rfl) ?_
          refine lv_ineg hx hb dX4_command_92 ?_
          have hPc := hP.sub (ws' := w_Row cs (q 3) 336 (M 3)) [3] rfl
          have hDc := hD.sub (ws' := w_Row cs (q 3) 336 (M 3)) [3] (by decide) rfl
          have hFc := va_free (wc := w_Row cs (q 3) 336 (M 3)) hD hS hA [3] rfl
          refine va_calli (va_runS (As := [.ref (q 3), .int x2, .int (-x3)]) (rest := []) ⟨hx, hb, hml, hown, hts⟩ (c_X4_addOn l D cs (q 3) H.size (M 3) x2 (-x3) _ hw) (va_cwS 3 hts gX4_command_X4_addOn rfl rfl rfl (by decide +kernel) ⟨Nat.le_of_ble_eq_true rfl, Nat.le_of_ble_eq_true rfl⟩) (PC_S hPc hDc hKK) rfl rfl hl.1 rfl (lv_room (Nat.le_of_ble_eq_true rfl)) dX4_command_93 ⟨Nat.le_of_ble_eq_true rfl, Nat.le_of_ble_eq_true rfl⟩) hS (fun q _ h => hFc q h) hFc (fun r15 u15 t H locs ht hvm hw hB hz1 hk1 hS => ?_)
          obtain ⟨hP1, hD1⟩ := hB
          rw [ht] at hP1
          obtain ⟨hP, hD⟩ := va_join (wr := ([0, 1, 2, 4, 5, 6, 7, 8].filterMap (fun i => (w_Mod cs q M)[i]?))) (w1 := w_Row cs (q 3) 336 u15) hP hD [3] [0, 1, 2, 4, 5, 6, 7, 8] rfl rfl (by decide) (by decide) hk1 hFc hP1 hD1
          have hP : va_P D vwCl (w_Mod cs q (zr2 M 3 u15)) H := hP.sub (ws' := w_Mod cs q (zr2 M 3 u15)) [0, 1, 2, 8, 3, 4, 5, 6, 7] rfl
          have hD : va_D A (w_Mod cs q (zr2 M 3 u15)) := hD.sub (ws' := w_Mod cs q (zr2 M 3 u15)) [0, 1, 2, 8, 3, 4, 5, 6, 7] (by decide) rfl
          refine lv_if_lt (tgt := 103) hx hb dX4_command_96 (by decide) (fun c16 => ?_) (fun c16 => ?_)
          · have hw := hw.1 c16
            refine lv_iconst (v := (0 : Int32)) hx hb dX4_command_103 (by decide) ?_
            exact W.zret (v := (0 : Int32)) hx hb hr rfl (fun t ht hW => ⟨⟨(0 : Int32), (zr2 M 3 u15), rfl, ⟨Or.inl rfl, hw⟩, by rw [ht]; exact hP, hD⟩, hS.F ht⟩) hS.2.2 dX4_command_104 hlocks
          · have hw := hw.2 c16
            refine lv_iconst (v := (1 : Int32)) hx hb dX4_command_99 (by decide) ?_
            refine lv_goto (tgt := 104) hx hb dX4_command_100 (by decide) ?_
            exact W.zret (v := (1 : Int32)) hx hb hr rfl (fun t ht hW => ⟨⟨(1 : Int32), (zr2 M 3 u15), rfl, ⟨Or.inr rfl, hw⟩, by rw [ht]; exact hP, hD⟩, hS.F ht⟩) hS.2.2 dX4_command_104 hlocks
        · have hw := hw.1 c14
          refine lv_iload_n hx hb dX4_command_87 rfl (lv_at hl 4 rfl) ?_
          refine lv_goto (tgt := 93) hx hb dX4_command_88 (by decide) ?_
          have hPc := hP.sub (ws' := w_Row cs (q 3) 336 (M 3)) [3] rfl
          have hDc := hD.sub (ws' := w_Row cs (q 3) 336 (M 3)) [3] (by decide) rfl
          have hFc := va_free (wc := w_Row cs (q 3) 336 (M 3)) hD hS hA [3] rfl
          refine va_calli (va_runS (As := [.ref (q 3), .int x2, .int x3]) (rest := []) ⟨hx, hb, hml, hown, hts⟩ (c_X4_addOn l D cs (q 3) H.size (M 3) x2 x3 _ hw) (va_cwS 3 hts gX4_command_X4_addOn rfl rfl rfl (by decide +kernel) ⟨Nat.le_of_ble_eq_true rfl, Nat.le_of_ble_eq_true rfl⟩) (PC_S hPc hDc hKK) rfl rfl hl.1 rfl (lv_room (Nat.le_of_ble_eq_true rfl)) dX4_command_93 ⟨Nat.le_of_ble_eq_true rfl, Nat.le_of_ble_eq_true rfl⟩) hS (fun q _ h => hFc q h) hFc (fun r17 u17 t H locs ht hvm hw hB hz1 hk1 hS => ?_)
          obtain ⟨hP1, hD1⟩ := hB
          rw [ht] at hP1
          obtain ⟨hP, hD⟩ := va_join (wr := ([0, 1, 2, 4, 5, 6, 7, 8].filterMap (fun i => (w_Mod cs q M)[i]?))) (w1 := w_Row cs (q 3) 336 u17) hP hD [3] [0, 1, 2, 4, 5, 6, 7, 8] rfl rfl (by decide) (by decide) hk1 hFc hP1 hD1
          have hP : va_P D vwCl (w_Mod cs q (zr2 M 3 u17)) H := hP.sub (ws' := w_Mod cs q (zr2 M 3 u17)) [0, 1, 2, 8, 3, 4, 5, 6, 7] rfl
          have hD : va_D A (w_Mod cs q (zr2 M 3 u17)) := hD.sub (ws' := w_Mod cs q (zr2 M 3 u17)) [0, 1, 2, 8, 3, 4, 5, 6, 7] (by decide) rfl
          refine lv_if_lt (tgt := 103) hx hb dX4_command_96 (by decide) (fun c18 => ?_) (fun c18 => ?_)
          · have hw := hw.1 c18
            refine lv_iconst (v := (0 : Int32)) hx hb dX4_command_103 (by decide) ?_
            exact W.zret (v := (0 : Int32)) hx hb hr rfl (fun t ht hW => ⟨⟨(0 : Int32), (zr2 M 3 u17), rfl, ⟨Or.inl rfl, hw⟩, by rw [ht]; exact hP, hD⟩, hS.F ht⟩) hS.2.2 dX4_command_104 hlocks
          · have hw := hw.2 c18
            refine lv_iconst (v := (1 : Int32)) hx hb dX4_command_99 (by decide) ?_
            refine lv_goto (tgt := 104) hx hb dX4_command_100 (by decide) ?_
            exact W.zret (v := (1 : Int32)) hx hb hr rfl (fun t ht hW => ⟨⟨(1 : Int32), (zr2 M 3 u17), rfl, ⟨Or.inr rfl, hw⟩, by rw [ht]; exact hP, hD⟩, hS.F ht⟩) hS.2.2 dX4_command_104 hlocks
  have hw := hw.2 c2_1
  by_cases c2_2 : x1 = 3
  · have hw := hw.1 c2_2
    refine lv_tableIn (off := 94) (tgt := 105) hx hb dX4_command_11 (by rw [c2_2]; decide) (by rw [c2_2]; decide) (by rw [c2_2]; rfl) (by decide) ?_
    refine lv_iload hx hb dX4_command_105 (lv_at hl 0 rfl) ?_
    refine lv_if_eq (tgt := 140) hx hb dX4_command_107 (by decide) (fun c19 => ?_) (fun c19 => ?_)
    · have hw := hw.1 c19
      refine lv_iconst (v := (0 : Int32)) hx hb dX4_command_140 (by decide) ?_
      exact W.zret (v := (0 : Int32)) hx hb hr rfl (fun t ht hW => ⟨⟨(0 : Int32), (M), rfl, ⟨Or.inl rfl, hw⟩, by rw [ht]; exact hP, hD⟩, hS.F ht⟩) hS.2.2 dX4_command_141 hlocks
    · have hw := hw.2 c19
      refine lv_iload_n hx hb dX4_command_110 rfl (lv_at hl 4 rfl) ?_
      refine lv_if_ne (tgt := 140) hx hb dX4_command_111 (by decide) (fun c20 => ?_) (fun c20 => ?_)
      · have hw := hw.2 c20
        refine lv_iconst (v := (0 : Int32)) hx hb dX4_command_140 (by decide) ?_
        exact W.zret (v := (0 : Int32)) hx hb hr rfl (fun t ht hW => ⟨⟨(0 : Int32), (M), rfl, ⟨Or.inl rfl, hw⟩, by rw [ht]; exact hP, hD⟩, hS.F ht⟩) hS.2.2 dX4_command_141 hlocks
      · have hw := hw.1 c20
        refine lv_aload_n hx hb dX4_command_114 rfl (lv_at hl 1 rfl) ?_
        refine va_get (D := D) (ci := 4) (v := .ref (q 3)) (C := RX4) (T := TX4) (N := 11) hx hb hts (h_X4_X4_command) hown hK hP 0 rfl rfl 4 (by decide) (z_w hts 1 rfl) (fun _ h9 => h9) rfl dX4_command_115 ?_
        refine lv_iconst (v := (3 : Int32)) hx hb dX4_command_118 (by decide) ?_
        refine va_iald hx hb hK hP 3 0 rfl rfl (show vp_in (3 : Int32) 336 by unfold vp_in; decide) dX4_command_119 ?_
        refine lv_bipush (v := (40 : Int32)) hx hb dX4_command_120 (by decide) ?_
        refine lv_icmp_ge (tgt := 140) hx hb dX4_command_122 (by decide) (fun c21 => ?_) (fun c21 => ?_)
        · have hw := hw.1 c21
          refine lv_iconst (v := (0 : Int32)) hx hb dX4_command_140 (by decide) ?_
          exact W.zret (v := (0 : Int32)) hx hb hr rfl (fun t ht hW => ⟨⟨(0 : Int32), (M), rfl, ⟨Or.inl rfl, hw⟩, by rw [ht]; exact hP, hD⟩, hS.F ht⟩) hS.2.2 dX4_command_141 hlocks
        · have hw := hw.2 c21
          refine lv_aload_n hx hb dX4_command_125 rfl (lv_at hl 1 rfl) ?_
          refine va_get (D := D) (ci := 4) (v := .ref (q 3)) (C := RX4) (T := TX4) (N := 11) hx hb hts (h_X4_X4_command) hown hK hP 0 rfl rfl 4 (by decide) (z_w hts 1 rfl) (fun _ h9 => h9) rfl dX4_command_126 ?_
          refine lv_iload_n hx hb dX4_command_129 rfl (lv_at hl 3 rfl) ?_
          have hPc := hP.sub (ws' := w_Row cs (q 3) 336 (M 3)) [3] rfl
          have hDc := hD.sub (ws' := w_Row cs (q 3) 336 (M 3)) [3] (by decide) rfl
          have hFc := va_free (wc := w_Row cs (q 3) 336 (M 3)) hD hS hA [3] rfl
          refine va_calli (va_runS (As := [.ref (q 3), .int x2]) (rest := []) ⟨hx, hb, hml, hown, hts⟩ (c_X4_drawOn l D cs (q 3) H.size (M 3) x2 _ hw) (va_cwS 2 hts gX4_command_X4_drawOn rfl rfl rfl (by decide +kernel) ⟨Nat.le_of_ble_eq_true rfl, Nat.le_of_ble_eq_true rfl⟩) (PC_S hPc hDc hKK) rfl rfl hl.1 rfl (lv_room (Nat.le_of_ble_eq_true rfl)) dX4_command_130 ⟨Nat.le_of_ble_eq_true rfl, Nat.le_of_ble_eq_true rfl⟩) hS (fun q _ h => hFc q h) hFc (fun r22 u22 t H locs ht hvm hw hB hz1 hk1 hS => ?_)
          obtain ⟨hP1, hD1⟩ := hB
          rw [ht] at hP1
          obtain ⟨hP, hD⟩ := va_join (wr := ([0, 1, 2, 4, 5, 6, 7, 8].filterMap (fun i => (w_Mod cs q M)[i]?))) (w1 := w_Row cs (q 3) 336 u22) hP hD [3] [0, 1, 2, 4, 5, 6, 7, 8] rfl rfl (by decide) (by decide) hk1 hFc hP1 hD1
          have hP : va_P D vwCl (w_Mod cs q (zr2 M 3 u22)) H := hP.sub (ws' := w_Mod cs q (zr2 M 3 u22)) [0, 1, 2, 8, 3, 4, 5, 6, 7] rfl
          have hD : va_D A (w_Mod cs q (zr2 M 3 u22)) := hD.sub (ws' := w_Mod cs q (zr2 M 3 u22)) [0, 1, 2, 8, 3, 4, 5, 6, 7] (by decide) rfl
          refine lv_if_lt (tgt := 140) hx hb dX4_command_133 (by decide) (fun c23 => ?_) (fun c23 => ?_)
          · have hw := hw.1 c23
            refine lv_iconst (v := (0 : Int32)) hx hb dX4_command_140 (by decide) ?_
            exact W.zret (v := (0 : Int32)) hx hb hr rfl (fun t ht hW => ⟨⟨(0 : Int32), (zr2 M 3 u22), rfl, ⟨Or.inl rfl, hw⟩, by rw [ht]; exact hP, hD⟩, hS.F ht⟩) hS.2.2 dX4_command_141 hlocks
          · have hw := hw.2 c23
            refine lv_iconst (v := (1 : Int32)) hx hb dX4_command_136 (by decide) ?_
            refine lv_goto (tgt := 141) hx hb dX4_command_137 (by decide) ?_
            exact W.zret (v := (1 : Int32)) hx hb hr rfl (fun t ht hW => ⟨⟨(1 : Int32), (zr2 M 3 u22), rfl, ⟨Or.inr rfl, hw⟩, by rw [ht]; exact hP, hD⟩, hS.F ht⟩) hS.2.2 dX4_command_141 hlocks
  have hw := hw.2 c2_2
  by_cases c2_3 : x1 = 4
  · have hw := hw.1 c2_3
    refine lv_tableIn (off := 131) (tgt := 142) hx hb dX4_command_11 (by rw [c2_3]; decide) (by rw [c2_3]; decide) (by rw [c2_3]; rfl) (by decide) ?_
    refine lv_iload_n hx hb dX4_command_142 rfl (lv_at hl 3 rfl) ?_
    refine lv_if_ne (tgt := 174) hx hb dX4_command_143 (by decide) (fun c24 => ?_) (fun c24 => ?_)
    · have hw := hw.2 c24
      refine lv_iconst (v := (0 : Int32)) hx hb dX4_command_174 (by decide) ?_
      exact W.zret (v := (0 : Int32)) hx hb hr rfl (fun t ht hW => ⟨⟨(0 : Int32), (M), rfl, ⟨Or.inl rfl, hw⟩, by rw [ht]; exact hP, hD⟩, hS.F ht⟩) hS.2.2 dX4_command_175 hlocks
    · have hw := hw.1 c24
      refine lv_iload_n hx hb dX4_command_146 rfl (lv_at hl 4 rfl) ?_
      refine lv_i2l (v := x3.toInt64) hx hb dX4_command_147 rfl ?_
      refine lv_lconst (v := (1 : Int64)) hx hb dX4_command_148 (by decide) ?_
      refine lv_ldc2 (v := (99 : Int64)) hx hb hown (z_w hts 2 (w := .constantLong RX4 150 (99)) rfl) dX4_command_149 ?_
      have hPc := hP.sub (ws' := ([] : va_W)) [] rfl
      have hDc := hD.sub (ws' := ([] : va_W)) [] (by decide) rfl
      refine z_calli (va_runS (As := [.long x3.toInt64, .long (1 : Int64), .long (99 : Int64)]) (rest := []) ⟨hx, hb, hml, hown, hts⟩ (c_X4_in l D cs  H.size x3.toInt64 (1 : Int64) (99 : Int64) _ hw) (va_cwS 3 hts gX4_command_X4_in rfl rfl rfl (by decide +kernel) ⟨Nat.le_of_ble_eq_true rfl, Nat.le_of_ble_eq_true rfl⟩) (PC_S hPc hDc hKK) rfl rfl hl.1 rfl (lv_room (Nat.le_of_ble_eq_true rfl)) dX4_command_152 ⟨Nat.le_of_ble_eq_true rfl, Nat.le_of_ble_eq_true rfl⟩) (fun r25 hw => ?_)
      obtain ⟨b25, hw⟩ := hw
      refine lv_if_eq (tgt := 174) hx hb dX4_command_155 (by decide) (fun c26 => ?_) (fun c26 => ?_)
      · have hw := hw.1 c26
        refine lv_iconst (v := (0 : Int32)) hx hb dX4_command_174 (by decide) ?_
        exact W.zret (v := (0 : Int32)) hx hb hr rfl (fun t ht hW => ⟨⟨(0 : Int32), (M), rfl, ⟨Or.inl rfl, hw⟩, by rw [ht]; exact hP, hD⟩, hS.F ht⟩) hS.2.2 dX4_command_175 hlocks
      · have hw := hw.2 c26
        refine lv_aload_n hx hb dX4_command_158 rfl (lv_at hl 1 rfl) ?_
        refine lv_aload_n hx hb dX4_command_159 rfl (lv_at hl 1 rfl) ?_
        refine va_get (D := D) (ci := 4) (v := .ref (q 3)) (C := RX4) (T := TX4) (N := 11) hx hb hts (h_X4_X4_command) hown hK hP 0 rfl rfl 4 (by decide) (z_w hts 1 rfl) (fun _ h9 => h9) rfl dX4_command_160 ?_
        refine lv_iload_n hx hb dX4_command_163 rfl (lv_at hl 4 rfl) ?_
        have hFc := va_free (wc := w_Mod cs q M) hD hS hA [0, 1, 2, 3, 4, 5, 6, 7, 8] rfl
        refine va_calli (va_runV (As := [.ref (q 3), .int x3]) (rest := []) ⟨hx, hb, hml, hown, hts⟩ (c_X4_beatsOn_t l D cs q H.size M x3 _ hw) (cwV 2 hts gX4_command_X4_beatsOn rfl rfl rfl (by decide +kernel) ⟨Nat.le_of_ble_eq_true rfl, Nat.le_of_ble_eq_true rfl⟩) (PC_V hP hD hKK 0 4 rfl rfl) rfl rfl hl.1 rfl (lv_room (Nat.le_of_ble_eq_true rfl)) dX4_command_164 ⟨Nat.le_of_ble_eq_true rfl, Nat.le_of_ble_eq_true rfl⟩) hS (fun q _ h => hFc q h) hFc (fun r27 u27 t H locs ht hvm hw hB hz1 hk1 hS => ?_)
        obtain ⟨hP1, hD1⟩ := hB
        rw [ht] at hP1
        have hD : va_D A (w_Mod cs q u27) := hD1.weaken (fun k q _ h => hFc q.1 h)
        have hP : va_P D vwCl (w_Mod cs q u27) H := hP1
        refine lv_if_lt (tgt := 174) hx hb dX4_command_167 (by decide) (fun c28 => ?_) (fun c28 => ?_)
        · have hw := hw.1 c28
          refine lv_iconst (v := (0 : Int32)) hx hb dX4_command_174 (by decide) ?_
          exact W.zret (v := (0 : Int32)) hx hb hr rfl (fun t ht hW => ⟨⟨(0 : Int32), (u27), rfl, ⟨Or.inl rfl, hw⟩, by rw [ht]; exact hP, hD⟩, hS.F ht⟩) hS.2.2 dX4_command_175 hlocks
        · have hw := hw.2 c28
          refine lv_iconst (v := (1 : Int32)) hx hb dX4_command_170 (by decide) ?_
          refine lv_goto (tgt := 175) hx hb dX4_command_171 (by decide) ?_
          exact W.zret (v := (1 : Int32)) hx hb hr rfl (fun t ht hW => ⟨⟨(1 : Int32), (u27), rfl, ⟨Or.inr rfl, hw⟩, by rw [ht]; exact hP, hD⟩, hS.F ht⟩) hS.2.2 dX4_command_175 hlocks
  have hw := hw.2 c2_3
  by_cases c2_4 : x1 = 5
  · have hw := hw.1 c2_4
    refine lv_tableIn (off := 165) (tgt := 176) hx hb dX4_command_11 (by rw [c2_4]; decide) (by rw [c2_4]; decide) (by rw [c2_4]; rfl) (by decide) ?_
    refine lv_iload_n hx hb dX4_command_176 rfl (lv_at hl 3 rfl) ?_
    refine lv_if_gt (tgt := 192) hx hb dX4_command_177 (by decide) (fun c29 => ?_) (fun c29 => ?_)
    · have hw := hw.1 c29
      refine lv_iconst (v := (0 : Int32)) hx hb dX4_command_192 (by decide) ?_
      exact W.zret (v := (0 : Int32)) hx hb hr rfl (fun t ht hW => ⟨⟨(0 : Int32), (M), rfl, ⟨Or.inl rfl, hw⟩, by rw [ht]; exact hP, hD⟩, hS.F ht⟩) hS.2.2 dX4_command_193 hlocks
    · have hw := hw.2 c29
      refine lv_iload_n hx hb dX4_command_180 rfl (lv_at hl 4 rfl) ?_
      refine lv_i2l (v := x3.toInt64) hx hb dX4_command_181 rfl ?_
      refine lv_lconst (v := (1 : Int64)) hx hb dX4_command_182 (by decide) ?_
      refine lv_ldc2 (v := (9 : Int64)) hx hb hown (z_w hts 3 (w := .constantLong RX4 155 (9)) rfl) dX4_command_183 ?_
      have hPc := hP.sub (ws' := ([] : va_W)) [] rfl
      have hDc := hD.sub (ws' := ([] : va_W)) [] (by decide) rfl
      refine z_calli (va_runS (As := [.long x3.toInt64, .long (1 : Int64), .long (9 : Int64)]) (rest := []) ⟨hx, hb, hml, hown, hts⟩ (c_X4_in l D cs  H.size x3.toInt64 (1 : Int64) (9 : Int64) _ hw) (va_cwS 3 hts gX4_command_X4_in rfl rfl rfl (by decide +kernel) ⟨Nat.le_of_ble_eq_true rfl, Nat.le_of_ble_eq_true rfl⟩) (PC_S hPc hDc hKK) rfl rfl hl.1 rfl (lv_room (Nat.le_of_ble_eq_true rfl)) dX4_command_186 ⟨Nat.le_of_ble_eq_true rfl, Nat.le_of_ble_eq_true rfl⟩) (fun r30 hw => ?_)
      obtain ⟨b30, hw⟩ := hw
      refine lv_if_ne (tgt := 194) hx hb dX4_command_189 (by decide) (fun c31 => ?_) (fun c31 => ?_)
      · have hw := hw.2 c31
        refine lv_aload_n hx hb dX4_command_194 rfl (lv_at hl 1 rfl) ?_
        refine va_get (D := D) (ci := 4) (v := .ref (q 3)) (C := RX4) (T := TX4) (N := 11) hx hb hts (h_X4_X4_command) hown hK hP 0 rfl rfl 4 (by decide) (z_w hts 1 rfl) (fun _ h9 => h9) rfl dX4_command_195 ?_
        refine lv_iconst (v := (1 : Int32)) hx hb dX4_command_198 (by decide) ?_
        refine lv_iload_n hx hb dX4_command_199 rfl (lv_at hl 4 rfl) ?_
        refine va_iast hx hb hK hP hD hS 3 0 rfl rfl (show vp_in (1 : Int32) 336 by unfold vp_in; decide) dX4_command_200 (fun H locs hP hD hS => ?_)
        have hP : va_P D vwCl (w_Mod cs q (zr2 M 3 (upd (M 3) (1 : Int32).toNatClampNeg x3))) H := hP
        have hD : va_D A (w_Mod cs q (zr2 M 3 (upd (M 3) (1 : Int32).toNatClampNeg x3))) := hD
        refine lv_iconst (v := (1 : Int32)) hx hb dX4_command_201 (by decide) ?_
        exact W.zret (v := (1 : Int32)) hx hb hr rfl (fun t ht hW => ⟨⟨(1 : Int32), (zr2 M 3 (upd (M 3) (1 : Int32).toNatClampNeg x3)), rfl, ⟨Or.inr rfl, hw⟩, by rw [ht]; exact hP, hD⟩, hS.F ht⟩) hS.2.2 dX4_command_202 hlocks
      · have hw := hw.1 c31
        refine lv_iconst (v := (0 : Int32)) hx hb dX4_command_192 (by decide) ?_
        exact W.zret (v := (0 : Int32)) hx hb hr rfl (fun t ht hW => ⟨⟨(0 : Int32), (M), rfl, ⟨Or.inl rfl, hw⟩, by rw [ht]; exact hP, hD⟩, hS.F ht⟩) hS.2.2 dX4_command_193 hlocks
  have hw := hw.2 c2_4
  by_cases c2_5 : x1 = 6
  · have hw := hw.1 c2_5
    refine lv_tableIn (off := 192) (tgt := 203) hx hb dX4_command_11 (by rw [c2_5]; decide) (by rw [c2_5]; decide) (by rw [c2_5]; rfl) (by decide) ?_
    refine lv_iload_n hx hb dX4_command_203 rfl (lv_at hl 3 rfl) ?_
    refine lv_i2l (v := x2.toInt64) hx hb dX4_command_204 rfl ?_
    refine lv_lconst (v := (0 : Int64)) hx hb dX4_command_205 (by decide) ?_
    refine lv_aload_n hx hb dX4_command_206 rfl (lv_at hl 1 rfl) ?_
    refine va_get (D := D) (ci := 4) (v := .ref (q 3)) (C := RX4) (T := TX4) (N := 11) hx hb hts (h_X4_X4_command) hown hK hP 0 rfl rfl 4 (by decide) (z_w hts 1 rfl) (fun _ h9 => h9) rfl dX4_command_207 ?_
    refine lv_iconst (v := (0 : Int32)) hx hb dX4_command_210 (by decide) ?_
    refine va_iald hx hb hK hP 3 0 rfl rfl (show vp_in (0 : Int32) 336 by unfold vp_in; decide) dX4_command_211 ?_
    refine lv_iconst (v := (2 : Int32)) hx hb dX4_command_212 (by decide) ?_
    refine lv_isub hx hb dX4_command_213 ?_
    refine lv_i2l (v := ((M 3 (0 : Int32).toNatClampNeg) - (2 : Int32)).toInt64) hx hb dX4_command_214 rfl ?_
    have hPc := hP.sub (ws' := ([] : va_W)) [] rfl
    have hDc := hD.sub (ws' := ([] : va_W)) [] (by decide) rfl
    refine z_calli (va_runS (As := [.long x2.toInt64, .long (0 : Int64), .long (((M 3 (0 : Int32).toNatClampNeg) - (2 : Int32)).toInt64)]) (rest := []) ⟨hx, hb, hml, hown, hts⟩ (c_X4_in l D cs  H.size x2.toInt64 (0 : Int64) (((M 3 (0 : Int32).toNatClampNeg) - (2 : Int32)).toInt64) _ hw) (va_cwS 3 hts gX4_command_X4_in rfl rfl rfl (by decide +kernel) ⟨Nat.le_of_ble_eq_true rfl, Nat.le_of_ble_eq_true rfl⟩) (PC_S hPc hDc hKK) rfl rfl hl.1 rfl (lv_room (Nat.le_of_ble_eq_true rfl)) dX4_command_215 ⟨Nat.le_of_ble_eq_true rfl, Nat.le_of_ble_eq_true rfl⟩) (fun r32 hw => ?_)
    obtain ⟨b32, hw⟩ := hw
    refine lv_if_eq (tgt := 251) hx hb dX4_command_218 (by decide) (fun c33 => ?_) (fun c33 => ?_)
    · have hw := hw.1 c33
      refine lv_iconst (v := (0 : Int32)) hx hb dX4_command_251 (by decide) ?_
      exact W.zret (v := (0 : Int32)) hx hb hr rfl (fun t ht hW => ⟨⟨(0 : Int32), (M), rfl, ⟨Or.inl rfl, hw⟩, by rw [ht]; exact hP, hD⟩, hS.F ht⟩) hS.2.2 dX4_command_252 hlocks
    · have hw := hw.2 c33
      refine lv_iload_n hx hb dX4_command_221 rfl (lv_at hl 4 rfl) ?_
      refine lv_iconst (v := (2 : Int32)) hx hb dX4_command_222 (by decide) ?_
      refine lv_icmp_ge (tgt := 251) hx hb dX4_command_223 (by decide) (fun c34 => ?_) (fun c34 => ?_)
      · have hw := hw.1 c34
        refine lv_iconst (v := (0 : Int32)) hx hb dX4_command_251 (by decide) ?_
        exact W.zret (v := (0 : Int32)) hx hb hr rfl (fun t ht hW => ⟨⟨(0 : Int32), (M), rfl, ⟨Or.inl rfl, hw⟩, by rw [ht]; exact hP, hD⟩, hS.F ht⟩) hS.2.2 dX4_command_252 hlocks
      · have hw := hw.2 c34
        refine lv_aload_n hx hb dX4_command_226 rfl (lv_at hl 1 rfl) ?_
        refine va_get (D := D) (ci := 4) (v := .ref (q 3)) (C := RX4) (T := TX4) (N := 11) hx hb hts (h_X4_X4_command) hown hK hP 0 rfl rfl 4 (by decide) (z_w hts 1 rfl) (fun _ h9 => h9) rfl dX4_command_227 ?_
        refine lv_iload_n hx hb dX4_command_230 rfl (lv_at hl 3 rfl) ?_
        refine lv_iload_n hx hb dX4_command_231 rfl (lv_at hl 4 rfl) ?_
        refine lv_iconst (v := (1 : Int32)) hx hb dX4_command_232 (by decide) ?_
        refine lv_icmp_ne (tgt := 240) hx hb dX4_command_233 (by decide) (fun c35 => ?_) (fun c35 => ?_)
        · have hw := hw.2 c35
          refine lv_iconst (v := (0 : Int32)) hx hb dX4_command_240 (by decide) ?_
          have hPc := hP.sub (ws' := w_Row cs (q 3) 336 (M 3)) [3] rfl
          have hDc := hD.sub (ws' := w_Row cs (q 3) 336 (M 3)) [3] (by decide) rfl
          have hFc := va_free (wc := w_Row cs (q 3) 336 (M 3)) hD hS hA [3] rfl
          refine va_calli (va_runS (As := [.ref (q 3), .int x2, .int (0 : Int32)]) (rest := []) ⟨hx, hb, hml, hown, hts⟩ (c_X4_linkOn l D cs (q 3) H.size (M 3) x2 (0 : Int32) _ hw) (va_cwS 3 hts gX4_command_X4_linkOn rfl rfl rfl (by decide +kernel) ⟨Nat.le_of_ble_eq_true rfl, Nat.le_of_ble_eq_true rfl⟩) (PC_S hPc hDc hKK) rfl rfl hl.1 rfl (lv_room (Nat.le_of_ble_eq_true rfl)) dX4_command_241 ⟨Nat.le_of_ble_eq_true rfl, Nat.le_of_ble_eq_true rfl⟩) hS (fun q _ h => hFc q h) hFc (fun r36 u36 t H locs ht hvm hw hB hz1 hk1 hS => ?_)
          obtain ⟨hP1, hD1⟩ := hB
          rw [ht] at hP1
          obtain ⟨hP, hD⟩ := va_join (wr := ([0, 1, 2, 4, 5, 6, 7, 8].filterMap (fun i => (w_Mod cs q M)[i]?))) (w1 := w_Row cs (q 3) 336 u36) hP hD [3] [0, 1, 2, 4, 5, 6, 7, 8] rfl rfl (by decide) (by decide) hk1 hFc hP1 hD1
          have hP : va_P D vwCl (w_Mod cs q (zr2 M 3 u36)) H := hP.sub (ws' := w_Mod cs q (zr2 M 3 u36)) [0, 1, 2, 8, 3, 4, 5, 6, 7] rfl
          have hD : va_D A (w_Mod cs q (zr2 M 3 u36)) := hD.sub (ws' := w_Mod cs q (zr2 M 3 u36)) [0, 1, 2, 8, 3, 4, 5, 6, 7] (by decide) rfl
          refine lv_if_lt (tgt := 251) hx hb dX4_command_244 (by decide) (fun c37 => ?_) (fun c37 => ?_)
          · have hw := hw.1 c37
            refine lv_iconst (v := (0 : Int32)) hx hb dX4_command_251 (by decide) ?_
            exact W.zret (v := (0 : Int32)) hx hb hr rfl (fun t ht hW => ⟨⟨(0 : Int32), (zr2 M 3 u36), rfl, ⟨Or.inl rfl, hw⟩, by rw [ht]; exact hP, hD⟩, hS.F ht⟩) hS.2.2 dX4_command_252 hlocks
          · have hw := hw.2 c37
            refine lv_iconst (v := (1 : Int32)) hx hb dX4_command_247 (by decide) ?_
            refine lv_goto (tgt := 252) hx hb dX4_command_248 (by decide) ?_
            exact W.zret (v := (1 : Int32)) hx hb hr rfl (fun t ht hW => ⟨⟨(1 : Int32), (zr2 M 3 u36), rfl, ⟨Or.inr rfl, hw⟩, by rw [ht]; exact hP, hD⟩, hS.F ht⟩) hS.2.2 dX4_command_252 hlocks
        · have hw := hw.1 c35
          refine lv_iconst (v := (1 : Int32)) hx hb dX4_command_236 (by decide) ?_
          refine lv_goto (tgt := 241) hx hb dX4_command_237 (by decide) ?_
          have hPc := hP.sub (ws' := w_Row cs (q 3) 336 (M 3)) [3] rfl
          have hDc := hD.sub (ws' := w_Row cs (q 3) 336 (M 3)) [3] (by decide) rfl
          have hFc := va_free (wc := w_Row cs (q 3) 336 (M 3)) hD hS hA [3] rfl
          refine va_calli (va_runS (As := [.ref (q 3), .int x2, .int (1 : Int32)]) (rest := []) ⟨hx, hb, hml, hown, hts⟩ (c_X4_linkOn l D cs (q 3) H.size (M 3) x2 (1 : Int32) _ hw) (va_cwS 3 hts gX4_command_X4_linkOn rfl rfl rfl (by decide +kernel) ⟨Nat.le_of_ble_eq_true rfl, Nat.le_of_ble_eq_true rfl⟩) (PC_S hPc hDc hKK) rfl rfl hl.1 rfl (lv_room (Nat.le_of_ble_eq_true rfl)) dX4_command_241 ⟨Nat.le_of_ble_eq_true rfl, Nat.le_of_ble_eq_true rfl⟩) hS (fun q _ h => hFc q h) hFc (fun r38 u38 t H locs ht hvm hw hB hz1 hk1 hS => ?_)
          obtain ⟨hP1, hD1⟩ := hB
          rw [ht] at hP1
          obtain ⟨hP, hD⟩ := va_join (wr := ([0, 1, 2, 4, 5, 6, 7, 8].filterMap (fun i => (w_Mod cs q M)[i]?))) (w1 := w_Row cs (q 3) 336 u38) hP hD [3] [0, 1, 2, 4, 5, 6, 7, 8] rfl rfl (by decide) (by decide) hk1 hFc hP1 hD1
          have hP : va_P D vwCl (w_Mod cs q (zr2 M 3 u38)) H := hP.sub (ws' := w_Mod cs q (zr2 M 3 u38)) [0, 1, 2, 8, 3, 4, 5, 6, 7] rfl
          have hD : va_D A (w_Mod cs q (zr2 M 3 u38)) := hD.sub (ws' := w_Mod cs q (zr2 M 3 u38)) [0, 1, 2, 8, 3, 4, 5, 6, 7] (by decide) rfl
          refine lv_if_lt (tgt := 251) hx hb dX4_command_244 (by decide) (fun c39 => ?_) (fun c39 => ?_)
          · have hw := hw.1 c39
            refine lv_iconst (v := (0 : Int32)) hx hb dX4_command_251 (by decide) ?_
            exact W.zret (v := (0 : Int32)) hx hb hr rfl (fun t ht hW => ⟨⟨(0 : Int32), (zr2 M 3 u38), rfl, ⟨Or.inl rfl, hw⟩, by rw [ht]; exact hP, hD⟩, hS.F ht⟩) hS.2.2 dX4_command_252 hlocks
          · have hw := hw.2 c39
            refine lv_iconst (v := (1 : Int32)) hx hb dX4_command_247 (by decide) ?_
            refine lv_goto (tgt := 252) hx hb dX4_command_248 (by decide) ?_
            exact W.zret (v := (1 : Int32)) hx hb hr rfl (fun t ht hW => ⟨⟨(1 : Int32), (zr2 M 3 u38), rfl, ⟨Or.inr rfl, hw⟩, by rw [ht]; exact hP, hD⟩, hS.F ht⟩) hS.2.2 dX4_command_252 hlocks
  have hw := hw.2 c2_5
  by_cases c2_6 : x1 = 7
  · have hw := hw.1 c2_6
    refine lv_tableIn (off := 242) (tgt := 253) hx hb dX4_command_11 (by rw [c2_6]; decide) (by rw [c2_6]; decide) (by rw [c2_6]; rfl) (by decide) ?_
    refine lv_iload hx hb dX4_command_253 (lv_at hl 0 rfl) ?_
    refine lv_if_eq (tgt := 274) hx hb dX4_command_255 (by decide) (fun c40 => ?_) (fun c40 => ?_)
    · have hw := hw.1 c40
      refine lv_iconst (v := (0 : Int32)) hx hb dX4_command_274 (by decide) ?_
      exact W.zret (v := (0 : Int32)) hx hb hr rfl (fun t ht hW => ⟨⟨(0 : Int32), (M), rfl, ⟨Or.inl rfl, hw⟩, by rw [ht]; exact hP, hD⟩, hS.F ht⟩) hS.2.2 dX4_command_275 hlocks
    · have hw := hw.2 c40
      refine lv_aload_n hx hb dX4_command_258 rfl (lv_at hl 1 rfl) ?_
      refine va_get (D := D) (ci := 4) (v := .ref (q 3)) (C := RX4) (T := TX4) (N := 11) hx hb hts (h_X4_X4_command) hown hK hP 0 rfl rfl 4 (by decide) (z_w hts 1 rfl) (fun _ h9 => h9) rfl dX4_command_259 ?_
      refine lv_iload_n hx hb dX4_command_262 rfl (lv_at hl 3 rfl) ?_
      have hPc := hP.sub (ws' := w_Row cs (q 3) 336 (M 3)) [3] rfl
      have hDc := hD.sub (ws' := w_Row cs (q 3) 336 (M 3)) [3] (by decide) rfl
      refine z_calli (va_runS (As := [.ref (q 3), .int x2]) (rest := []) ⟨hx, hb, hml, hown, hts⟩ (c_X4_shownOn l D cs (q 3) H.size (M 3) x2 _ hw) (va_cwS 2 hts gX4_command_X4_shownOn rfl rfl rfl (by decide +kernel) ⟨Nat.le_of_ble_eq_true rfl, Nat.le_of_ble_eq_true rfl⟩) (PC_S hPc hDc hKK) rfl rfl hl.1 rfl (lv_room (Nat.le_of_ble_eq_true rfl)) dX4_command_263 ⟨Nat.le_of_ble_eq_true rfl, Nat.le_of_ble_eq_true rfl⟩) (fun r41 hw => ?_)
      refine lv_iload_n hx hb dX4_command_266 rfl (lv_at hl 4 rfl) ?_
      refine lv_icmp_ne (tgt := 274) hx hb dX4_command_267 (by decide) (fun c42 => ?_) (fun c42 => ?_)
      · have hw := hw.2 c42
        refine lv_iconst (v := (0 : Int32)) hx hb dX4_command_274 (by decide) ?_
        exact W.zret (v := (0 : Int32)) hx hb hr rfl (fun t ht hW => ⟨⟨(0 : Int32), (M), rfl, ⟨Or.inl rfl, hw⟩, by rw [ht]; exact hP, hD⟩, hS.F ht⟩) hS.2.2 dX4_command_275 hlocks
      · have hw := hw.1 c42
        refine lv_iconst (v := (1 : Int32)) hx hb dX4_command_270 (by decide) ?_
        refine lv_goto (tgt := 275) hx hb dX4_command_271 (by decide) ?_
        exact W.zret (v := (1 : Int32)) hx hb hr rfl (fun t ht hW => ⟨⟨(1 : Int32), (M), rfl, ⟨Or.inr rfl, hw⟩, by rw [ht]; exact hP, hD⟩, hS.F ht⟩) hS.2.2 dX4_command_275 hlocks
  have hw := hw.2 c2_6
  by_cases c2_7 : x1 = 8
  · have hw := hw.1 c2_7
    refine lv_tableIn (off := 265) (tgt := 276) hx hb dX4_command_11 (by rw [c2_7]; decide) (by rw [c2_7]; decide) (by rw [c2_7]; rfl) (by decide) ?_
    refine lv_iload hx hb dX4_command_276 (lv_at hl 0 rfl) ?_
    refine lv_if_eq (tgt := 319) hx hb dX4_command_278 (by decide) (fun c43 => ?_) (fun c43 => ?_)
    · have hw := hw.1 c43
      refine lv_iconst (v := (0 : Int32)) hx hb dX4_command_319 (by decide) ?_
      exact W.zret (v := (0 : Int32)) hx hb hr rfl (fun t ht hW => ⟨⟨(0 : Int32), (M), rfl, ⟨Or.inl rfl, hw⟩, by rw [ht]; exact hP, hD⟩, hS.F ht⟩) hS.2.2 dX4_command_320 hlocks
    · have hw := hw.2 c43
      refine lv_iload_n hx hb dX4_command_281 rfl (lv_at hl 4 rfl) ?_
      refine lv_iconst (v := (2 : Int32)) hx hb dX4_command_282 (by decide) ?_
      refine lv_icmp_ge (tgt := 319) hx hb dX4_command_283 (by decide) (fun c44 => ?_) (fun c44 => ?_)
      · have hw := hw.1 c44
        refine lv_iconst (v := (0 : Int32)) hx hb dX4_command_319 (by decide) ?_
        exact W.zret (v := (0 : Int32)) hx hb hr rfl (fun t ht hW => ⟨⟨(0 : Int32), (M), rfl, ⟨Or.inl rfl, hw⟩, by rw [ht]; exact hP, hD⟩, hS.F ht⟩) hS.2.2 dX4_command_320 hlocks
      · have hw := hw.2 c44
        refine lv_aload_n hx hb dX4_command_286 rfl (lv_at hl 1 rfl) ?_
        refine va_get (D := D) (ci := 4) (v := .ref (q 3)) (C := RX4) (T := TX4) (N := 11) hx hb hts (h_X4_X4_command) hown hK hP 0 rfl rfl 4 (by decide) (z_w hts 1 rfl) (fun _ h9 => h9) rfl dX4_command_287 ?_
        refine lv_iload_n hx hb dX4_command_290 rfl (lv_at hl 3 rfl) ?_
        have hPc := hP.sub (ws' := w_Row cs (q 3) 336 (M 3)) [3] rfl
        have hDc := hD.sub (ws' := w_Row cs (q 3) 336 (M 3)) [3] (by decide) rfl
        refine z_calli (va_runS (As := [.ref (q 3), .int x2]) (rest := []) ⟨hx, hb, hml, hown, hts⟩ (c_X4_waitsOn l D cs (q 3) H.size (M 3) x2 _ hw) (va_cwS 2 hts gX4_command_X4_waitsOn rfl rfl rfl (by decide +kernel) ⟨Nat.le_of_ble_eq_true rfl, Nat.le_of_ble_eq_true rfl⟩) (PC_S hPc hDc hKK) rfl rfl hl.1 rfl (lv_room (Nat.le_of_ble_eq_true rfl)) dX4_command_291 ⟨Nat.le_of_ble_eq_true rfl, Nat.le_of_ble_eq_true rfl⟩) (fun r45 hw => ?_)
        refine lv_if_ne (tgt := 301) hx hb dX4_command_294 (by decide) (fun c46 => ?_) (fun c46 => ?_)
        · have hw := hw.2 c46
          refine lv_iconst (v := (0 : Int32)) hx hb dX4_command_301 (by decide) ?_
          refine lv_iload_n hx hb dX4_command_302 rfl (lv_at hl 4 rfl) ?_
          refine lv_iconst (v := (1 : Int32)) hx hb dX4_command_303 (by decide) ?_
          refine lv_icmp_ne (tgt := 311) hx hb dX4_command_304 (by decide) (fun c47 => ?_) (fun c47 => ?_)
          · have hw := hw.2 c47
            refine lv_iconst (v := (0 : Int32)) hx hb dX4_command_311 (by decide) ?_
            refine lv_icmp_ne (tgt := 319) hx hb dX4_command_312 (by decide) (fun c48 => absurd c48 (by decide)) (fun _ => ?_)
            refine lv_iconst (v := (1 : Int32)) hx hb dX4_command_315 (by decide) ?_
            refine lv_goto (tgt := 320) hx hb dX4_command_316 (by decide) ?_
            exact W.zret (v := (1 : Int32)) hx hb hr rfl (fun t ht hW => ⟨⟨(1 : Int32), (M), rfl, ⟨Or.inr rfl, hw⟩, by rw [ht]; exact hP, hD⟩, hS.F ht⟩) hS.2.2 dX4_command_320 hlocks
          · have hw := hw.1 c47
            refine lv_iconst (v := (1 : Int32)) hx hb dX4_command_307 (by decide) ?_
            refine lv_goto (tgt := 312) hx hb dX4_command_308 (by decide) ?_
            refine lv_icmp_ne (tgt := 319) hx hb dX4_command_312 (by decide) (fun _ => ?_) (fun c49 => absurd c49 (by decide))
            refine lv_iconst (v := (0 : Int32)) hx hb dX4_command_319 (by decide) ?_
            exact W.zret (v := (0 : Int32)) hx hb hr rfl (fun t ht hW => ⟨⟨(0 : Int32), (M), rfl, ⟨Or.inl rfl, hw⟩, by rw [ht]; exact hP, hD⟩, hS.F ht⟩) hS.2.2 dX4_command_320 hlocks
        · have hw := hw.1 c46
          refine lv_iconst (v := (1 : Int32)) hx hb dX4_command_297 (by decide) ?_
          refine lv_goto (tgt := 302) hx hb dX4_command_298 (by decide) ?_
          refine lv_iload_n hx hb dX4_command_302 rfl (lv_at hl 4 rfl) ?_
          refine lv_iconst (v := (1 : Int32)) hx hb dX4_command_303 (by decide) ?_
          refine lv_icmp_ne (tgt := 311) hx hb dX4_command_304 (by decide) (fun c50 => ?_) (fun c50 => ?_)
          · have hw := hw.2 c50
            refine lv_iconst (v := (0 : Int32)) hx hb dX4_command_311 (by decide) ?_
            refine lv_icmp_ne (tgt := 319) hx hb dX4_command_312 (by decide) (fun _ => ?_) (fun c51 => absurd c51 (by decide))
            refine lv_iconst (v := (0 : Int32)) hx hb dX4_command_319 (by decide) ?_
            exact W.zret (v := (0 : Int32)) hx hb hr rfl (fun t ht hW => ⟨⟨(0 : Int32), (M), rfl, ⟨Or.inl rfl, hw⟩, by rw [ht]; exact hP, hD⟩, hS.F ht⟩) hS.2.2 dX4_command_320 hlocks
          · have hw := hw.1 c50
            refine lv_iconst (v := (1 : Int32)) hx hb dX4_command_307 (by decide) ?_
            refine lv_goto (tgt := 312) hx hb dX4_command_308 (by decide) ?_
            refine lv_icmp_ne (tgt := 319) hx hb dX4_command_312 (by decide) (fun c52 => absurd c52 (by decide)) (fun _ => ?_)
            refine lv_iconst (v := (1 : Int32)) hx hb dX4_command_315 (by decide) ?_
            refine lv_goto (tgt := 320) hx hb dX4_command_316 (by decide) ?_
            exact W.zret (v := (1 : Int32)) hx hb hr rfl (fun t ht hW => ⟨⟨(1 : Int32), (M), rfl, ⟨Or.inr rfl, hw⟩, by rw [ht]; exact hP, hD⟩, hS.F ht⟩) hS.2.2 dX4_command_320 hlocks
  have hw := hw.2 c2_7
  by_cases c2_8 : x1 = 9
  · have hw := hw.1 c2_8
    refine lv_tableIn (off := 310) (tgt := 321) hx hb dX4_command_11 (by rw [c2_8]; decide) (by rw [c2_8]; decide) (by rw [c2_8]; rfl) (by decide) ?_
    refine lv_iload hx hb dX4_command_321 (lv_at hl 0 rfl) ?_
    refine lv_if_eq (tgt := 377) hx hb dX4_command_323 (by decide) (fun c53 => ?_) (fun c53 => ?_)
    · have hw := hw.1 c53
      refine lv_iconst (v := (0 : Int32)) hx hb dX4_command_377 (by decide) ?_
      exact W.zret (v := (0 : Int32)) hx hb hr rfl (fun t ht hW => ⟨⟨(0 : Int32), (M), rfl, ⟨Or.inl rfl, hw⟩, by rw [ht]; exact hP, hD⟩, hS.F ht⟩) hS.2.2 dX4_command_378 hlocks
    · have hw := hw.2 c53
      refine lv_iload_n hx hb dX4_command_326 rfl (lv_at hl 4 rfl) ?_
      refine lv_sipush (v := (1000 : Int32)) hx hb dX4_command_327 (by decide) ?_
      refine lv_irem hx hb dX4_command_330 (by decide) ?_
      refine lv_if_ne (tgt := 377) hx hb dX4_command_331 (by decide) (fun c54 => ?_) (fun c54 => ?_)
      · have hw := hw.2 c54
        refine lv_iconst (v := (0 : Int32)) hx hb dX4_command_377 (by decide) ?_
        exact W.zret (v := (0 : Int32)) hx hb hr rfl (fun t ht hW => ⟨⟨(0 : Int32), (M), rfl, ⟨Or.inl rfl, hw⟩, by rw [ht]; exact hP, hD⟩, hS.F ht⟩) hS.2.2 dX4_command_378 hlocks
      · have hw := hw.1 c54
        refine lv_aload_n hx hb dX4_command_334 rfl (lv_at hl 1 rfl) ?_
        refine va_get (D := D) (ci := 4) (v := .ref (q 3)) (C := RX4) (T := TX4) (N := 11) hx hb hts (h_X4_X4_command) hown hK hP 0 rfl rfl 4 (by decide) (z_w hts 1 rfl) (fun _ h9 => h9) rfl dX4_command_335 ?_
        refine lv_iload_n hx hb dX4_command_338 rfl (lv_at hl 4 rfl) ?_
        refine lv_sipush (v := (1000 : Int32)) hx hb dX4_command_339 (by decide) ?_
        refine lv_idiv hx hb dX4_command_342 (by decide) ?_
        have hPc := hP.sub (ws' := w_Row cs (q 3) 336 (M 3)) [3] rfl
        have hDc := hD.sub (ws' := w_Row cs (q 3) 336 (M 3)) [3] (by decide) rfl
        refine z_calli (va_runS (As := [.ref (q 3), .int (x3 / (1000 : Int32))]) (rest := []) ⟨hx, hb, hml, hown, hts⟩ (c_X4_isCounter l D cs (q 3) H.size (M 3) (x3 / (1000 : Int32)) _ hw) (va_cwS 2 hts gX4_command_X4_isCounter rfl rfl rfl (by decide +kernel) ⟨Nat.le_of_ble_eq_true rfl, Nat.le_of_ble_eq_true rfl⟩) (PC_S hPc hDc hKK) rfl rfl hl.1 rfl (lv_room (Nat.le_of_ble_eq_true rfl)) dX4_command_343 ⟨Nat.le_of_ble_eq_true rfl, Nat.le_of_ble_eq_true rfl⟩) (fun r55 hw => ?_)
        obtain ⟨b55, hw⟩ := hw
        refine lv_if_eq (tgt := 377) hx hb dX4_command_346 (by decide) (fun c56 => ?_) (fun c56 => ?_)
        · have hw := hw.1 c56
          refine lv_iconst (v := (0 : Int32)) hx hb dX4_command_377 (by decide) ?_
          exact W.zret (v := (0 : Int32)) hx hb hr rfl (fun t ht hW => ⟨⟨(0 : Int32), (M), rfl, ⟨Or.inl rfl, hw⟩, by rw [ht]; exact hP, hD⟩, hS.F ht⟩) hS.2.2 dX4_command_378 hlocks
        · have hw := hw.2 c56
          refine lv_aload_n hx hb dX4_command_349 rfl (lv_at hl 1 rfl) ?_
          refine va_get (D := D) (ci := 4) (v := .ref (q 3)) (C := RX4) (T := TX4) (N := 11) hx hb hts (h_X4_X4_command) hown hK hP 0 rfl rfl 4 (by decide) (z_w hts 1 rfl) (fun _ h9 => h9) rfl dX4_command_350 ?_
          refine lv_iload_n hx hb dX4_command_353 rfl (lv_at hl 3 rfl) ?_
          have hPc := hP.sub (ws' := w_Row cs (q 3) 336 (M 3)) [3] rfl
          have hDc := hD.sub (ws' := w_Row cs (q 3) 336 (M 3)) [3] (by decide) rfl
          refine z_calll (va_runS (As := [.ref (q 3), .int x2]) (rest := []) ⟨hx, hb, hml, hown, hts⟩ (c_X4_worthOn l D cs (q 3) H.size (M 3) x2 _ hw) (va_cwS 2 hts gX4_command_X4_worthOn rfl rfl rfl (by decide +kernel) ⟨Nat.le_of_ble_eq_true rfl, Nat.le_of_ble_eq_true rfl⟩) (PC_S hPc hDc hKK) rfl rfl hl.1 rfl (lv_room (Nat.le_of_ble_eq_true rfl)) dX4_command_354 ⟨Nat.le_of_ble_eq_true rfl, Nat.le_of_ble_eq_true rfl⟩) (fun r57 hw => ?_)
          refine lv_aload_n hx hb dX4_command_357 rfl (lv_at hl 1 rfl) ?_
          refine va_get (D := D) (ci := 4) (v := .ref (q 3)) (C := RX4) (T := TX4) (N := 11) hx hb hts (h_X4_X4_command) hown hK hP 0 rfl rfl 4 (by decide) (z_w hts 1 rfl) (fun _ h9 => h9) rfl dX4_command_358 ?_
          refine lv_iload_n hx hb dX4_command_361 rfl (lv_at hl 4 rfl) ?_
          refine lv_sipush (v := (1000 : Int32)) hx hb dX4_command_362 (by decide) ?_
          refine lv_idiv hx hb dX4_command_365 (by decide) ?_
          have hPc := hP.sub (ws' := w_Row cs (q 3) 336 (M 3)) [3] rfl
          have hDc := hD.sub (ws' := w_Row cs (q 3) 336 (M 3)) [3] (by decide) rfl
          refine z_calll (va_runS (As := [.ref (q 3), .int (x3 / (1000 : Int32))]) (rest := [.long r57]) ⟨hx, hb, hml, hown, hts⟩ (c_X4_worthOn l D cs (q 3) H.size (M 3) (x3 / (1000 : Int32)) _ hw) (va_cwS 2 hts gX4_command_X4_worthOn rfl rfl rfl (by decide +kernel) ⟨Nat.le_of_ble_eq_true rfl, Nat.le_of_ble_eq_true rfl⟩) (PC_S hPc hDc hKK) rfl rfl hl.1 rfl (lv_room (Nat.le_of_ble_eq_true rfl)) dX4_command_366 ⟨Nat.le_of_ble_eq_true rfl, Nat.le_of_ble_eq_true rfl⟩) (fun r58 hw => ?_)
          refine W.lcmp hx hb dX4_command_369 ?_
          refine lv_if_le (tgt := 377) hx hb dX4_command_370 (by decide) (fun c59 => ?_) (fun c59 => ?_)
          · have hw := hw.1 c59
            refine lv_iconst (v := (0 : Int32)) hx hb dX4_command_377 (by decide) ?_
            exact W.zret (v := (0 : Int32)) hx hb hr rfl (fun t ht hW => ⟨⟨(0 : Int32), (M), rfl, ⟨Or.inl rfl, hw⟩, by rw [ht]; exact hP, hD⟩, hS.F ht⟩) hS.2.2 dX4_command_378 hlocks
          · have hw := hw.2 c59
            refine lv_iconst (v := (1 : Int32)) hx hb dX4_command_373 (by decide) ?_
            refine lv_goto (tgt := 378) hx hb dX4_command_374 (by decide) ?_
            exact W.zret (v := (1 : Int32)) hx hb hr rfl (fun t ht hW => ⟨⟨(1 : Int32), (M), rfl, ⟨Or.inr rfl, hw⟩, by rw [ht]; exact hP, hD⟩, hS.F ht⟩) hS.2.2 dX4_command_378 hlocks
  have hw := hw.2 c2_8
  have e2_0 : ¬ (x1).toInt = 1 := fun h => c2_0 (Int32.toInt_inj.mp h)
  have e2_1 : ¬ (x1).toInt = 2 := fun h => c2_1 (Int32.toInt_inj.mp h)
  have e2_2 : ¬ (x1).toInt = 3 := fun h => c2_2 (Int32.toInt_inj.mp h)
  have e2_3 : ¬ (x1).toInt = 4 := fun h => c2_3 (Int32.toInt_inj.mp h)
  have e2_4 : ¬ (x1).toInt = 5 := fun h => c2_4 (Int32.toInt_inj.mp h)
  have e2_5 : ¬ (x1).toInt = 6 := fun h => c2_5 (Int32.toInt_inj.mp h)
  have e2_6 : ¬ (x1).toInt = 7 := fun h => c2_6 (Int32.toInt_inj.mp h)
  have e2_7 : ¬ (x1).toInt = 8 := fun h => c2_7 (Int32.toInt_inj.mp h)
  have e2_8 : ¬ (x1).toInt = 9 := fun h => c2_8 (Int32.toInt_inj.mp h)
  refine lv_tableOut (tgt := 379) hx hb dX4_command_11 (by omega) (by decide) ?_
  refine lv_iconst (v := (0 : Int32)) hx hb dX4_command_379 (by decide) ?_
  exact W.zret (v := (0 : Int32)) hx hb hr rfl (fun t ht hW => ⟨⟨(0 : Int32), (M), rfl, ⟨Or.inl rfl, hw⟩, by rw [ht]; exact hP, hD⟩, hS.F ht⟩) hS.2.2 dX4_command_380 hlocks
set_option maxHeartbeats 4000000 in
set_option maxRecDepth 100000 in
theorem c_X4_command (l : Launch) (D : va_G) (cs : Nat → ClassId) (q : Nat → Nat) (sz : Nat) (M : MS) (x1 : Int32) (x2 : Int32) (x3 : Int32) (Q : Int32 → MS → Prop) (hw : wp_X4_command M x1 x2 x3 Q) : Met l yX4_command wsX4_command ({ frames := 4, cells := 0, slots := 0, locals := 88 } : Room) (va_Pc [.ref (q 0), .int x1, .int x2, .int x3] (PC D cs (w_Mod cs q M) sz)) (va_Qi (fun r (u : MS) => (r = 0 ∨ r = 1) ∧ Q r u) (fun (u : MS) t => va_P D vwCl (w_Mod cs q u) t.heap ∧ va_D (va_A (w_Mod cs q M) sz) (w_Mod cs q u)) (va_A (w_Mod cs q M) sz)) 0 0 (va_A (w_Mod cs q M) sz) := by
  refine Met.ofW (cc := cX4_command) (maxL := 5) (ret := (some .boolean)) (by decide) rfl ?_
  intro p e s m args below meth c s₁ B hml hv
  obtain ⟨rfl, hsz, hP, hKK, hD0⟩ := hv
  have hC : MAt p s m _ meth c RX4 cX4_command 5 (some .boolean) wsX4_command D cs := ⟨B.exec, B.bytes, B.returns, hml, findClass_of_methodNamed B.named, atoms_spec (ws := wsX4_command) B.pre, B.notSynchronized, hKK⟩
  have hl := lv_entry ([.ref (q 0), .int x1, .int x2, .int x3]) (n := 5) (Nat.le_of_ble_eq_true rfl)
  rw [lg_entry_eq]
  generalize (lg_sl ([.ref (q 0), .int x1, .int x2, .int x3]) ++ List.replicate (5 - (lg_sl ([.ref (q 0), .int x1, .int x2, .int x3])).length) Slot.unset).toArray = ls at hl ⊢
  subst hsz
  have hD := hD0.self (sz := s.heap.size)
  have hA : ∀ z : Nat, s.heap.size ≤ z → va_A (w_Mod cs q M) s.heap.size z := fun z h => Or.inr h
  exact t_X4_command hC q M x1 x2 x3 Q hA hw s.heap [] hP hD va_S.rf ls hl
theorem h_X4_X4_runScript : ∀ w ∈ u_ws RX4 TX4 11, w ∈ wsX4_runScript := fun _ h => List.mem_cons_of_mem _ (List.mem_append_right _ h)
set_option maxHeartbeats 4000000 in
set_option maxRecDepth 100000 in
theorem t_X4_runScript_6 {p : Program} {l : Launch} {e : Env} {s : State} {m : MethodId} {args : Array Value} {below : List Frame} {meth : Method} {c : Code} {D : va_G} {cs : Nat → ClassId} {A : Nat → Prop} (hC : MAt p s m args meth c RX4 cX4_runScript 8 (some .int) wsX4_runScript D cs) (q : Nat → Nat) (M : MS) (x1 : Int32) (x2 : Int64) (Q : Int32 → MS → Prop) (E32 : Int64 → Prop) (hA : ∀ q : Nat, s.heap.size ≤ q → A q) (hE32 : ∀ (x4 : Int64) , E32 x4 → ∀ (H : Heap) (locs : List Loc), va_P D vwCl (w_Mod cs q M) H → va_D A (w_Mod cs q M) → va_S A s.heap H locs → ∀ ls : Array Slot, lv_has ls 8 [(0, .ref (q 0)), (1, .int x1), (2, .long x2), (4, .long x4)] → W p l e ({ frames := 5, cells := 0, slots := 0, locals := 112 } : Room) s m args below meth c H locs 0 0 (MQ below (va_Qi (fun r (u : MS) => Q r u) (fun (u : MS) t => va_P D vwCl (w_Mod cs q u) t.heap ∧ va_D A (w_Mod cs q u)) A) args s 0 0 A) (F0 m 32 ls [])) : ∀ (n : Nat) (x4 : Int64) (x6 : Int32), wl_X4_runScript_6 M x1 x2 Q E32 n x4 x6 → ∀ (H : Heap) (locs : List Loc), va_P D vwCl (w_Mod cs q M) H → va_D A (w_Mod cs q M) → va_S A s.heap H locs → ∀ ls : Array Slot, lv_has ls 8 [(0, .ref (q 0)), (1, .int x1), (2, .long x2), (4, .long x4), (6, .int x6)] → W p l e ({ frames := 5, cells := 0, slots := 0, locals := 112 } : Room) s m args below meth c H locs 0 0 (MQ below (va_Qi (fun r (u : MS) => Q r u) (fun (u : MS) t => va_P D vwCl (w_Mod cs q u) t.heap ∧ va_D A (w_Mod cs q u)) A) args s 0 0 A) (F0 m 6 ls []) := by
  obtain ⟨hx, hb, hr, hml, hown, hts, hlocks, hKK⟩ := id hC
  have hK := hKK.1
  intro n
  induction n with
  | zero =>
    intro x4 x6 hw
    exact False.elim hw
  | succ n ih =>
    intro x4 x6 hw H locs hP hD hS ls hl
    refine lv_iload hx hb dX4_runScript_6 (lv_at hl 4 rfl) ?_
    refine lv_iload_n hx hb dX4_runScript_8 rfl (lv_at hl 1 rfl) ?_
    refine lv_icmp_ge (tgt := 32) hx hb dX4_runScript_9 (by decide) (fun c1 => ?_) (fun c1 => ?_)
    · have hw := hw.1 c1
      exact hE32 _ hw _ _ hP hD hS ls (lv_sub hl [0, 1, 2, 3] rfl)
    · have hw := hw.2 c1
      refine lv_iload hx hb dX4_runScript_12 (lv_at hl 4 rfl) ?_
      refine lv_iconst (v := (3 : Int32)) hx hb dX4_runScript_14 (by decide) ?_
      refine lv_icmp_ge (tgt := 32) hx hb dX4_runScript_15 (by decide) (fun c2 => ?_) (fun c2 => ?_)
      · have hw := hw.1 c2
        exact hE32 _ hw _ _ hP hD hS ls (lv_sub hl [0, 1, 2, 3] rfl)
      · have hw := hw.2 c2
        refine lv_lload hx hb dX4_runScript_18 (lv_at hl 3 rfl) ?_
        refine lv_ldc2 (v := (1000000 : Int64)) hx hb hown (z_w hts 1 (w := .constantLong RX4 175 (1000000)) rfl) dX4_runScript_20 ?_
        refine lv_lmul hx hb dX4_runScript_23 ?_
        refine lv_lstore (lv' := [(4, .long (x4 * (1000000 : Int64))), (0, .ref (q 0)), (1, .int x1), (2, .long x2), (6, .int x6)]) hx hb dX4_runScript_24 hl (by decide) rfl (fun ls hl => ?_)
        refine lv_iinc (v := x6 + 1) (lv' := [(6, .int (x6 + 1)), (4, .long (x4 * (1000000 : Int64))), (0, .ref (q 0)), (1, .int x1), (2, .long x2)]) hx hb dX4_runScript_26 hl (k := 4) rfl rfl (by decide) rfl (fun ls hl => ?_)
        refine lv_goto (tgt := 6) hx hb dX4_runScript_29 (by decide) ?_
        exact ih _ _ hw H locs hP hD hS ls (lv_sub hl [2, 3, 4, 1, 0] rfl)
set_option maxHeartbeats 4000000 in
set_option maxRecDepth 100000 in
theorem t_X4_runScript_86 {p : Program} {l : Launch} {e : Env} {s : State} {m : MethodId} {args : Array Value} {below : List Frame} {meth : Method} {c : Code} {D : va_G} {cs : Nat → ClassId} {A : Nat → Prop} (hC : MAt p s m args meth c RX4 cX4_runScript 8 (some .int) wsX4_runScript D cs) (q : Nat → Nat) (x1 : Int32) (x2 : Int64) (Q : Int32 → MS → Prop) (hA : ∀ q : Nat, s.heap.size ≤ q → A q) : ∀ (n : Nat) (M : MS) (x4 : Int64) (x6 : Int32), wl_X4_runScript_86 x1 x2 Q n M x4 x6 → ∀ (H : Heap) (locs : List Loc), va_P D vwCl (w_Mod cs q M) H → va_D A (w_Mod cs q M) → va_S A s.heap H locs → ∀ ls : Array Slot, lv_has ls 8 [(0, .ref (q 0)), (1, .int x1), (2, .long x2), (4, .long x4), (6, .int x6)] → W p l e ({ frames := 5, cells := 0, slots := 0, locals := 112 } : Room) s m args below meth c H locs 0 0 (MQ below (va_Qi (fun r (u : MS) => Q r u) (fun (u : MS) t => va_P D vwCl (w_Mod cs q u) t.heap ∧ va_D A (w_Mod cs q u)) A) args s 0 0 A) (F0 m 86 ls []) := by
  obtain ⟨hx, hb, hr, hml, hown, hts, hlocks, hKK⟩ := id hC
  have hK := hKK.1
  intro n
  induction n with
  | zero =>
    intro M x4 x6 hw
    exact False.elim hw
  | succ n ih =>
    intro M x4 x6 hw H locs hP hD hS ls hl
    refine lv_iload hx hb dX4_runScript_86 (lv_at hl 4 rfl) ?_
    refine lv_iload_n hx hb dX4_runScript_88 rfl (lv_at hl 1 rfl) ?_
    refine lv_icmp_ge (tgt := 147) hx hb dX4_runScript_89 (by decide) (fun c9 => ?_) (fun c9 => ?_)
    · have hw := hw.1 c9
      refine lv_iconst (v := (-1 : Int32)) hx hb dX4_runScript_147 (by decide) ?_
      exact W.iret (v := (-1 : Int32)) hx hb hr (fun t ht hW => ⟨⟨(-1 : Int32), (M), rfl, hw, by rw [ht]; exact hP, hD⟩, hS.F ht⟩) hS.2.2 dX4_runScript_148 hlocks
    · have hw := hw.2 c9
      refine lv_lload hx hb dX4_runScript_92 (lv_at hl 3 rfl) ?_
      refine lv_ldc2 (v := (1000000 : Int64)) hx hb hown (z_w hts 1 (w := .constantLong RX4 175 (1000000)) rfl) dX4_runScript_94 ?_
      refine lv_ldiv hx hb dX4_runScript_97 (by decide) ?_
      refine lv_lstore (lv' := [(4, .long (x4 / (1000000 : Int64))), (0, .ref (q 0)), (1, .int x1), (2, .long x2), (6, .int x6)]) hx hb dX4_runScript_98 hl (by decide) rfl (fun ls hl => ?_)
      refine lv_lload_n hx hb dX4_runScript_100 rfl (lv_at hl 3 rfl) ?_
      refine lv_lload hx hb dX4_runScript_101 (lv_at hl 0 rfl) ?_
      obtain ⟨h10, hw⟩ := hw
      refine lv_ldiv hx hb dX4_runScript_103 h10 ?_
      refine lv_ldc2 (v := (1000000 : Int64)) hx hb hown (z_w hts 1 (w := .constantLong RX4 175 (1000000)) rfl) dX4_runScript_104 ?_
      refine lv_lrem hx hb dX4_runScript_107 (by decide) ?_
      refine lv_l2i (v := ((x2 / (x4 / (1000000 : Int64))) - (x2 / (x4 / (1000000 : Int64))) / (1000000 : Int64) * (1000000 : Int64)).toInt32) hx hb dX4_runScript_108 rfl ?_
      refine lv_topi (fun y11 ey11 => ?_)
      have hw := hw y11 ey11
      refine lv_istore (lv' := [(7, .int y11), (4, .long (x4 / (1000000 : Int64))), (0, .ref (q 0)), (1, .int x1), (2, .long x2), (6, .int x6)]) hx hb dX4_runScript_109 hl (by decide) rfl (fun ls hl => ?_)
      refine lv_aload_n hx hb dX4_runScript_111 rfl (lv_at hl 2 rfl) ?_
      refine lv_iload hx hb dX4_runScript_112 (lv_at hl 0 rfl) ?_
      refine lv_ldc hx hb hown (z_w hts 5 (w := .constant RX4 177 (100000)) rfl) dX4_runScript_114 ?_
      refine lv_idiv hx hb dX4_runScript_116 (by decide) ?_
      refine lv_iload hx hb dX4_runScript_117 (lv_at hl 0 rfl) ?_
      refine lv_sipush (v := (10000 : Int32)) hx hb dX4_runScript_119 (by decide) ?_
      refine lv_idiv hx hb dX4_runScript_122 (by decide) ?_
      refine lv_bipush (v := (10 : Int32)) hx hb dX4_runScript_123 (by decide) ?_
      refine lv_irem hx hb dX4_runScript_125 (by decide) ?_
      refine lv_iload hx hb dX4_runScript_126 (lv_at hl 0 rfl) ?_
      refine lv_sipush (v := (10000 : Int32)) hx hb dX4_runScript_128 (by decide) ?_
      refine lv_irem hx hb dX4_runScript_131 (by decide) ?_
      have hFc := va_free (wc := w_Mod cs q M) hD hS hA [0, 1, 2, 3, 4, 5, 6, 7, 8] rfl
      refine va_calli (va_runV (As := [.int (y11 / (100000 : Int32)), .int ((y11 / (10000 : Int32)) - (y11 / (10000 : Int32)) / (10 : Int32) * (10 : Int32)), .int (y11 - y11 / (10000 : Int32) * (10000 : Int32))]) (rest := []) ⟨hx, hb, hml, hown, hts⟩ (c_X4_command l D cs q H.size M (y11 / (100000 : Int32)) ((y11 / (10000 : Int32)) - (y11 / (10000 : Int32)) / (10 : Int32) * (10 : Int32)) (y11 - y11 / (10000 : Int32) * (10000 : Int32)) _ hw) (cwV 3 hts gX4_runScript_X4_command rfl rfl rfl (by decide +kernel) ⟨Nat.le_of_ble_eq_true rfl, Nat.le_of_ble_eq_true rfl⟩) (PC_V hP hD hKK 0 4 rfl rfl) rfl rfl hl.1 rfl (lv_room (Nat.le_of_ble_eq_true rfl)) dX4_runScript_132 ⟨Nat.le_of_ble_eq_true rfl, Nat.le_of_ble_eq_true rfl⟩) hS (fun q _ h => hFc q h) hFc (fun r12 u12 t H locs ht hvm hw hB hz1 hk1 hS => ?_)
      obtain ⟨hP1, hD1⟩ := hB
      rw [ht] at hP1
      obtain ⟨b12, hw⟩ := hw
      have hD : va_D A (w_Mod cs q u12) := hD1.weaken (fun k q _ h => hFc q.1 h)
      have hP : va_P D vwCl (w_Mod cs q u12) H := hP1
      refine lv_if_ne (tgt := 141) hx hb dX4_runScript_135 (by decide) (fun c13 => ?_) (fun c13 => ?_)
      · have hw := hw.2 c13
        refine lv_iinc (v := x6 + 1) (lv' := [(6, .int (x6 + 1)), (7, .int y11), (4, .long (x4 / (1000000 : Int64))), (0, .ref (q 0)), (1, .int x1), (2, .long x2)]) hx hb dX4_runScript_141 hl (k := 5) rfl rfl (by decide) rfl (fun ls hl => ?_)
        refine lv_goto (tgt := 86) hx hb dX4_runScript_144 (by decide) ?_
        exact ih _ _ _ hw _ _ hP hD hS ls (lv_sub hl [3, 4, 5, 2, 0] rfl)
      · have hw := hw.1 c13
        refine lv_iload hx hb dX4_runScript_138 (lv_at hl 5 rfl) ?_
        exact W.iret (v := x6) hx hb hr (fun t ht hW => ⟨⟨x6, (u12), rfl, hw, by rw [ht]; exact hP, hD⟩, hS.F ht⟩) hS.2.2 dX4_runScript_140 hlocks
set_option maxHeartbeats 4000000 in
set_option maxRecDepth 100000 in
theorem t_X4_runScript {p : Program} {l : Launch} {e : Env} {s : State} {m : MethodId} {args : Array Value} {below : List Frame} {meth : Method} {c : Code} {D : va_G} {cs : Nat → ClassId} {A : Nat → Prop} (hC : MAt p s m args meth c RX4 cX4_runScript 8 (some .int) wsX4_runScript D cs) (q : Nat → Nat) (M : MS) (x1 : Int32) (x2 : Int64) (Q : Int32 → MS → Prop) (hA : ∀ q : Nat, s.heap.size ≤ q → A q) (hw : wp_X4_runScript M x1 x2 Q) (H : Heap) (locs : List Loc) (hP : va_P D vwCl (w_Mod cs q M) H) (hD : va_D A (w_Mod cs q M)) (hS : va_S A s.heap H locs) (ls : Array Slot) (hl : lv_has ls 8 [(0, .ref (q 0)), (1, .int x1), (2, .long x2)]) : W p l e ({ frames := 5, cells := 0, slots := 0, locals := 112 } : Room) s m args below meth c H locs 0 0 (MQ below (va_Qi (fun r (u : MS) => Q r u) (fun (u : MS) t => va_P D vwCl (w_Mod cs q u) t.heap ∧ va_D A (w_Mod cs q u)) A) args s 0 0 A) (F0 m 0 ls []) := by
  obtain ⟨hx, hb, hr, hml, hown, hts, hlocks, hKK⟩ := id hC
  have hK := hKK.1
  refine lv_lconst (v := (1 : Int64)) hx hb dX4_runScript_0 (by decide) ?_
  refine lv_lstore (lv' := [(4, .long (1 : Int64)), (0, .ref (q 0)), (1, .int x1), (2, .long x2)]) hx hb dX4_runScript_1 hl (by decide) rfl (fun ls hl => ?_)
  refine lv_iconst (v := (0 : Int32)) hx hb dX4_runScript_3 (by decide) ?_
  refine lv_istore (lv' := [(6, .int (0 : Int32)), (4, .long (1 : Int64)), (0, .ref (q 0)), (1, .int x1), (2, .long x2)]) hx hb dX4_runScript_4 hl (by decide) rfl (fun ls hl => ?_)
  obtain ⟨n25, hw⟩ := hw
  refine t_X4_runScript_6 hC q _ _ _ _ _ hA ?_ n25 _ _ hw H locs hP hD hS ls (lv_sub hl [2, 3, 4, 1, 0] rfl)
  · intro y3 hw H locs hP hD hS ls hl
    refine lv_aload_n hx hb dX4_runScript_32 rfl (lv_at hl 0 rfl) ?_
    refine lv_iload_n hx hb dX4_runScript_33 rfl (lv_at hl 1 rfl) ?_
    refine lv_i2l (v := x1.toInt64) hx hb dX4_runScript_34 rfl ?_
    refine lv_lconst (v := (1 : Int64)) hx hb dX4_runScript_35 (by decide) ?_
    refine lv_ldc2 (v := (3 : Int64)) hx hb hown (z_w hts 2 (w := .constantLong RX4 51 (3)) rfl) dX4_runScript_36 ?_
    have hPc := hP.sub (ws' := ([] : va_W)) [] rfl
    have hDc := hD.sub (ws' := ([] : va_W)) [] (by decide) rfl
    refine z_calli (va_runS (As := [.long x1.toInt64, .long (1 : Int64), .long (3 : Int64)]) (rest := [.ref (q 0)]) ⟨hx, hb, hml, hown, hts⟩ (c_X4_in l D cs  H.size x1.toInt64 (1 : Int64) (3 : Int64) _ hw) (va_cwS 3 hts gX4_runScript_X4_in rfl rfl rfl (by decide +kernel) ⟨Nat.le_of_ble_eq_true rfl, Nat.le_of_ble_eq_true rfl⟩) (PC_S hPc hDc hKK) rfl rfl hl.1 rfl (lv_room (Nat.le_of_ble_eq_true rfl)) dX4_runScript_39 ⟨Nat.le_of_ble_eq_true rfl, Nat.le_of_ble_eq_true rfl⟩) (fun r4 hw => ?_)
    obtain ⟨b4, hw⟩ := hw
    refine lv_if_eq (tgt := 61) hx hb dX4_runScript_42 (by decide) (fun c5 => ?_) (fun c5 => ?_)
    · have hw := hw.1 c5
      refine lv_iconst (v := (1 : Int32)) hx hb dX4_runScript_61 (by decide) ?_
      have hFc := va_free (wc := w_Mod cs q M) hD hS hA [0, 1, 2, 3, 4, 5, 6, 7, 8] rfl
      refine va_calli (va_runV (As := [.int (1 : Int32)]) (rest := []) ⟨hx, hb, hml, hown, hts⟩ (c_X4_refused l D cs q H.size M (1 : Int32) _ hw) (cwV 1 hts gX4_runScript_X4_refused rfl rfl rfl (by decide +kernel) ⟨Nat.le_of_ble_eq_true rfl, Nat.le_of_ble_eq_true rfl⟩) (PC_V hP hD hKK 0 4 rfl rfl) rfl rfl hl.1 rfl (lv_room (Nat.le_of_ble_eq_true rfl)) dX4_runScript_62 ⟨Nat.le_of_ble_eq_true rfl, Nat.le_of_ble_eq_true rfl⟩) hS (fun q _ h => hFc q h) hFc (fun r6 u6 t H locs ht hvm hw hB hz1 hk1 hS => ?_)
      obtain ⟨hP1, hD1⟩ := hB
      rw [ht] at hP1
      obtain ⟨b6, hw⟩ := hw
      have hD : va_D A (w_Mod cs q u6) := hD1.weaken (fun k q _ h => hFc q.1 h)
      have hP : va_P D vwCl (w_Mod cs q u6) H := hP1
      refine lv_if_eq (tgt := 70) hx hb dX4_runScript_65 (by decide) (fun c7 => ?_) (fun c7 => ?_)
      · have hw := hw.1 c7
        refine lv_aload_n hx hb dX4_runScript_70 rfl (lv_at hl 0 rfl) ?_
        refine va_get (D := D) (ci := 4) (v := .ref (q 2)) (C := RX4) (T := TX4) (N := 11) hx hb hts (h_X4_X4_runScript) hown hK hP 0 rfl rfl 3 (by decide) (z_w hts 3 rfl) (fun _ h9 => h9) rfl dX4_runScript_71 ?_
        refine lv_iconst (v := (0 : Int32)) hx hb dX4_runScript_74 (by decide) ?_
        refine lv_aload_n hx hb dX4_runScript_75 rfl (lv_at hl 0 rfl) ?_
        refine va_get (D := D) (ci := 4) (v := .ref (q 3)) (C := RX4) (T := TX4) (N := 11) hx hb hts (h_X4_X4_runScript) hown hK hP 0 rfl rfl 4 (by decide) (z_w hts 4 rfl) (fun _ h9 => h9) rfl dX4_runScript_76 ?_
        refine lv_iconst (v := (0 : Int32)) hx hb dX4_runScript_79 (by decide) ?_
        have hPc := hP.sub (ws' := w_Row cs (q 2) 336 (u6 2) ++ w_Row cs (q 3) 336 (u6 3)) [2, 3] rfl
        have hDc := hD.sub (ws' := w_Row cs (q 2) 336 (u6 2) ++ w_Row cs (q 3) 336 (u6 3)) [2, 3] (by decide) rfl
        have hFc := va_free (wc := w_Row cs (q 2) 336 (u6 2) ++ w_Row cs (q 3) 336 (u6 3)) hD hS hA [2, 3] rfl
        refine va_callv (va_runS (As := [.ref (q 2), .int (0 : Int32), .ref (q 3), .int (0 : Int32)]) (rest := []) ⟨hx, hb, hml, hown, hts⟩ (c_X4_copyLine l D cs (q 2) (q 3) H.size 336 336 (u6 2) (u6 3) (0 : Int32) (0 : Int32) _ hw) (va_cwS 4 hts gX4_runScript_X4_copyLine rfl rfl rfl (by decide +kernel) ⟨Nat.le_of_ble_eq_true rfl, Nat.le_of_ble_eq_true rfl⟩) (PC_S hPc hDc hKK) rfl rfl hl.1 rfl (lv_room (Nat.le_of_ble_eq_true rfl)) dX4_runScript_80 ⟨Nat.le_of_ble_eq_true rfl, Nat.le_of_ble_eq_true rfl⟩) hS (fun q _ h => hFc q h) hFc (fun u8 t H locs ht hvm hw hB hz1 hk1 hS => ?_)
        obtain ⟨hP1, hD1⟩ := hB
        rw [ht] at hP1
        obtain ⟨hP, hD⟩ := va_join (wr := ([0, 1, 4, 5, 6, 7, 8].filterMap (fun i => (w_Mod cs q u6)[i]?))) (w1 := w_Row cs (q 2) 336 (u6 2) ++ w_Row cs (q 3) 336 u8) hP hD [2, 3] [0, 1, 4, 5, 6, 7, 8] rfl rfl (by decide) (by decide) hk1 hFc hP1 hD1
        have hP : va_P D vwCl (w_Mod cs q (zr2 u6 3 u8)) H := hP.sub (ws' := w_Mod cs q (zr2 u6 3 u8)) [0, 1, 7, 8, 2, 3, 4, 5, 6] rfl
        have hD : va_D A (w_Mod cs q (zr2 u6 3 u8)) := hD.sub (ws' := w_Mod cs q (zr2 u6 3 u8)) [0, 1, 7, 8, 2, 3, 4, 5, 6] (by decide) rfl
        refine lv_iconst (v := (0 : Int32)) hx hb dX4_runScript_83 (by decide) ?_
        refine lv_istore (lv' := [(6, .int (0 : Int32)), (0, .ref (q 0)), (1, .int x1), (2, .long x2), (4, .long y3)]) hx hb dX4_runScript_84 hl (by decide) rfl (fun ls hl => ?_)
        obtain ⟨n14, hw⟩ := hw
        exact t_X4_runScript_86 hC q _ _ _ hA n14 _ _ _ hw H locs hP hD hS ls (lv_sub hl [1, 2, 3, 4, 0] rfl)
      · have hw := hw.2 c7
        refine lv_iconst (v := (0 : Int32)) hx hb dX4_runScript_68 (by decide) ?_
        exact W.iret (v := (0 : Int32)) hx hb hr (fun t ht hW => ⟨⟨(0 : Int32), (u6), rfl, hw, by rw [ht]; exact hP, hD⟩, hS.F ht⟩) hS.2.2 dX4_runScript_69 hlocks
    · have hw := hw.2 c5
      refine lv_lload_n hx hb dX4_runScript_45 rfl (lv_at hl 2 rfl) ?_
      refine lv_lconst (v := (0 : Int64)) hx hb dX4_runScript_46 (by decide) ?_
      refine lv_lload hx hb dX4_runScript_47 (lv_at hl 3 rfl) ?_
      refine lv_lconst (v := (1 : Int64)) hx hb dX4_runScript_49 (by decide) ?_
      refine lv_lsub hx hb dX4_runScript_50 ?_
      have hPc := hP.sub (ws' := ([] : va_W)) [] rfl
      have hDc := hD.sub (ws' := ([] : va_W)) [] (by decide) rfl
      refine z_calli (va_runS (As := [.long x2, .long (0 : Int64), .long (y3 - (1 : Int64))]) (rest := [.ref (q 0)]) ⟨hx, hb, hml, hown, hts⟩ (c_X4_in l D cs  H.size x2 (0 : Int64) (y3 - (1 : Int64)) _ hw) (va_cwS 3 hts gX4_runScript_X4_in rfl rfl rfl (by decide +kernel) ⟨Nat.le_of_ble_eq_true rfl, Nat.le_of_ble_eq_true rfl⟩) (PC_S hPc hDc hKK) rfl rfl hl.1 rfl (lv_room (Nat.le_of_ble_eq_true rfl)) dX4_runScript_51 ⟨Nat.le_of_ble_eq_true rfl, Nat.le_of_ble_eq_true rfl⟩) (fun r15 hw => ?_)
      obtain ⟨b15, hw⟩ := hw
      refine lv_if_eq (tgt := 61) hx hb dX4_runScript_54 (by decide) (fun c16 => ?_) (fun c16 => ?_)
      · have hw := hw.1 c16
        refine lv_iconst (v := (1 : Int32)) hx hb dX4_runScript_61 (by decide) ?_
        have hFc := va_free (wc := w_Mod cs q M) hD hS hA [0, 1, 2, 3, 4, 5, 6, 7, 8] rfl
        refine va_calli (va_runV (As := [.int (1 : Int32)]) (rest := []) ⟨hx, hb, hml, hown, hts⟩ (c_X4_refused l D cs q H.size M (1 : Int32) _ hw) (cwV 1 hts gX4_runScript_X4_refused rfl rfl rfl (by decide +kernel) ⟨Nat.le_of_ble_eq_true rfl, Nat.le_of_ble_eq_true rfl⟩) (PC_V hP hD hKK 0 4 rfl rfl) rfl rfl hl.1 rfl (lv_room (Nat.le_of_ble_eq_true rfl)) dX4_runScript_62 ⟨Nat.le_of_ble_eq_true rfl, Nat.le_of_ble_eq_true rfl⟩) hS (fun q _ h => hFc q h) hFc (fun r17 u17 t H locs ht hvm hw hB hz1 hk1 hS => ?_)
        obtain ⟨hP1, hD1⟩ := hB
        rw [ht] at hP1
        obtain ⟨b17, hw⟩ := hw
        have hD : va_D A (w_Mod cs q u17) := hD1.weaken (fun k q _ h => hFc q.1 h)
        have hP : va_P D vwCl (w_Mod cs q u17) H := hP1
        refine lv_if_eq (tgt := 70) hx hb dX4_runScript_65 (by decide) (fun c18 => ?_) (fun c18 => ?_)
        · have hw := hw.1 c18
          refine lv_aload_n hx hb dX4_runScript_70 rfl (lv_at hl 0 rfl) ?_
          refine va_get (D := D) (ci := 4) (v := .ref (q 2)) (C := RX4) (T := TX4) (N := 11) hx hb hts (h_X4_X4_runScript) hown hK hP 0 rfl rfl 3 (by decide) (z_w hts 3 rfl) (fun _ h9 => h9) rfl dX4_runScript_71 ?_
          refine lv_iconst (v := (0 : Int32)) hx hb dX4_runScript_74 (by decide) ?_
          refine lv_aload_n hx hb dX4_runScript_75 rfl (lv_at hl 0 rfl) ?_
          refine va_get (D := D) (ci := 4) (v := .ref (q 3)) (C := RX4) (T := TX4) (N := 11) hx hb hts (h_X4_X4_runScript) hown hK hP 0 rfl rfl 4 (by decide) (z_w hts 4 rfl) (fun _ h9 => h9) rfl dX4_runScript_76 ?_
          refine lv_iconst (v := (0 : Int32)) hx hb dX4_runScript_79 (by decide) ?_
          have hPc := hP.sub (ws' := w_Row cs (q 2) 336 (u17 2) ++ w_Row cs (q 3) 336 (u17 3)) [2, 3] rfl
          have hDc := hD.sub (ws' := w_Row cs (q 2) 336 (u17 2) ++ w_Row cs (q 3) 336 (u17 3)) [2, 3] (by decide) rfl
          have hFc := va_free (wc := w_Row cs (q 2) 336 (u17 2) ++ w_Row cs (q 3) 336 (u17 3)) hD hS hA [2, 3] rfl
          refine va_callv (va_runS (As := [.ref (q 2), .int (0 : Int32), .ref (q 3), .int (0 : Int32)]) (rest := []) ⟨hx, hb, hml, hown, hts⟩ (c_X4_copyLine l D cs (q 2) (q 3) H.size 336 336 (u17 2) (u17 3) (0 : Int32) (0 : Int32) _ hw) (va_cwS 4 hts gX4_runScript_X4_copyLine rfl rfl rfl (by decide +kernel) ⟨Nat.le_of_ble_eq_true rfl, Nat.le_of_ble_eq_true rfl⟩) (PC_S hPc hDc hKK) rfl rfl hl.1 rfl (lv_room (Nat.le_of_ble_eq_true rfl)) dX4_runScript_80 ⟨Nat.le_of_ble_eq_true rfl, Nat.le_of_ble_eq_true rfl⟩) hS (fun q _ h => hFc q h) hFc (fun u19 t H locs ht hvm hw hB hz1 hk1 hS => ?_)
          obtain ⟨hP1, hD1⟩ := hB
          rw [ht] at hP1
          obtain ⟨hP, hD⟩ := va_join (wr := ([0, 1, 4, 5, 6, 7, 8].filterMap (fun i => (w_Mod cs q u17)[i]?))) (w1 := w_Row cs (q 2) 336 (u17 2) ++ w_Row cs (q 3) 336 u19) hP hD [2, 3] [0, 1, 4, 5, 6, 7, 8] rfl rfl (by decide) (by decide) hk1 hFc hP1 hD1
          have hP : va_P D vwCl (w_Mod cs q (zr2 u17 3 u19)) H := hP.sub (ws' := w_Mod cs q (zr2 u17 3 u19)) [0, 1, 7, 8, 2, 3, 4, 5, 6] rfl
          have hD : va_D A (w_Mod cs q (zr2 u17 3 u19)) := hD.sub (ws' := w_Mod cs q (zr2 u17 3 u19)) [0, 1, 7, 8, 2, 3, 4, 5, 6] (by decide) rfl
          refine lv_iconst (v := (0 : Int32)) hx hb dX4_runScript_83 (by decide) ?_
          refine lv_istore (lv' := [(6, .int (0 : Int32)), (0, .ref (q 0)), (1, .int x1), (2, .long x2), (4, .long y3)]) hx hb dX4_runScript_84 hl (by decide) rfl (fun ls hl => ?_)
          obtain ⟨n20, hw⟩ := hw
          exact t_X4_runScript_86 hC q _ _ _ hA n20 _ _ _ hw H locs hP hD hS ls (lv_sub hl [1, 2, 3, 4, 0] rfl)
        · have hw := hw.2 c18
          refine lv_iconst (v := (0 : Int32)) hx hb dX4_runScript_68 (by decide) ?_
          exact W.iret (v := (0 : Int32)) hx hb hr (fun t ht hW => ⟨⟨(0 : Int32), (u17), rfl, hw, by rw [ht]; exact hP, hD⟩, hS.F ht⟩) hS.2.2 dX4_runScript_69 hlocks
      · have hw := hw.2 c16
        refine lv_iconst (v := (0 : Int32)) hx hb dX4_runScript_57 (by decide) ?_
        refine lv_goto (tgt := 62) hx hb dX4_runScript_58 (by decide) ?_
        have hFc := va_free (wc := w_Mod cs q M) hD hS hA [0, 1, 2, 3, 4, 5, 6, 7, 8] rfl
        refine va_calli (va_runV (As := [.int (0 : Int32)]) (rest := []) ⟨hx, hb, hml, hown, hts⟩ (c_X4_refused l D cs q H.size M (0 : Int32) _ hw) (cwV 1 hts gX4_runScript_X4_refused rfl rfl rfl (by decide +kernel) ⟨Nat.le_of_ble_eq_true rfl, Nat.le_of_ble_eq_true rfl⟩) (PC_V hP hD hKK 0 4 rfl rfl) rfl rfl hl.1 rfl (lv_room (Nat.le_of_ble_eq_true rfl)) dX4_runScript_62 ⟨Nat.le_of_ble_eq_true rfl, Nat.le_of_ble_eq_true rfl⟩) hS (fun q _ h => hFc q h) hFc (fun r21 u21 t H locs ht hvm hw hB hz1 hk1 hS => ?_)
        obtain ⟨hP1, hD1⟩ := hB
        rw [ht] at hP1
        obtain ⟨b21, hw⟩ := hw
        have hD : va_D A (w_Mod cs q u21) := hD1.weaken (fun k q _ h => hFc q.1 h)
        have hP : va_P D vwCl (w_Mod cs q u21) H := hP1
        refine lv_if_eq (tgt := 70) hx hb dX4_runScript_65 (by decide) (fun c22 => ?_) (fun c22 => ?_)
        · have hw := hw.1 c22
          refine lv_aload_n hx hb dX4_runScript_70 rfl (lv_at hl 0 rfl) ?_
          refine va_get (D := D) (ci := 4) (v := .ref (q 2)) (C := RX4) (T := TX4) (N := 11) hx hb hts (h_X4_X4_runScript) hown hK hP 0 rfl rfl 3 (by decide) (z_w hts 3 rfl) (fun _ h9 => h9) rfl dX4_runScript_71 ?_
          refine lv_iconst (v := (0 : Int32)) hx hb dX4_runScript_74 (by decide) ?_
          refine lv_aload_n hx hb dX4_runScript_75 rfl (lv_at hl 0 rfl) ?_
          refine va_get (D := D) (ci := 4) (v := .ref (q 3)) (C := RX4) (T := TX4) (N := 11) hx hb hts (h_X4_X4_runScript) hown hK hP 0 rfl rfl 4 (by decide) (z_w hts 4 rfl) (fun _ h9 => h9) rfl dX4_runScript_76 ?_
          refine lv_iconst (v := (0 : Int32)) hx hb dX4_runScript_79 (by decide) ?_
          have hPc := hP.sub (ws' := w_Row cs (q 2) 336 (u21 2) ++ w_Row cs (q 3) 336 (u21 3)) [2, 3] rfl
          have hDc := hD.sub (ws' := w_Row cs (q 2) 336 (u21 2) ++ w_Row cs (q 3) 336 (u21 3)) [2, 3] (by decide) rfl
          have hFc := va_free (wc := w_Row cs (q 2) 336 (u21 2) ++ w_Row cs (q 3) 336 (u21 3)) hD hS hA [2, 3] rfl
          refine va_callv (va_runS (As := [.ref (q 2), .int (0 : Int32), .ref (q 3), .int (0 : Int32)]) (rest := []) ⟨hx, hb, hml, hown, hts⟩ (c_X4_copyLine l D cs (q 2) (q 3) H.size 336 336 (u21 2) (u21 3) (0 : Int32) (0 : Int32) _ hw) (va_cwS 4 hts gX4_runScript_X4_copyLine rfl rfl rfl (by decide +kernel) ⟨Nat.le_of_ble_eq_true rfl, Nat.le_of_ble_eq_true rfl⟩) (PC_S hPc hDc hKK) rfl rfl hl.1 rfl (lv_room (Nat.le_of_ble_eq_true rfl)) dX4_runScript_80 ⟨Nat.le_of_ble_eq_true rfl, Nat.le_of_ble_eq_true rfl⟩) hS (fun q _ h => hFc q h) hFc (fun u23 t H locs ht hvm hw hB hz1 hk1 hS => ?_)
          obtain ⟨hP1, hD1⟩ := hB
          rw [ht] at hP1
          obtain ⟨hP, hD⟩ := va_join (wr := ([0, 1, 4, 5, 6, 7, 8].filterMap (fun i => (w_Mod cs q u21)[i]?))) (w1 := w_Row cs (q 2) 336 (u21 2) ++ w_Row cs (q 3) 336 u23) hP hD [2, 3] [0, 1, 4, 5, 6, 7, 8] rfl rfl (by decide) (by decide) hk1 hFc hP1 hD1
          have hP : va_P D vwCl (w_Mod cs q (zr2 u21 3 u23)) H := hP.sub (ws' := w_Mod cs q (zr2 u21 3 u23)) [0, 1, 7, 8, 2, 3, 4, 5, 6] rfl
          have hD : va_D A (w_Mod cs q (zr2 u21 3 u23)) := hD.sub (ws' := w_Mod cs q (zr2 u21 3 u23)) [0, 1, 7, 8, 2, 3, 4, 5, 6] (by decide) rfl
          refine lv_iconst (v := (0 : Int32)) hx hb dX4_runScript_83 (by decide) ?_
          refine lv_istore (lv' := [(6, .int (0 : Int32)), (0, .ref (q 0)), (1, .int x1), (2, .long x2), (4, .long y3)]) hx hb dX4_runScript_84 hl (by decide) rfl (fun ls hl => ?_)
          obtain ⟨n24, hw⟩ := hw
          exact t_X4_runScript_86 hC q _ _ _ hA n24 _ _ _ hw H locs hP hD hS ls (lv_sub hl [1, 2, 3, 4, 0] rfl)
        · have hw := hw.2 c22
          refine lv_iconst (v := (0 : Int32)) hx hb dX4_runScript_68 (by decide) ?_
          exact W.iret (v := (0 : Int32)) hx hb hr (fun t ht hW => ⟨⟨(0 : Int32), (u21), rfl, hw, by rw [ht]; exact hP, hD⟩, hS.F ht⟩) hS.2.2 dX4_runScript_69 hlocks
set_option maxHeartbeats 4000000 in
set_option maxRecDepth 100000 in
theorem c_X4_runScript (l : Launch) (D : va_G) (cs : Nat → ClassId) (q : Nat → Nat) (sz : Nat) (M : MS) (x1 : Int32) (x2 : Int64) (Q : Int32 → MS → Prop) (hw : wp_X4_runScript M x1 x2 Q) : Met l yX4_runScript wsX4_runScript ({ frames := 5, cells := 0, slots := 0, locals := 112 } : Room) (va_Pc [.ref (q 0), .int x1, .long x2] (PC D cs (w_Mod cs q M) sz)) (va_Qi (fun r (u : MS) => Q r u) (fun (u : MS) t => va_P D vwCl (w_Mod cs q u) t.heap ∧ va_D (va_A (w_Mod cs q M) sz) (w_Mod cs q u)) (va_A (w_Mod cs q M) sz)) 0 0 (va_A (w_Mod cs q M) sz) := by
  refine Met.ofW (cc := cX4_runScript) (maxL := 8) (ret := (some .int)) (by decide) rfl ?_
  intro p e s m args below meth c s₁ B hml hv
  obtain ⟨rfl, hsz, hP, hKK, hD0⟩ := hv
  have hC : MAt p s m _ meth c RX4 cX4_runScript 8 (some .int) wsX4_runScript D cs := ⟨B.exec, B.bytes, B.returns, hml, findClass_of_methodNamed B.named, atoms_spec (ws := wsX4_runScript) B.pre, B.notSynchronized, hKK⟩
  have hl := lv_entry ([.ref (q 0), .int x1, .long x2]) (n := 8) (Nat.le_of_ble_eq_true rfl)
  rw [lg_entry_eq]
  generalize (lg_sl ([.ref (q 0), .int x1, .long x2]) ++ List.replicate (8 - (lg_sl ([.ref (q 0), .int x1, .long x2])).length) Slot.unset).toArray = ls at hl ⊢
  subst hsz
  have hD := hD0.self (sz := s.heap.size)
  have hA : ∀ z : Nat, s.heap.size ≤ z → va_A (w_Mod cs q M) s.heap.size z := fun z h => Or.inr h
  exact t_X4_runScript hC q M x1 x2 Q hA hw s.heap [] hP hD va_S.rf ls hl
theorem h_X4_X4_turn : ∀ w ∈ u_ws RX4 TX4 11, w ∈ wsX4_turn := fun _ h => List.mem_cons_of_mem _ (List.mem_append_right _ h)
set_option maxHeartbeats 4000000 in
set_option maxRecDepth 100000 in
theorem t_X4_turn {p : Program} {l : Launch} {e : Env} {s : State} {m : MethodId} {args : Array Value} {below : List Frame} {meth : Method} {c : Code} {D : va_G} {cs : Nat → ClassId} {A : Nat → Prop} (hC : MAt p s m args meth c RX4 cX4_turn 6 none wsX4_turn D cs) (q : Nat → Nat) (M : MS) (x1 : Int32) (Q : MS → Prop) (hA : ∀ q : Nat, s.heap.size ≤ q → A q) (hw : wp_X4_turn M x1 Q) (H : Heap) (locs : List Loc) (hP : va_P D vwCl (w_Mod cs q M) H) (hD : va_D A (w_Mod cs q M)) (hS : va_S A s.heap H locs) (ls : Array Slot) (hl : lv_has ls 6 [(0, .ref (q 0)), (1, .int x1)]) : W p l e ({ frames := 3, cells := 0, slots := 0, locals := 70 } : Room) s m args below meth c H locs 0 0 (MQ below (va_Qv (fun (u : MS) => Q u) (fun (u : MS) t => va_P D vwCl (w_Mod cs q u) t.heap ∧ va_D A (w_Mod cs q u)) A) args s 0 0 A) (F0 m 0 ls []) := by
  obtain ⟨hx, hb, hr, hml, hown, hts, hlocks, hKK⟩ := id hC
  have hK := hKK.1
  refine lv_iload_n hx hb dX4_turn_0 rfl (lv_at hl 1 rfl) ?_
  refine lv_bipush (v := (8 : Int32)) hx hb dX4_turn_1 (by decide) ?_
  refine lv_idiv hx hb dX4_turn_3 (by decide) ?_
  refine lv_aload_n hx hb dX4_turn_4 rfl (lv_at hl 0 rfl) ?_
  refine va_get (D := D) (ci := 4) (v := .ref (q 3)) (C := RX4) (T := TX4) (N := 11) hx hb hts (h_X4_X4_turn) hown hK hP 0 rfl rfl 4 (by decide) (z_w hts 1 rfl) (fun _ h9 => h9) rfl dX4_turn_5 ?_
  refine lv_iconst (v := (0 : Int32)) hx hb dX4_turn_8 (by decide) ?_
  refine va_iald hx hb hK hP 3 0 rfl rfl (show vp_in (0 : Int32) 336 by unfold vp_in; decide) dX4_turn_9 ?_
  obtain ⟨h1, hw⟩ := hw
  refine lv_irem hx hb dX4_turn_10 h1 ?_
  refine lv_topi (fun y2 ey2 => ?_)
  have hw := hw y2 ey2
  refine lv_istore_n (lv' := [(2, .int y2), (0, .ref (q 0)), (1, .int x1)]) hx hb dX4_turn_11 rfl hl (by decide) rfl (fun ls hl => ?_)
  refine lv_iload_n hx hb dX4_turn_12 rfl (lv_at hl 2 rfl) ?_
  refine lv_bipush (v := (8 : Int32)) hx hb dX4_turn_13 (by decide) ?_
  refine lv_irem hx hb dX4_turn_15 (by decide) ?_
  refine lv_istore_n (lv' := [(3, .int (x1 - x1 / (8 : Int32) * (8 : Int32))), (2, .int y2), (0, .ref (q 0)), (1, .int x1)]) hx hb dX4_turn_16 rfl hl (by decide) rfl (fun ls hl => ?_)
  refine lv_iload_n hx hb dX4_turn_17 rfl (lv_at hl 1 rfl) ?_
  refine lv_iconst (v := (1 : Int32)) hx hb dX4_turn_18 (by decide) ?_
  refine lv_iadd hx hb dX4_turn_19 ?_
  refine lv_aload_n hx hb dX4_turn_20 rfl (lv_at hl 2 rfl) ?_
  refine va_get (D := D) (ci := 4) (v := .ref (q 3)) (C := RX4) (T := TX4) (N := 11) hx hb hts (h_X4_X4_turn) hown hK hP 0 rfl rfl 4 (by decide) (z_w hts 1 rfl) (fun _ h9 => h9) rfl dX4_turn_21 ?_
  refine lv_iconst (v := (0 : Int32)) hx hb dX4_turn_24 (by decide) ?_
  refine va_iald hx hb hK hP 3 0 rfl rfl (show vp_in (0 : Int32) 336 by unfold vp_in; decide) dX4_turn_25 ?_
  obtain ⟨h3, hw⟩ := hw
  refine lv_irem hx hb dX4_turn_26 h3 ?_
  refine lv_topi (fun y4 ey4 => ?_)
  have hw := hw y4 ey4
  refine lv_istore (lv' := [(4, .int y4), (3, .int (x1 - x1 / (8 : Int32) * (8 : Int32))), (2, .int y2), (0, .ref (q 0)), (1, .int x1)]) hx hb dX4_turn_27 hl (by decide) rfl (fun ls hl => ?_)
  refine lv_iload_n hx hb dX4_turn_29 rfl (lv_at hl 4 rfl) ?_
  refine lv_bipush (v := (64 : Int32)) hx hb dX4_turn_30 (by decide) ?_
  refine lv_idiv hx hb dX4_turn_32 (by decide) ?_
  refine lv_bipush (v := (81 : Int32)) hx hb dX4_turn_33 (by decide) ?_
  refine lv_irem hx hb dX4_turn_35 (by decide) ?_
  refine lv_topi (fun y5 ey5 => ?_)
  have hw := hw y5 ey5
  refine lv_istore (lv' := [(5, .int y5), (4, .int y4), (3, .int (x1 - x1 / (8 : Int32) * (8 : Int32))), (2, .int y2), (0, .ref (q 0)), (1, .int x1)]) hx hb dX4_turn_36 hl (by decide) rfl (fun ls hl => ?_)
  refine lv_iload_n hx hb dX4_turn_38 rfl (lv_at hl 2 rfl) ?_
  refine lv_iconst (v := (3 : Int32)) hx hb dX4_turn_39 (by decide) ?_
  refine lv_icmp_ge (tgt := 66) hx hb dX4_turn_40 (by decide) (fun c6 => ?_) (fun c6 => ?_)
  · have hw := hw.1 c6
    refine lv_iload_n hx hb dX4_turn_66 rfl (lv_at hl 2 rfl) ?_
    refine lv_iconst (v := (3 : Int32)) hx hb dX4_turn_67 (by decide) ?_
    refine lv_icmp_eq (tgt := 76) hx hb dX4_turn_68 (by decide) (fun c7 => ?_) (fun c7 => ?_)
    · have hw := hw.1 c7
      refine lv_aload_n hx hb dX4_turn_76 rfl (lv_at hl 4 rfl) ?_
      refine va_get (D := D) (ci := 4) (v := .ref (q 3)) (C := RX4) (T := TX4) (N := 11) hx hb hts (h_X4_X4_turn) hown hK hP 0 rfl rfl 4 (by decide) (z_w hts 1 rfl) (fun _ h9 => h9) rfl dX4_turn_77 ?_
      refine lv_iload_n hx hb dX4_turn_80 rfl (lv_at hl 3 rfl) ?_
      refine lv_iload hx hb dX4_turn_81 (lv_at hl 0 rfl) ?_
      have hPc := hP.sub (ws' := w_Row cs (q 3) 336 (M 3)) [3] rfl
      have hDc := hD.sub (ws' := w_Row cs (q 3) 336 (M 3)) [3] (by decide) rfl
      refine z_calli (va_runS (As := [.ref (q 3), .int y2, .int y5]) (rest := []) ⟨hx, hb, hml, hown, hts⟩ (c_X4_fits l D cs (q 3) H.size (M 3) y2 y5 _ hw) (va_cwS 3 hts gX4_turn_X4_fits rfl rfl rfl (by decide +kernel) ⟨Nat.le_of_ble_eq_true rfl, Nat.le_of_ble_eq_true rfl⟩) (PC_S hPc hDc hKK) rfl rfl hl.1 rfl (lv_room (Nat.le_of_ble_eq_true rfl)) dX4_turn_83 ⟨Nat.le_of_ble_eq_true rfl, Nat.le_of_ble_eq_true rfl⟩) (fun r8 hw => ?_)
      obtain ⟨b8, hw⟩ := hw
      refine lv_if_eq (tgt := 114) hx hb dX4_turn_86 (by decide) (fun c9 => ?_) (fun c9 => ?_)
      · have hw := hw.1 c9
        refine lv_iload_n hx hb dX4_turn_114 rfl (lv_at hl 2 rfl) ?_
        refine lv_iconst (v := (5 : Int32)) hx hb dX4_turn_115 (by decide) ?_
        refine lv_icmp_ne (tgt := 136) hx hb dX4_turn_116 (by decide) (fun c10 => ?_) (fun c10 => ?_)
        · have hw := hw.2 c10
          refine lv_aload_n hx hb dX4_turn_136 rfl (lv_at hl 4 rfl) ?_
          refine lv_aload_n hx hb dX4_turn_137 rfl (lv_at hl 4 rfl) ?_
          refine va_get (D := D) (ci := 4) (v := .ref (q 3)) (C := RX4) (T := TX4) (N := 11) hx hb hts (h_X4_X4_turn) hown hK hP 0 rfl rfl 4 (by decide) (z_w hts 1 rfl) (fun _ h9 => h9) rfl dX4_turn_138 ?_
          have hFc := va_free (wc := w_Mod cs q M) hD hS hA [0, 1, 2, 3, 4, 5, 6, 7, 8] rfl
          refine va_callv (va_runV (As := [.ref (q 3)]) (rest := []) ⟨hx, hb, hml, hown, hts⟩ (c_X4_beat_t l D cs q H.size M _ hw) (cwV 1 hts gX4_turn_X4_beat rfl rfl rfl (by decide +kernel) ⟨Nat.le_of_ble_eq_true rfl, Nat.le_of_ble_eq_true rfl⟩) (PC_V hP hD hKK 0 4 rfl rfl) rfl rfl hl.1 rfl (lv_room (Nat.le_of_ble_eq_true rfl)) dX4_turn_141 ⟨Nat.le_of_ble_eq_true rfl, Nat.le_of_ble_eq_true rfl⟩) hS (fun q _ h => hFc q h) hFc (fun u11 t H locs ht hvm hw hB hz1 hk1 hS => ?_)
          obtain ⟨hP1, hD1⟩ := hB
          rw [ht] at hP1
          have hD : va_D A (w_Mod cs q u11) := hD1.weaken (fun k q _ h => hFc q.1 h)
          have hP : va_P D vwCl (w_Mod cs q u11) H := hP1
          exact W.vret hx hb hr (fun t ht hW => ⟨⟨(u11), rfl, hw, by rw [ht]; exact hP, hD⟩, hS.F ht⟩) hS.2.2 dX4_turn_144 hlocks
        · have hw := hw.1 c10
          refine lv_iload_n hx hb dX4_turn_119 rfl (lv_at hl 3 rfl) ?_
          refine lv_iload hx hb dX4_turn_120 (lv_at hl 1 rfl) ?_
          refine lv_icmp_eq (tgt := 136) hx hb dX4_turn_122 (by decide) (fun c12 => ?_) (fun c12 => ?_)
          · have hw := hw.1 c12
            refine lv_aload_n hx hb dX4_turn_136 rfl (lv_at hl 4 rfl) ?_
            refine lv_aload_n hx hb dX4_turn_137 rfl (lv_at hl 4 rfl) ?_
            refine va_get (D := D) (ci := 4) (v := .ref (q 3)) (C := RX4) (T := TX4) (N := 11) hx hb hts (h_X4_X4_turn) hown hK hP 0 rfl rfl 4 (by decide) (z_w hts 1 rfl) (fun _ h9 => h9) rfl dX4_turn_138 ?_
            have hFc := va_free (wc := w_Mod cs q M) hD hS hA [0, 1, 2, 3, 4, 5, 6, 7, 8] rfl
            refine va_callv (va_runV (As := [.ref (q 3)]) (rest := []) ⟨hx, hb, hml, hown, hts⟩ (c_X4_beat_t l D cs q H.size M _ hw) (cwV 1 hts gX4_turn_X4_beat rfl rfl rfl (by decide +kernel) ⟨Nat.le_of_ble_eq_true rfl, Nat.le_of_ble_eq_true rfl⟩) (PC_V hP hD hKK 0 4 rfl rfl) rfl rfl hl.1 rfl (lv_room (Nat.le_of_ble_eq_true rfl)) dX4_turn_141 ⟨Nat.le_of_ble_eq_true rfl, Nat.le_of_ble_eq_true rfl⟩) hS (fun q _ h => hFc q h) hFc (fun u13 t H locs ht hvm hw hB hz1 hk1 hS => ?_)
            obtain ⟨hP1, hD1⟩ := hB
            rw [ht] at hP1
            have hD : va_D A (w_Mod cs q u13) := hD1.weaken (fun k q _ h => hFc q.1 h)
            have hP : va_P D vwCl (w_Mod cs q u13) H := hP1
            exact W.vret hx hb hr (fun t ht hW => ⟨⟨(u13), rfl, hw, by rw [ht]; exact hP, hD⟩, hS.F ht⟩) hS.2.2 dX4_turn_144 hlocks
          · have hw := hw.2 c12
            refine lv_aload_n hx hb dX4_turn_125 rfl (lv_at hl 4 rfl) ?_
            refine va_get (D := D) (ci := 4) (v := .ref (q 3)) (C := RX4) (T := TX4) (N := 11) hx hb hts (h_X4_X4_turn) hown hK hP 0 rfl rfl 4 (by decide) (z_w hts 1 rfl) (fun _ h9 => h9) rfl dX4_turn_126 ?_
            refine lv_iload_n hx hb dX4_turn_129 rfl (lv_at hl 3 rfl) ?_
            refine lv_iload hx hb dX4_turn_130 (lv_at hl 1 rfl) ?_
            have hPc := hP.sub (ws' := w_Row cs (q 3) 336 (M 3)) [3] rfl
            have hDc := hD.sub (ws' := w_Row cs (q 3) 336 (M 3)) [3] (by decide) rfl
            have hFc := va_free (wc := w_Row cs (q 3) 336 (M 3)) hD hS hA [3] rfl
            refine va_calll (va_runS (As := [.ref (q 3), .int y2, .int y4]) (rest := []) ⟨hx, hb, hml, hown, hts⟩ (c_X4_pourOn l D cs (q 3) H.size (M 3) y2 y4 _ hw) (va_cwS 3 hts gX4_turn_X4_pourOn rfl rfl rfl (by decide +kernel) ⟨Nat.le_of_ble_eq_true rfl, Nat.le_of_ble_eq_true rfl⟩) (PC_S hPc hDc hKK) rfl rfl hl.1 rfl (lv_room (Nat.le_of_ble_eq_true rfl)) dX4_turn_132 ⟨Nat.le_of_ble_eq_true rfl, Nat.le_of_ble_eq_true rfl⟩) hS (fun q _ h => hFc q h) hFc (fun r14 u14 t H locs ht hvm hw hB hz1 hk1 hS => ?_)
            obtain ⟨hP1, hD1⟩ := hB
            rw [ht] at hP1
            obtain ⟨hP, hD⟩ := va_join (wr := ([0, 1, 2, 4, 5, 6, 7, 8].filterMap (fun i => (w_Mod cs q M)[i]?))) (w1 := w_Row cs (q 3) 336 u14) hP hD [3] [0, 1, 2, 4, 5, 6, 7, 8] rfl rfl (by decide) (by decide) hk1 hFc hP1 hD1
            have hP : va_P D vwCl (w_Mod cs q (zr2 M 3 u14)) H := hP.sub (ws' := w_Mod cs q (zr2 M 3 u14)) [0, 1, 2, 8, 3, 4, 5, 6, 7] rfl
            have hD : va_D A (w_Mod cs q (zr2 M 3 u14)) := hD.sub (ws' := w_Mod cs q (zr2 M 3 u14)) [0, 1, 2, 8, 3, 4, 5, 6, 7] (by decide) rfl
            refine lv_pop2_2 hx hb dX4_turn_135 rfl ?_
            refine lv_aload_n hx hb dX4_turn_136 rfl (lv_at hl 4 rfl) ?_
            refine lv_aload_n hx hb dX4_turn_137 rfl (lv_at hl 4 rfl) ?_
            refine va_get (D := D) (ci := 4) (v := .ref (q 3)) (C := RX4) (T := TX4) (N := 11) hx hb hts (h_X4_X4_turn) hown hK hP 0 rfl rfl 4 (by decide) (z_w hts 1 rfl) (fun _ h9 => h9) rfl dX4_turn_138 ?_
            have hFc := va_free (wc := w_Mod cs q (zr2 M 3 u14)) hD hS hA [0, 1, 2, 3, 4, 5, 6, 7, 8] rfl
            refine va_callv (va_runV (As := [.ref (q 3)]) (rest := []) ⟨hx, hb, hml, hown, hts⟩ (c_X4_beat_t l D cs q H.size (zr2 M 3 u14) _ hw) (cwV 1 hts gX4_turn_X4_beat rfl rfl rfl (by decide +kernel) ⟨Nat.le_of_ble_eq_true rfl, Nat.le_of_ble_eq_true rfl⟩) (PC_V hP hD hKK 0 4 rfl rfl) rfl rfl hl.1 rfl (lv_room (Nat.le_of_ble_eq_true rfl)) dX4_turn_141 ⟨Nat.le_of_ble_eq_true rfl, Nat.le_of_ble_eq_true rfl⟩) hS (fun q _ h => hFc q h) hFc (fun u15 t H locs ht hvm hw hB hz1 hk1 hS => ?_)
            obtain ⟨hP1, hD1⟩ := hB
            rw [ht] at hP1
            have hD : va_D A (w_Mod cs q u15) := hD1.weaken (fun k q _ h => hFc q.1 h)
            have hP : va_P D vwCl (w_Mod cs q u15) H := hP1
            exact W.vret hx hb hr (fun t ht hW => ⟨⟨(u15), rfl, hw, by rw [ht]; exact hP, hD⟩, hS.F ht⟩) hS.2.2 dX4_turn_144 hlocks
      · have hw := hw.2 c9
        refine lv_aload_n hx hb dX4_turn_89 rfl (lv_at hl 4 rfl) ?_
        refine va_get (D := D) (ci := 4) (v := .ref (q 3)) (C := RX4) (T := TX4) (N := 11) hx hb hts (h_X4_X4_turn) hown hK hP 0 rfl rfl 4 (by decide) (z_w hts 1 rfl) (fun _ h9 => h9) rfl dX4_turn_90 ?_
        refine lv_iload_n hx hb dX4_turn_93 rfl (lv_at hl 3 rfl) ?_
        refine lv_iload_n hx hb dX4_turn_94 rfl (lv_at hl 2 rfl) ?_
        refine lv_iconst (v := (3 : Int32)) hx hb dX4_turn_95 (by decide) ?_
        refine lv_icmp_ne (tgt := 104) hx hb dX4_turn_96 (by decide) (fun c16 => ?_) (fun c16 => ?_)
        · have hw := hw.2 c16
          refine lv_iload hx hb dX4_turn_104 (lv_at hl 0 rfl) ?_
          refine lv_ineg hx hb dX4_turn_106 ?_
          have hPc := hP.sub (ws' := w_Row cs (q 3) 336 (M 3)) [3] rfl
          have hDc := hD.sub (ws' := w_Row cs (q 3) 336 (M 3)) [3] (by decide) rfl
          have hFc := va_free (wc := w_Row cs (q 3) 336 (M 3)) hD hS hA [3] rfl
          refine va_calli (va_runS (As := [.ref (q 3), .int y2, .int (-y5)]) (rest := []) ⟨hx, hb, hml, hown, hts⟩ (c_X4_addOn l D cs (q 3) H.size (M 3) y2 (-y5) _ hw) (va_cwS 3 hts gX4_turn_X4_addOn rfl rfl rfl (by decide +kernel) ⟨Nat.le_of_ble_eq_true rfl, Nat.le_of_ble_eq_true rfl⟩) (PC_S hPc hDc hKK) rfl rfl hl.1 rfl (lv_room (Nat.le_of_ble_eq_true rfl)) dX4_turn_107 ⟨Nat.le_of_ble_eq_true rfl, Nat.le_of_ble_eq_true rfl⟩) hS (fun q _ h => hFc q h) hFc (fun r17 u17 t H locs ht hvm hw hB hz1 hk1 hS => ?_)
          obtain ⟨hP1, hD1⟩ := hB
          rw [ht] at hP1
          obtain ⟨hP, hD⟩ := va_join (wr := ([0, 1, 2, 4, 5, 6, 7, 8].filterMap (fun i => (w_Mod cs q M)[i]?))) (w1 := w_Row cs (q 3) 336 u17) hP hD [3] [0, 1, 2, 4, 5, 6, 7, 8] rfl rfl (by decide) (by decide) hk1 hFc hP1 hD1
          have hP : va_P D vwCl (w_Mod cs q (zr2 M 3 u17)) H := hP.sub (ws' := w_Mod cs q (zr2 M 3 u17)) [0, 1, 2, 8, 3, 4, 5, 6, 7] rfl
          have hD : va_D A (w_Mod cs q (zr2 M 3 u17)) := hD.sub (ws' := w_Mod cs q (zr2 M 3 u17)) [0, 1, 2, 8, 3, 4, 5, 6, 7] (by decide) rfl
          refine lv_pop hx hb dX4_turn_110 rfl ?_
          refine lv_goto (tgt := 136) hx hb dX4_turn_111 (by decide) ?_
          refine lv_aload_n hx hb dX4_turn_136 rfl (lv_at hl 4 rfl) ?_
          refine lv_aload_n hx hb dX4_turn_137 rfl (lv_at hl 4 rfl) ?_
          refine va_get (D := D) (ci := 4) (v := .ref (q 3)) (C := RX4) (T := TX4) (N := 11) hx hb hts (h_X4_X4_turn) hown hK hP 0 rfl rfl 4 (by decide) (z_w hts 1 rfl) (fun _ h9 => h9) rfl dX4_turn_138 ?_
          have hFc := va_free (wc := w_Mod cs q (zr2 M 3 u17)) hD hS hA [0, 1, 2, 3, 4, 5, 6, 7, 8] rfl
          refine va_callv (va_runV (As := [.ref (q 3)]) (rest := []) ⟨hx, hb, hml, hown, hts⟩ (c_X4_beat_t l D cs q H.size (zr2 M 3 u17) _ hw) (cwV 1 hts gX4_turn_X4_beat rfl rfl rfl (by decide +kernel) ⟨Nat.le_of_ble_eq_true rfl, Nat.le_of_ble_eq_true rfl⟩) (PC_V hP hD hKK 0 4 rfl rfl) rfl rfl hl.1 rfl (lv_room (Nat.le_of_ble_eq_true rfl)) dX4_turn_141 ⟨Nat.le_of_ble_eq_true rfl, Nat.le_of_ble_eq_true rfl⟩) hS (fun q _ h => hFc q h) hFc (fun u18 t H locs ht hvm hw hB hz1 hk1 hS => ?_)
          obtain ⟨hP1, hD1⟩ := hB
          rw [ht] at hP1
          have hD : va_D A (w_Mod cs q u18) := hD1.weaken (fun k q _ h => hFc q.1 h)
          have hP : va_P D vwCl (w_Mod cs q u18) H := hP1
          exact W.vret hx hb hr (fun t ht hW => ⟨⟨(u18), rfl, hw, by rw [ht]; exact hP, hD⟩, hS.F ht⟩) hS.2.2 dX4_turn_144 hlocks
        · have hw := hw.1 c16
          refine lv_iload hx hb dX4_turn_99 (lv_at hl 0 rfl) ?_
          refine lv_goto (tgt := 107) hx hb dX4_turn_101 (by decide) ?_
          have hPc := hP.sub (ws' := w_Row cs (q 3) 336 (M 3)) [3] rfl
          have hDc := hD.sub (ws' := w_Row cs (q 3) 336 (M 3)) [3] (by decide) rfl
          have hFc := va_free (wc := w_Row cs (q 3) 336 (M 3)) hD hS hA [3] rfl
          refine va_calli (va_runS (As := [.ref (q 3), .int y2, .int y5]) (rest := []) ⟨hx, hb, hml, hown, hts⟩ (c_X4_addOn l D cs (q 3) H.size (M 3) y2 y5 _ hw) (va_cwS 3 hts gX4_turn_X4_addOn rfl rfl rfl (by decide +kernel) ⟨Nat.le_of_ble_eq_true rfl, Nat.le_of_ble_eq_true rfl⟩) (PC_S hPc hDc hKK) rfl rfl hl.1 rfl (lv_room (Nat.le_of_ble_eq_true rfl)) dX4_turn_107 ⟨Nat.le_of_ble_eq_true rfl, Nat.le_of_ble_eq_true rfl⟩) hS (fun q _ h => hFc q h) hFc (fun r19 u19 t H locs ht hvm hw hB hz1 hk1 hS => ?_)
          obtain ⟨hP1, hD1⟩ := hB
          rw [ht] at hP1
          obtain ⟨hP, hD⟩ := va_join (wr := ([0, 1, 2, 4, 5, 6, 7, 8].filterMap (fun i => (w_Mod cs q M)[i]?))) (w1 := w_Row cs (q 3) 336 u19) hP hD [3] [0, 1, 2, 4, 5, 6, 7, 8] rfl rfl (by decide) (by decide) hk1 hFc hP1 hD1
          have hP : va_P D vwCl (w_Mod cs q (zr2 M 3 u19)) H := hP.sub (ws' := w_Mod cs q (zr2 M 3 u19)) [0, 1, 2, 8, 3, 4, 5, 6, 7] rfl
          have hD : va_D A (w_Mod cs q (zr2 M 3 u19)) := hD.sub (ws' := w_Mod cs q (zr2 M 3 u19)) [0, 1, 2, 8, 3, 4, 5, 6, 7] (by decide) rfl
          refine lv_pop hx hb dX4_turn_110 rfl ?_
          refine lv_goto (tgt := 136) hx hb dX4_turn_111 (by decide) ?_
          refine lv_aload_n hx hb dX4_turn_136 rfl (lv_at hl 4 rfl) ?_
          refine lv_aload_n hx hb dX4_turn_137 rfl (lv_at hl 4 rfl) ?_
          refine va_get (D := D) (ci := 4) (v := .ref (q 3)) (C := RX4) (T := TX4) (N := 11) hx hb hts (h_X4_X4_turn) hown hK hP 0 rfl rfl 4 (by decide) (z_w hts 1 rfl) (fun _ h9 => h9) rfl dX4_turn_138 ?_
          have hFc := va_free (wc := w_Mod cs q (zr2 M 3 u19)) hD hS hA [0, 1, 2, 3, 4, 5, 6, 7, 8] rfl
          refine va_callv (va_runV (As := [.ref (q 3)]) (rest := []) ⟨hx, hb, hml, hown, hts⟩ (c_X4_beat_t l D cs q H.size (zr2 M 3 u19) _ hw) (cwV 1 hts gX4_turn_X4_beat rfl rfl rfl (by decide +kernel) ⟨Nat.le_of_ble_eq_true rfl, Nat.le_of_ble_eq_true rfl⟩) (PC_V hP hD hKK 0 4 rfl rfl) rfl rfl hl.1 rfl (lv_room (Nat.le_of_ble_eq_true rfl)) dX4_turn_141 ⟨Nat.le_of_ble_eq_true rfl, Nat.le_of_ble_eq_true rfl⟩) hS (fun q _ h => hFc q h) hFc (fun u20 t H locs ht hvm hw hB hz1 hk1 hS => ?_)
          obtain ⟨hP1, hD1⟩ := hB
          rw [ht] at hP1
          have hD : va_D A (w_Mod cs q u20) := hD1.weaken (fun k q _ h => hFc q.1 h)
          have hP : va_P D vwCl (w_Mod cs q u20) H := hP1
          exact W.vret hx hb hr (fun t ht hW => ⟨⟨(u20), rfl, hw, by rw [ht]; exact hP, hD⟩, hS.F ht⟩) hS.2.2 dX4_turn_144 hlocks
    · have hw := hw.2 c7
      refine lv_iload_n hx hb dX4_turn_71 rfl (lv_at hl 2 rfl) ?_
      refine lv_iconst (v := (4 : Int32)) hx hb dX4_turn_72 (by decide) ?_
      refine lv_icmp_ne (tgt := 114) hx hb dX4_turn_73 (by decide) (fun c21 => ?_) (fun c21 => ?_)
      · have hw := hw.2 c21
        refine lv_iload_n hx hb dX4_turn_114 rfl (lv_at hl 2 rfl) ?_
        refine lv_iconst (v := (5 : Int32)) hx hb dX4_turn_115 (by decide) ?_
        refine lv_icmp_ne (tgt := 136) hx hb dX4_turn_116 (by decide) (fun c22 => ?_) (fun c22 => ?_)
        · have hw := hw.2 c22
          refine lv_aload_n hx hb dX4_turn_136 rfl (lv_at hl 4 rfl) ?_
          refine lv_aload_n hx hb dX4_turn_137 rfl (lv_at hl 4 rfl) ?_
          refine va_get (D := D) (ci := 4) (v := .ref (q 3)) (C := RX4) (T := TX4) (N := 11) hx hb hts (h_X4_X4_turn) hown hK hP 0 rfl rfl 4 (by decide) (z_w hts 1 rfl) (fun _ h9 => h9) rfl dX4_turn_138 ?_
          have hFc := va_free (wc := w_Mod cs q M) hD hS hA [0, 1, 2, 3, 4, 5, 6, 7, 8] rfl
          refine va_callv (va_runV (As := [.ref (q 3)]) (rest := []) ⟨hx, hb, hml, hown, hts⟩ (c_X4_beat_t l D cs q H.size M _ hw) (cwV 1 hts gX4_turn_X4_beat rfl rfl rfl (by decide +kernel) ⟨Nat.le_of_ble_eq_true rfl, Nat.le_of_ble_eq_true rfl⟩) (PC_V hP hD hKK 0 4 rfl rfl) rfl rfl hl.1 rfl (lv_room (Nat.le_of_ble_eq_true rfl)) dX4_turn_141 ⟨Nat.le_of_ble_eq_true rfl, Nat.le_of_ble_eq_true rfl⟩) hS (fun q _ h => hFc q h) hFc (fun u23 t H locs ht hvm hw hB hz1 hk1 hS => ?_)
          obtain ⟨hP1, hD1⟩ := hB
          rw [ht] at hP1
          have hD : va_D A (w_Mod cs q u23) := hD1.weaken (fun k q _ h => hFc q.1 h)
          have hP : va_P D vwCl (w_Mod cs q u23) H := hP1
          exact W.vret hx hb hr (fun t ht hW => ⟨⟨(u23), rfl, hw, by rw [ht]; exact hP, hD⟩, hS.F ht⟩) hS.2.2 dX4_turn_144 hlocks
        · have hw := hw.1 c22
          refine lv_iload_n hx hb dX4_turn_119 rfl (lv_at hl 3 rfl) ?_
          refine lv_iload hx hb dX4_turn_120 (lv_at hl 1 rfl) ?_
          refine lv_icmp_eq (tgt := 136) hx hb dX4_turn_122 (by decide) (fun c24 => ?_) (fun c24 => ?_)
          · have hw := hw.1 c24
            refine lv_aload_n hx hb dX4_turn_136 rfl (lv_at hl 4 rfl) ?_
            refine lv_aload_n hx hb dX4_turn_137 rfl (lv_at hl 4 rfl) ?_
            refine va_get (D := D) (ci := 4) (v := .ref (q 3)) (C := RX4) (T := TX4) (N := 11) hx hb hts (h_X4_X4_turn) hown hK hP 0 rfl rfl 4 (by decide) (z_w hts 1 rfl) (fun _ h9 => h9) rfl dX4_turn_138 ?_
            have hFc := va_free (wc := w_Mod cs q M) hD hS hA [0, 1, 2, 3, 4, 5, 6, 7, 8] rfl
            refine va_callv (va_runV (As := [.ref (q 3)]) (rest := []) ⟨hx, hb, hml, hown, hts⟩ (c_X4_beat_t l D cs q H.size M _ hw) (cwV 1 hts gX4_turn_X4_beat rfl rfl rfl (by decide +kernel) ⟨Nat.le_of_ble_eq_true rfl, Nat.le_of_ble_eq_true rfl⟩) (PC_V hP hD hKK 0 4 rfl rfl) rfl rfl hl.1 rfl (lv_room (Nat.le_of_ble_eq_true rfl)) dX4_turn_141 ⟨Nat.le_of_ble_eq_true rfl, Nat.le_of_ble_eq_true rfl⟩) hS (fun q _ h => hFc q h) hFc (fun u25 t H locs ht hvm hw hB hz1 hk1 hS => ?_)
            obtain ⟨hP1, hD1⟩ := hB
            rw [ht] at hP1
            have hD : va_D A (w_Mod cs q u25) := hD1.weaken (fun k q _ h => hFc q.1 h)
            have hP : va_P D vwCl (w_Mod cs q u25) H := hP1
            exact W.vret hx hb hr (fun t ht hW => ⟨⟨(u25), rfl, hw, by rw [ht]; exact hP, hD⟩, hS.F ht⟩) hS.2.2 dX4_turn_144 hlocks
          · have hw := hw.2 c24
            refine lv_aload_n hx hb dX4_turn_125 rfl (lv_at hl 4 rfl) ?_
            refine va_get (D := D) (ci := 4) (v := .ref (q 3)) (C := RX4) (T := TX4) (N := 11) hx hb hts (h_X4_X4_turn) hown hK hP 0 rfl rfl 4 (by decide) (z_w hts 1 rfl) (fun _ h9 => h9) rfl dX4_turn_126 ?_
            refine lv_iload_n hx hb dX4_turn_129 rfl (lv_at hl 3 rfl) ?_
            refine lv_iload hx hb dX4_turn_130 (lv_at hl 1 rfl) ?_
            have hPc := hP.sub (ws' := w_Row cs (q 3) 336 (M 3)) [3] rfl
            have hDc := hD.sub (ws' := w_Row cs (q 3) 336 (M 3)) [3] (by decide) rfl
            have hFc := va_free (wc := w_Row cs (q 3) 336 (M 3)) hD hS hA [3] rfl
            refine va_calll (va_runS (As := [.ref (q 3), .int y2, .int y4]) (rest := []) ⟨hx, hb, hml, hown, hts⟩ (c_X4_pourOn l D cs (q 3) H.size (M 3) y2 y4 _ hw) (va_cwS 3 hts gX4_turn_X4_pourOn rfl rfl rfl (by decide +kernel) ⟨Nat.le_of_ble_eq_true rfl, Nat.le_of_ble_eq_true rfl⟩) (PC_S hPc hDc hKK) rfl rfl hl.1 rfl (lv_room (Nat.le_of_ble_eq_true rfl)) dX4_turn_132 ⟨Nat.le_of_ble_eq_true rfl, Nat.le_of_ble_eq_true rfl⟩) hS (fun q _ h => hFc q h) hFc (fun r26 u26 t H locs ht hvm hw hB hz1 hk1 hS => ?_)
            obtain ⟨hP1, hD1⟩ := hB
            rw [ht] at hP1
            obtain ⟨hP, hD⟩ := va_join (wr := ([0, 1, 2, 4, 5, 6, 7, 8].filterMap (fun i => (w_Mod cs q M)[i]?))) (w1 := w_Row cs (q 3) 336 u26) hP hD [3] [0, 1, 2, 4, 5, 6, 7, 8] rfl rfl (by decide) (by decide) hk1 hFc hP1 hD1
            have hP : va_P D vwCl (w_Mod cs q (zr2 M 3 u26)) H := hP.sub (ws' := w_Mod cs q (zr2 M 3 u26)) [0, 1, 2, 8, 3, 4, 5, 6, 7] rfl
            have hD : va_D A (w_Mod cs q (zr2 M 3 u26)) := hD.sub (ws' := w_Mod cs q (zr2 M 3 u26)) [0, 1, 2, 8, 3, 4, 5, 6, 7] (by decide) rfl
            refine lv_pop2_2 hx hb dX4_turn_135 rfl ?_
            refine lv_aload_n hx hb dX4_turn_136 rfl (lv_at hl 4 rfl) ?_
            refine lv_aload_n hx hb dX4_turn_137 rfl (lv_at hl 4 rfl) ?_
            refine va_get (D := D) (ci := 4) (v := .ref (q 3)) (C := RX4) (T := TX4) (N := 11) hx hb hts (h_X4_X4_turn) hown hK hP 0 rfl rfl 4 (by decide) (z_w hts 1 rfl) (fun _ h9 => h9) rfl dX4_turn_138 ?_
            have hFc := va_free (wc := w_Mod cs q (zr2 M 3 u26)) hD hS hA [0, 1, 2, 3, 4, 5, 6, 7, 8] rfl
            refine va_callv (va_runV (As := [.ref (q 3)]) (rest := []) ⟨hx, hb, hml, hown, hts⟩ (c_X4_beat_t l D cs q H.size (zr2 M 3 u26) _ hw) (cwV 1 hts gX4_turn_X4_beat rfl rfl rfl (by decide +kernel) ⟨Nat.le_of_ble_eq_true rfl, Nat.le_of_ble_eq_true rfl⟩) (PC_V hP hD hKK 0 4 rfl rfl) rfl rfl hl.1 rfl (lv_room (Nat.le_of_ble_eq_true rfl)) dX4_turn_141 ⟨Nat.le_of_ble_eq_true rfl, Nat.le_of_ble_eq_true rfl⟩) hS (fun q _ h => hFc q h) hFc (fun u27 t H locs ht hvm hw hB hz1 hk1 hS => ?_)
            obtain ⟨hP1, hD1⟩ := hB
            rw [ht] at hP1
            have hD : va_D A (w_Mod cs q u27) := hD1.weaken (fun k q _ h => hFc q.1 h)
            have hP : va_P D vwCl (w_Mod cs q u27) H := hP1
            exact W.vret hx hb hr (fun t ht hW => ⟨⟨(u27), rfl, hw, by rw [ht]; exact hP, hD⟩, hS.F ht⟩) hS.2.2 dX4_turn_144 hlocks
      · have hw := hw.1 c21
        refine lv_aload_n hx hb dX4_turn_76 rfl (lv_at hl 4 rfl) ?_
        refine va_get (D := D) (ci := 4) (v := .ref (q 3)) (C := RX4) (T := TX4) (N := 11) hx hb hts (h_X4_X4_turn) hown hK hP 0 rfl rfl 4 (by decide) (z_w hts 1 rfl) (fun _ h9 => h9) rfl dX4_turn_77 ?_
        refine lv_iload_n hx hb dX4_turn_80 rfl (lv_at hl 3 rfl) ?_
        refine lv_iload hx hb dX4_turn_81 (lv_at hl 0 rfl) ?_
        have hPc := hP.sub (ws' := w_Row cs (q 3) 336 (M 3)) [3] rfl
        have hDc := hD.sub (ws' := w_Row cs (q 3) 336 (M 3)) [3] (by decide) rfl
        refine z_calli (va_runS (As := [.ref (q 3), .int y2, .int y5]) (rest := []) ⟨hx, hb, hml, hown, hts⟩ (c_X4_fits l D cs (q 3) H.size (M 3) y2 y5 _ hw) (va_cwS 3 hts gX4_turn_X4_fits rfl rfl rfl (by decide +kernel) ⟨Nat.le_of_ble_eq_true rfl, Nat.le_of_ble_eq_true rfl⟩) (PC_S hPc hDc hKK) rfl rfl hl.1 rfl (lv_room (Nat.le_of_ble_eq_true rfl)) dX4_turn_83 ⟨Nat.le_of_ble_eq_true rfl, Nat.le_of_ble_eq_true rfl⟩) (fun r28 hw => ?_)
        obtain ⟨b28, hw⟩ := hw
        refine lv_if_eq (tgt := 114) hx hb dX4_turn_86 (by decide) (fun c29 => ?_) (fun c29 => ?_)
        · have hw := hw.1 c29
          refine lv_iload_n hx hb dX4_turn_114 rfl (lv_at hl 2 rfl) ?_
          refine lv_iconst (v := (5 : Int32)) hx hb dX4_turn_115 (by decide) ?_
          refine lv_icmp_ne (tgt := 136) hx hb dX4_turn_116 (by decide) (fun c30 => ?_) (fun c30 => ?_)
          · have hw := hw.2 c30
            refine lv_aload_n hx hb dX4_turn_136 rfl (lv_at hl 4 rfl) ?_
            refine lv_aload_n hx hb dX4_turn_137 rfl (lv_at hl 4 rfl) ?_
            refine va_get (D := D) (ci := 4) (v := .ref (q 3)) (C := RX4) (T := TX4) (N := 11) hx hb hts (h_X4_X4_turn) hown hK hP 0 rfl rfl 4 (by decide) (z_w hts 1 rfl) (fun _ h9 => h9) rfl dX4_turn_138 ?_
            have hFc := va_free (wc := w_Mod cs q M) hD hS hA [0, 1, 2, 3, 4, 5, 6, 7, 8] rfl
            refine va_callv (va_runV (As := [.ref (q 3)]) (rest := []) ⟨hx, hb, hml, hown, hts⟩ (c_X4_beat_t l D cs q H.size M _ hw) (cwV 1 hts gX4_turn_X4_beat rfl rfl rfl (by decide +kernel) ⟨Nat.le_of_ble_eq_true rfl, Nat.le_of_ble_eq_true rfl⟩) (PC_V hP hD hKK 0 4 rfl rfl) rfl rfl hl.1 rfl (lv_room (Nat.le_of_ble_eq_true rfl)) dX4_turn_141 ⟨Nat.le_of_ble_eq_true rfl, Nat.le_of_ble_eq_true rfl⟩) hS (fun q _ h => hFc q h) hFc (fun u31 t H locs ht hvm hw hB hz1 hk1 hS => ?_)
            obtain ⟨hP1, hD1⟩ := hB
            rw [ht] at hP1
            have hD : va_D A (w_Mod cs q u31) := hD1.weaken (fun k q _ h => hFc q.1 h)
            have hP : va_P D vwCl (w_Mod cs q u31) H := hP1
            exact W.vret hx hb hr (fun t ht hW => ⟨⟨(u31), rfl, hw, by rw [ht]; exact hP, hD⟩, hS.F ht⟩) hS.2.2 dX4_turn_144 hlocks
          · have hw := hw.1 c30
            refine lv_iload_n hx hb dX4_turn_119 rfl (lv_at hl 3 rfl) ?_
            refine lv_iload hx hb dX4_turn_120 (lv_at hl 1 rfl) ?_
            refine lv_icmp_eq (tgt := 136) hx hb dX4_turn_122 (by decide) (fun c32 => ?_) (fun c32 => ?_)
            · have hw := hw.1 c32
              refine lv_aload_n hx hb dX4_turn_136 rfl (lv_at hl 4 rfl) ?_
              refine lv_aload_n hx hb dX4_turn_137 rfl (lv_at hl 4 rfl) ?_
              refine va_get (D := D) (ci := 4) (v := .ref (q 3)) (C := RX4) (T := TX4) (N := 11) hx hb hts (h_X4_X4_turn) hown hK hP 0 rfl rfl 4 (by decide) (z_w hts 1 rfl) (fun _ h9 => h9) rfl dX4_turn_138 ?_
              have hFc := va_free (wc := w_Mod cs q M) hD hS hA [0, 1, 2, 3, 4, 5, 6, 7, 8] rfl
              refine va_callv (va_runV (As := [.ref (q 3)]) (rest := []) ⟨hx, hb, hml, hown, hts⟩ (c_X4_beat_t l D cs q H.size M _ hw) (cwV 1 hts gX4_turn_X4_beat rfl rfl rfl (by decide +kernel) ⟨Nat.le_of_ble_eq_true rfl, Nat.le_of_ble_eq_true rfl⟩) (PC_V hP hD hKK 0 4 rfl rfl) rfl rfl hl.1 rfl (lv_room (Nat.le_of_ble_eq_true rfl)) dX4_turn_141 ⟨Nat.le_of_ble_eq_true rfl, Nat.le_of_ble_eq_true rfl⟩) hS (fun q _ h => hFc q h) hFc (fun u33 t H locs ht hvm hw hB hz1 hk1 hS => ?_)
              obtain ⟨hP1, hD1⟩ := hB
              rw [ht] at hP1
              have hD : va_D A (w_Mod cs q u33) := hD1.weaken (fun k q _ h => hFc q.1 h)
              have hP : va_P D vwCl (w_Mod cs q u33) H := hP1
              exact W.vret hx hb hr (fun t ht hW => ⟨⟨(u33), rfl, hw, by rw [ht]; exact hP, hD⟩, hS.F ht⟩) hS.2.2 dX4_turn_144 hlocks
            · have hw := hw.2 c32
              refine lv_aload_n hx hb dX4_turn_125 rfl (lv_at hl 4 rfl) ?_
              refine va_get (D := D) (ci := 4) (v := .ref (q 3)) (C := RX4) (T := TX4) (N := 11) hx hb hts (h_X4_X4_turn) hown hK hP 0 rfl rfl 4 (by decide) (z_w hts 1 rfl) (fun _ h9 => h9) rfl dX4_turn_126 ?_
              refine lv_iload_n hx hb dX4_turn_129 rfl (lv_at hl 3 rfl) ?_
              refine lv_iload hx hb dX4_turn_130 (lv_at hl 1 rfl) ?_
              have hPc := hP.sub (ws' := w_Row cs (q 3) 336 (M 3)) [3] rfl
              have hDc := hD.sub (ws' := w_Row cs (q 3) 336 (M 3)) [3] (by decide) rfl
              have hFc := va_free (wc := w_Row cs (q 3) 336 (M 3)) hD hS hA [3] rfl
              refine va_calll (va_runS (As := [.ref (q 3), .int y2, .int y4]) (rest := []) ⟨hx, hb, hml, hown, hts⟩ (c_X4_pourOn l D cs (q 3) H.size (M 3) y2 y4 _ hw) (va_cwS 3 hts gX4_turn_X4_pourOn rfl rfl rfl (by decide +kernel) ⟨Nat.le_of_ble_eq_true rfl, Nat.le_of_ble_eq_true rfl⟩) (PC_S hPc hDc hKK) rfl rfl hl.1 rfl (lv_room (Nat.le_of_ble_eq_true rfl)) dX4_turn_132 ⟨Nat.le_of_ble_eq_true rfl, Nat.le_of_ble_eq_true rfl⟩) hS (fun q _ h => hFc q h) hFc (fun r34 u34 t H locs ht hvm hw hB hz1 hk1 hS => ?_)
              obtain ⟨hP1, hD1⟩ := hB
              rw [ht] at hP1
              obtain ⟨hP, hD⟩ := va_join (wr := ([0, 1, 2, 4, 5, 6, 7, 8].filterMap (fun i => (w_Mod cs q M)[i]?))) (w1 := w_Row cs (q 3) 336 u34) hP hD [3] [0, 1, 2, 4, 5, 6, 7, 8] rfl rfl (by decide) (by decide) hk1 hFc hP1 hD1
              have hP : va_P D vwCl (w_Mod cs q (zr2 M 3 u34)) H := hP.sub (ws' := w_Mod cs q (zr2 M 3 u34)) [0, 1, 2, 8, 3, 4, 5, 6, 7] rfl
              have hD : va_D A (w_Mod cs q (zr2 M 3 u34)) := hD.sub (ws' := w_Mod cs q (zr2 M 3 u34)) [0, 1, 2, 8, 3, 4, 5, 6, 7] (by decide) rfl
              refine lv_pop2_2 hx hb dX4_turn_135 rfl ?_
              refine lv_aload_n hx hb dX4_turn_136 rfl (lv_at hl 4 rfl) ?_
              refine lv_aload_n hx hb dX4_turn_137 rfl (lv_at hl 4 rfl) ?_
              refine va_get (D := D) (ci := 4) (v := .ref (q 3)) (C := RX4) (T := TX4) (N := 11) hx hb hts (h_X4_X4_turn) hown hK hP 0 rfl rfl 4 (by decide) (z_w hts 1 rfl) (fun _ h9 => h9) rfl dX4_turn_138 ?_
              have hFc := va_free (wc := w_Mod cs q (zr2 M 3 u34)) hD hS hA [0, 1, 2, 3, 4, 5, 6, 7, 8] rfl
              refine va_callv (va_runV (As := [.ref (q 3)]) (rest := []) ⟨hx, hb, hml, hown, hts⟩ (c_X4_beat_t l D cs q H.size (zr2 M 3 u34) _ hw) (cwV 1 hts gX4_turn_X4_beat rfl rfl rfl (by decide +kernel) ⟨Nat.le_of_ble_eq_true rfl, Nat.le_of_ble_eq_true rfl⟩) (PC_V hP hD hKK 0 4 rfl rfl) rfl rfl hl.1 rfl (lv_room (Nat.le_of_ble_eq_true rfl)) dX4_turn_141 ⟨Nat.le_of_ble_eq_true rfl, Nat.le_of_ble_eq_true rfl⟩) hS (fun q _ h => hFc q h) hFc (fun u35 t H locs ht hvm hw hB hz1 hk1 hS => ?_)
              obtain ⟨hP1, hD1⟩ := hB
              rw [ht] at hP1
              have hD : va_D A (w_Mod cs q u35) := hD1.weaken (fun k q _ h => hFc q.1 h)
              have hP : va_P D vwCl (w_Mod cs q u35) H := hP1
              exact W.vret hx hb hr (fun t ht hW => ⟨⟨(u35), rfl, hw, by rw [ht]; exact hP, hD⟩, hS.F ht⟩) hS.2.2 dX4_turn_144 hlocks
        · have hw := hw.2 c29
          refine lv_aload_n hx hb dX4_turn_89 rfl (lv_at hl 4 rfl) ?_
          refine va_get (D := D) (ci := 4) (v := .ref (q 3)) (C := RX4) (T := TX4) (N := 11) hx hb hts (h_X4_X4_turn) hown hK hP 0 rfl rfl 4 (by decide) (z_w hts 1 rfl) (fun _ h9 => h9) rfl dX4_turn_90 ?_
          refine lv_iload_n hx hb dX4_turn_93 rfl (lv_at hl 3 rfl) ?_
          refine lv_iload_n hx hb dX4_turn_94 rfl (lv_at hl 2 rfl) ?_
          refine lv_iconst (v := (3 : Int32)) hx hb dX4_turn_95 (by decide) ?_
          refine lv_icmp_ne (tgt := 104) hx hb dX4_turn_96 (by decide) (fun c36 => ?_) (fun c36 => ?_)
          · have hw := hw.2 c36
            refine lv_iload hx hb dX4_turn_104 (lv_at hl 0 rfl) ?_
            refine lv_ineg hx hb dX4_turn_106 ?_
            have hPc := hP.sub (ws' := w_Row cs (q 3) 336 (M 3)) [3] rfl
            have hDc := hD.sub (ws' := w_Row cs (q 3) 336 (M 3)) [3] (by decide) rfl
            have hFc := va_free (wc := w_Row cs (q 3) 336 (M 3)) hD hS hA [3] rfl
            refine va_calli (va_runS (As := [.ref (q 3), .int y2, .int (-y5)]) (rest := []) ⟨hx, hb, hml, hown, hts⟩ (c_X4_addOn l D cs (q 3) H.size (M 3) y2 (-y5) _ hw) (va_cwS 3 hts gX4_turn_X4_addOn rfl rfl rfl (by decide +kernel) ⟨Nat.le_of_ble_eq_true rfl, Nat.le_of_ble_eq_true rfl⟩) (PC_S hPc hDc hKK) rfl rfl hl.1 rfl (lv_room (Nat.le_of_ble_eq_true rfl)) dX4_turn_107 ⟨Nat.le_of_ble_eq_true rfl, Nat.le_of_ble_eq_true rfl⟩) hS (fun q _ h => hFc q h) hFc (fun r37 u37 t H locs ht hvm hw hB hz1 hk1 hS => ?_)
            obtain ⟨hP1, hD1⟩ := hB
            rw [ht] at hP1
            obtain ⟨hP, hD⟩ := va_join (wr := ([0, 1, 2, 4, 5, 6, 7, 8].filterMap (fun i => (w_Mod cs q M)[i]?))) (w1 := w_Row cs (q 3) 336 u37) hP hD [3] [0, 1, 2, 4, 5, 6, 7, 8] rfl rfl (by decide) (by decide) hk1 hFc hP1 hD1
            have hP : va_P D vwCl (w_Mod cs q (zr2 M 3 u37)) H := hP.sub (ws' := w_Mod cs q (zr2 M 3 u37)) [0, 1, 2, 8, 3, 4, 5, 6, 7] rfl
            have hD : va_D A (w_Mod cs q (zr2 M 3 u37)) := hD.sub (ws' := w_Mod cs q (zr2 M 3 u37)) [0, 1, 2, 8, 3, 4, 5, 6, 7] (by decide) rfl
            refine lv_pop hx hb dX4_turn_110 rfl ?_
            refine lv_goto (tgt := 136) hx hb dX4_turn_111 (by decide) ?_
            refine lv_aload_n hx hb dX4_turn_136 rfl (lv_at hl 4 rfl) ?_
            refine lv_aload_n hx hb dX4_turn_137 rfl (lv_at hl 4 rfl) ?_
            refine va_get (D := D) (ci := 4) (v := .ref (q 3)) (C := RX4) (T := TX4) (N := 11) hx hb hts (h_X4_X4_turn) hown hK hP 0 rfl rfl 4 (by decide) (z_w hts 1 rfl) (fun _ h9 => h9) rfl dX4_turn_138 ?_
            have hFc := va_free (wc := w_Mod cs q (zr2 M 3 u37)) hD hS hA [0, 1, 2, 3, 4, 5, 6, 7, 8] rfl
            refine va_callv (va_runV (As := [.ref (q 3)]) (rest := []) ⟨hx, hb, hml, hown, hts⟩ (c_X4_beat_t l D cs q H.size (zr2 M 3 u37) _ hw) (cwV 1 hts gX4_turn_X4_beat rfl rfl rfl (by decide +kernel) ⟨Nat.le_of_ble_eq_true rfl, Nat.le_of_ble_eq_true rfl⟩) (PC_V hP hD hKK 0 4 rfl rfl) rfl rfl hl.1 rfl (lv_room (Nat.le_of_ble_eq_true rfl)) dX4_turn_141 ⟨Nat.le_of_ble_eq_true rfl, Nat.le_of_ble_eq_true rfl⟩) hS (fun q _ h => hFc q h) hFc (fun u38 t H locs ht hvm hw hB hz1 hk1 hS => ?_)
            obtain ⟨hP1, hD1⟩ := hB
            rw [ht] at hP1
            have hD : va_D A (w_Mod cs q u38) := hD1.weaken (fun k q _ h => hFc q.1 h)
            have hP : va_P D vwCl (w_Mod cs q u38) H := hP1
            exact W.vret hx hb hr (fun t ht hW => ⟨⟨(u38), rfl, hw, by rw [ht]; exact hP, hD⟩, hS.F ht⟩) hS.2.2 dX4_turn_144 hlocks
          · have hw := hw.1 c36
            refine lv_iload hx hb dX4_turn_99 (lv_at hl 0 rfl) ?_
            refine lv_goto (tgt := 107) hx hb dX4_turn_101 (by decide) ?_
            have hPc := hP.sub (ws' := w_Row cs (q 3) 336 (M 3)) [3] rfl
            have hDc := hD.sub (ws' := w_Row cs (q 3) 336 (M 3)) [3] (by decide) rfl
            have hFc := va_free (wc := w_Row cs (q 3) 336 (M 3)) hD hS hA [3] rfl
            refine va_calli (va_runS (As := [.ref (q 3), .int y2, .int y5]) (rest := []) ⟨hx, hb, hml, hown, hts⟩ (c_X4_addOn l D cs (q 3) H.size (M 3) y2 y5 _ hw) (va_cwS 3 hts gX4_turn_X4_addOn rfl rfl rfl (by decide +kernel) ⟨Nat.le_of_ble_eq_true rfl, Nat.le_of_ble_eq_true rfl⟩) (PC_S hPc hDc hKK) rfl rfl hl.1 rfl (lv_room (Nat.le_of_ble_eq_true rfl)) dX4_turn_107 ⟨Nat.le_of_ble_eq_true rfl, Nat.le_of_ble_eq_true rfl⟩) hS (fun q _ h => hFc q h) hFc (fun r39 u39 t H locs ht hvm hw hB hz1 hk1 hS => ?_)
            obtain ⟨hP1, hD1⟩ := hB
            rw [ht] at hP1
            obtain ⟨hP, hD⟩ := va_join (wr := ([0, 1, 2, 4, 5, 6, 7, 8].filterMap (fun i => (w_Mod cs q M)[i]?))) (w1 := w_Row cs (q 3) 336 u39) hP hD [3] [0, 1, 2, 4, 5, 6, 7, 8] rfl rfl (by decide) (by decide) hk1 hFc hP1 hD1
            have hP : va_P D vwCl (w_Mod cs q (zr2 M 3 u39)) H := hP.sub (ws' := w_Mod cs q (zr2 M 3 u39)) [0, 1, 2, 8, 3, 4, 5, 6, 7] rfl
            have hD : va_D A (w_Mod cs q (zr2 M 3 u39)) := hD.sub (ws' := w_Mod cs q (zr2 M 3 u39)) [0, 1, 2, 8, 3, 4, 5, 6, 7] (by decide) rfl
            refine lv_pop hx hb dX4_turn_110 rfl ?_
            refine lv_goto (tgt := 136) hx hb dX4_turn_111 (by decide) ?_
            refine lv_aload_n hx hb dX4_turn_136 rfl (lv_at hl 4 rfl) ?_
            refine lv_aload_n hx hb dX4_turn_137 rfl (lv_at hl 4 rfl) ?_
            refine va_get (D := D) (ci := 4) (v := .ref (q 3)) (C := RX4) (T := TX4) (N := 11) hx hb hts (h_X4_X4_turn) hown hK hP 0 rfl rfl 4 (by decide) (z_w hts 1 rfl) (fun _ h9 => h9) rfl dX4_turn_138 ?_
            have hFc := va_free (wc := w_Mod cs q (zr2 M 3 u39)) hD hS hA [0, 1, 2, 3, 4, 5, 6, 7, 8] rfl
            refine va_callv (va_runV (As := [.ref (q 3)]) (rest := []) ⟨hx, hb, hml, hown, hts⟩ (c_X4_beat_t l D cs q H.size (zr2 M 3 u39) _ hw) (cwV 1 hts gX4_turn_X4_beat rfl rfl rfl (by decide +kernel) ⟨Nat.le_of_ble_eq_true rfl, Nat.le_of_ble_eq_true rfl⟩) (PC_V hP hD hKK 0 4 rfl rfl) rfl rfl hl.1 rfl (lv_room (Nat.le_of_ble_eq_true rfl)) dX4_turn_141 ⟨Nat.le_of_ble_eq_true rfl, Nat.le_of_ble_eq_true rfl⟩) hS (fun q _ h => hFc q h) hFc (fun u40 t H locs ht hvm hw hB hz1 hk1 hS => ?_)
            obtain ⟨hP1, hD1⟩ := hB
            rw [ht] at hP1
            have hD : va_D A (w_Mod cs q u40) := hD1.weaken (fun k q _ h => hFc q.1 h)
            have hP : va_P D vwCl (w_Mod cs q u40) H := hP1
            exact W.vret hx hb hr (fun t ht hW => ⟨⟨(u40), rfl, hw, by rw [ht]; exact hP, hD⟩, hS.F ht⟩) hS.2.2 dX4_turn_144 hlocks
  · have hw := hw.2 c6
    refine lv_aload_n hx hb dX4_turn_43 rfl (lv_at hl 4 rfl) ?_
    refine va_get (D := D) (ci := 4) (v := .ref (q 3)) (C := RX4) (T := TX4) (N := 11) hx hb hts (h_X4_X4_turn) hown hK hP 0 rfl rfl 4 (by decide) (z_w hts 1 rfl) (fun _ h9 => h9) rfl dX4_turn_44 ?_
    refine lv_iconst (v := (3 : Int32)) hx hb dX4_turn_47 (by decide) ?_
    refine va_iald hx hb hK hP 3 0 rfl rfl (show vp_in (3 : Int32) 336 by unfold vp_in; decide) dX4_turn_48 ?_
    refine lv_bipush (v := (40 : Int32)) hx hb dX4_turn_49 (by decide) ?_
    refine lv_icmp_ge (tgt := 66) hx hb dX4_turn_51 (by decide) (fun c41 => ?_) (fun c41 => ?_)
    · have hw := hw.1 c41
      refine lv_iload_n hx hb dX4_turn_66 rfl (lv_at hl 2 rfl) ?_
      refine lv_iconst (v := (3 : Int32)) hx hb dX4_turn_67 (by decide) ?_
      refine lv_icmp_eq (tgt := 76) hx hb dX4_turn_68 (by decide) (fun c42 => ?_) (fun c42 => ?_)
      · have hw := hw.1 c42
        refine lv_aload_n hx hb dX4_turn_76 rfl (lv_at hl 4 rfl) ?_
        refine va_get (D := D) (ci := 4) (v := .ref (q 3)) (C := RX4) (T := TX4) (N := 11) hx hb hts (h_X4_X4_turn) hown hK hP 0 rfl rfl 4 (by decide) (z_w hts 1 rfl) (fun _ h9 => h9) rfl dX4_turn_77 ?_
        refine lv_iload_n hx hb dX4_turn_80 rfl (lv_at hl 3 rfl) ?_
        refine lv_iload hx hb dX4_turn_81 (lv_at hl 0 rfl) ?_
        have hPc := hP.sub (ws' := w_Row cs (q 3) 336 (M 3)) [3] rfl
        have hDc := hD.sub (ws' := w_Row cs (q 3) 336 (M 3)) [3] (by decide) rfl
        refine z_calli (va_runS (As := [.ref (q 3), .int y2, .int y5]) (rest := []) ⟨hx, hb, hml, hown, hts⟩ (c_X4_fits l D cs (q 3) H.size (M 3) y2 y5 _ hw) (va_cwS 3 hts gX4_turn_X4_fits rfl rfl rfl (by decide +kernel) ⟨Nat.le_of_ble_eq_true rfl, Nat.le_of_ble_eq_true rfl⟩) (PC_S hPc hDc hKK) rfl rfl hl.1 rfl (lv_room (Nat.le_of_ble_eq_true rfl)) dX4_turn_83 ⟨Nat.le_of_ble_eq_true rfl, Nat.le_of_ble_eq_true rfl⟩) (fun r43 hw => ?_)
        obtain ⟨b43, hw⟩ := hw
        refine lv_if_eq (tgt := 114) hx hb dX4_turn_86 (by decide) (fun c44 => ?_) (fun c44 => ?_)
        · have hw := hw.1 c44
          refine lv_iload_n hx hb dX4_turn_114 rfl (lv_at hl 2 rfl) ?_
          refine lv_iconst (v := (5 : Int32)) hx hb dX4_turn_115 (by decide) ?_
          refine lv_icmp_ne (tgt := 136) hx hb dX4_turn_116 (by decide) (fun c45 => ?_) (fun c45 => ?_)
          · have hw := hw.2 c45
            refine lv_aload_n hx hb dX4_turn_136 rfl (lv_at hl 4 rfl) ?_
            refine lv_aload_n hx hb dX4_turn_137 rfl (lv_at hl 4 rfl) ?_
            refine va_get (D := D) (ci := 4) (v := .ref (q 3)) (C := RX4) (T := TX4) (N := 11) hx hb hts (h_X4_X4_turn) hown hK hP 0 rfl rfl 4 (by decide) (z_w hts 1 rfl) (fun _ h9 => h9) rfl dX4_turn_138 ?_
            have hFc := va_free (wc := w_Mod cs q M) hD hS hA [0, 1, 2, 3, 4, 5, 6, 7, 8] rfl
            refine va_callv (va_runV (As := [.ref (q 3)]) (rest := []) ⟨hx, hb, hml, hown, hts⟩ (c_X4_beat_t l D cs q H.size M _ hw) (cwV 1 hts gX4_turn_X4_beat rfl rfl rfl (by decide +kernel) ⟨Nat.le_of_ble_eq_true rfl, Nat.le_of_ble_eq_true rfl⟩) (PC_V hP hD hKK 0 4 rfl rfl) rfl rfl hl.1 rfl (lv_room (Nat.le_of_ble_eq_true rfl)) dX4_turn_141 ⟨Nat.le_of_ble_eq_true rfl, Nat.le_of_ble_eq_true rfl⟩) hS (fun q _ h => hFc q h) hFc (fun u46 t H locs ht hvm hw hB hz1 hk1 hS => ?_)
            obtain ⟨hP1, hD1⟩ := hB
            rw [ht] at hP1
            have hD : va_D A (w_Mod cs q u46) := hD1.weaken (fun k q _ h => hFc q.1 h)
            have hP : va_P D vwCl (w_Mod cs q u46) H := hP1
            exact W.vret hx hb hr (fun t ht hW => ⟨⟨(u46), rfl, hw, by rw [ht]; exact hP, hD⟩, hS.F ht⟩) hS.2.2 dX4_turn_144 hlocks
          · have hw := hw.1 c45
            refine lv_iload_n hx hb dX4_turn_119 rfl (lv_at hl 3 rfl) ?_
            refine lv_iload hx hb dX4_turn_120 (lv_at hl 1 rfl) ?_
            refine lv_icmp_eq (tgt := 136) hx hb dX4_turn_122 (by decide) (fun c47 => ?_) (fun c47 => ?_)
            · have hw := hw.1 c47
              refine lv_aload_n hx hb dX4_turn_136 rfl (lv_at hl 4 rfl) ?_
              refine lv_aload_n hx hb dX4_turn_137 rfl (lv_at hl 4 rfl) ?_
              refine va_get (D := D) (ci := 4) (v := .ref (q 3)) (C := RX4) (T := TX4) (N := 11) hx hb hts (h_X4_X4_turn) hown hK hP 0 rfl rfl 4 (by decide) (z_w hts 1 rfl) (fun _ h9 => h9) rfl dX4_turn_138 ?_
              have hFc := va_free (wc := w_Mod cs q M) hD hS hA [0, 1, 2, 3, 4, 5, 6, 7, 8] rfl
              refine va_callv (va_runV (As := [.ref (q 3)]) (rest := []) ⟨hx, hb, hml, hown, hts⟩ (c_X4_beat_t l D cs q H.size M _ hw) (cwV 1 hts gX4_turn_X4_beat rfl rfl rfl (by decide +kernel) ⟨Nat.le_of_ble_eq_true rfl, Nat.le_of_ble_eq_true rfl⟩) (PC_V hP hD hKK 0 4 rfl rfl) rfl rfl hl.1 rfl (lv_room (Nat.le_of_ble_eq_true rfl)) dX4_turn_141 ⟨Nat.le_of_ble_eq_true rfl, Nat.le_of_ble_eq_true rfl⟩) hS (fun q _ h => hFc q h) hFc (fun u48 t H locs ht hvm hw hB hz1 hk1 hS => ?_)
              obtain ⟨hP1, hD1⟩ := hB
              rw [ht] at hP1
              have hD : va_D A (w_Mod cs q u48) := hD1.weaken (fun k q _ h => hFc q.1 h)
              have hP : va_P D vwCl (w_Mod cs q u48) H := hP1
              exact W.vret hx hb hr (fun t ht hW => ⟨⟨(u48), rfl, hw, by rw [ht]; exact hP, hD⟩, hS.F ht⟩) hS.2.2 dX4_turn_144 hlocks
            · have hw := hw.2 c47
              refine lv_aload_n hx hb dX4_turn_125 rfl (lv_at hl 4 rfl) ?_
              refine va_get (D := D) (ci := 4) (v := .ref (q 3)) (C := RX4) (T := TX4) (N := 11) hx hb hts (h_X4_X4_turn) hown hK hP 0 rfl rfl 4 (by decide) (z_w hts 1 rfl) (fun _ h9 => h9) rfl dX4_turn_126 ?_
              refine lv_iload_n hx hb dX4_turn_129 rfl (lv_at hl 3 rfl) ?_
              refine lv_iload hx hb dX4_turn_130 (lv_at hl 1 rfl) ?_
              have hPc := hP.sub (ws' := w_Row cs (q 3) 336 (M 3)) [3] rfl
              have hDc := hD.sub (ws' := w_Row cs (q 3) 336 (M 3)) [3] (by decide) rfl
              have hFc := va_free (wc := w_Row cs (q 3) 336 (M 3)) hD hS hA [3] rfl
              refine va_calll (va_runS (As := [.ref (q 3), .int y2, .int y4]) (rest := []) ⟨hx, hb, hml, hown, hts⟩ (c_X4_pourOn l D cs (q 3) H.size (M 3) y2 y4 _ hw) (va_cwS 3 hts gX4_turn_X4_pourOn rfl rfl rfl (by decide +kernel) ⟨Nat.le_of_ble_eq_true rfl, Nat.le_of_ble_eq_true rfl⟩) (PC_S hPc hDc hKK) rfl rfl hl.1 rfl (lv_room (Nat.le_of_ble_eq_true rfl)) dX4_turn_132 ⟨Nat.le_of_ble_eq_true rfl, Nat.le_of_ble_eq_true rfl⟩) hS (fun q _ h => hFc q h) hFc (fun r49 u49 t H locs ht hvm hw hB hz1 hk1 hS => ?_)
              obtain ⟨hP1, hD1⟩ := hB
              rw [ht] at hP1
              obtain ⟨hP, hD⟩ := va_join (wr := ([0, 1, 2, 4, 5, 6, 7, 8].filterMap (fun i => (w_Mod cs q M)[i]?))) (w1 := w_Row cs (q 3) 336 u49) hP hD [3] [0, 1, 2, 4, 5, 6, 7, 8] rfl rfl (by decide) (by decide) hk1 hFc hP1 hD1
              have hP : va_P D vwCl (w_Mod cs q (zr2 M 3 u49)) H := hP.sub (ws' := w_Mod cs q (zr2 M 3 u49)) [0, 1, 2, 8, 3, 4, 5, 6, 7] rfl
              have hD : va_D A (w_Mod cs q (zr2 M 3 u49)) := hD.sub (ws' := w_Mod cs q (zr2 M 3 u49)) [0, 1, 2, 8, 3, 4, 5, 6, 7] (by decide) rfl
              refine lv_pop2_2 hx hb dX4_turn_135 rfl ?_
              refine lv_aload_n hx hb dX4_turn_136 rfl (lv_at hl 4 rfl) ?_
              refine lv_aload_n hx hb dX4_turn_137 rfl (lv_at hl 4 rfl) ?_
              refine va_get (D := D) (ci := 4) (v := .ref (q 3)) (C := RX4) (T := TX4) (N := 11) hx hb hts (h_X4_X4_turn) hown hK hP 0 rfl rfl 4 (by decide) (z_w hts 1 rfl) (fun _ h9 => h9) rfl dX4_turn_138 ?_
              have hFc := va_free (wc := w_Mod cs q (zr2 M 3 u49)) hD hS hA [0, 1, 2, 3, 4, 5, 6, 7, 8] rfl
              refine va_callv (va_runV (As := [.ref (q 3)]) (rest := []) ⟨hx, hb, hml, hown, hts⟩ (c_X4_beat_t l D cs q H.size (zr2 M 3 u49) _ hw) (cwV 1 hts gX4_turn_X4_beat rfl rfl rfl (by decide +kernel) ⟨Nat.le_of_ble_eq_true rfl, Nat.le_of_ble_eq_true rfl⟩) (PC_V hP hD hKK 0 4 rfl rfl) rfl rfl hl.1 rfl (lv_room (Nat.le_of_ble_eq_true rfl)) dX4_turn_141 ⟨Nat.le_of_ble_eq_true rfl, Nat.le_of_ble_eq_true rfl⟩) hS (fun q _ h => hFc q h) hFc (fun u50 t H locs ht hvm hw hB hz1 hk1 hS => ?_)
              obtain ⟨hP1, hD1⟩ := hB
              rw [ht] at hP1
              have hD : va_D A (w_Mod cs q u50) := hD1.weaken (fun k q _ h => hFc q.1 h)
              have hP : va_P D vwCl (w_Mod cs q u50) H := hP1
              exact W.vret hx hb hr (fun t ht hW => ⟨⟨(u50), rfl, hw, by rw [ht]; exact hP, hD⟩, hS.F ht⟩) hS.2.2 dX4_turn_144 hlocks
        · have hw := hw.2 c44
          refine lv_aload_n hx hb dX4_turn_89 rfl (lv_at hl 4 rfl) ?_
          refine va_get (D := D) (ci := 4) (v := .ref (q 3)) (C := RX4) (T := TX4) (N := 11) hx hb hts (h_X4_X4_turn) hown hK hP 0 rfl rfl 4 (by decide) (z_w hts 1 rfl) (fun _ h9 => h9) rfl dX4_turn_90 ?_
          refine lv_iload_n hx hb dX4_turn_93 rfl (lv_at hl 3 rfl) ?_
          refine lv_iload_n hx hb dX4_turn_94 rfl (lv_at hl 2 rfl) ?_
          refine lv_iconst (v := (3 : Int32)) hx hb dX4_turn_95 (by decide) ?_
          refine lv_icmp_ne (tgt := 104) hx hb dX4_turn_96 (by decide) (fun c51 => ?_) (fun c51 => ?_)
          · have hw := hw.2 c51
            refine lv_iload hx hb dX4_turn_104 (lv_at hl 0 rfl) ?_
            refine lv_ineg hx hb dX4_turn_106 ?_
            have hPc := hP.sub (ws' := w_Row cs (q 3) 336 (M 3)) [3] rfl
            have hDc := hD.sub (ws' := w_Row cs (q 3) 336 (M 3)) [3] (by decide) rfl
            have hFc := va_free (wc := w_Row cs (q 3) 336 (M 3)) hD hS hA [3] rfl
            refine va_calli (va_runS (As := [.ref (q 3), .int y2, .int (-y5)]) (rest := []) ⟨hx, hb, hml, hown, hts⟩ (c_X4_addOn l D cs (q 3) H.size (M 3) y2 (-y5) _ hw) (va_cwS 3 hts gX4_turn_X4_addOn rfl rfl rfl (by decide +kernel) ⟨Nat.le_of_ble_eq_true rfl, Nat.le_of_ble_eq_true rfl⟩) (PC_S hPc hDc hKK) rfl rfl hl.1 rfl (lv_room (Nat.le_of_ble_eq_true rfl)) dX4_turn_107 ⟨Nat.le_of_ble_eq_true rfl, Nat.le_of_ble_eq_true rfl⟩) hS (fun q _ h => hFc q h) hFc (fun r52 u52 t H locs ht hvm hw hB hz1 hk1 hS => ?_)
            obtain ⟨hP1, hD1⟩ := hB
            rw [ht] at hP1
            obtain ⟨hP, hD⟩ := va_join (wr := ([0, 1, 2, 4, 5, 6, 7, 8].filterMap (fun i => (w_Mod cs q M)[i]?))) (w1 := w_Row cs (q 3) 336 u52) hP hD [3] [0, 1, 2, 4, 5, 6, 7, 8] rfl rfl (by decide) (by decide) hk1 hFc hP1 hD1
            have hP : va_P D vwCl (w_Mod cs q (zr2 M 3 u52)) H := hP.sub (ws' := w_Mod cs q (zr2 M 3 u52)) [0, 1, 2, 8, 3, 4, 5, 6, 7] rfl
            have hD : va_D A (w_Mod cs q (zr2 M 3 u52)) := hD.sub (ws' := w_Mod cs q (zr2 M 3 u52)) [0, 1, 2, 8, 3, 4, 5, 6, 7] (by decide) rfl
            refine lv_pop hx hb dX4_turn_110 rfl ?_
            refine lv_goto (tgt := 136) hx hb dX4_turn_111 (by decide) ?_
            refine lv_aload_n hx hb dX4_turn_136 rfl (lv_at hl 4 rfl) ?_
            refine lv_aload_n hx hb dX4_turn_137 rfl (lv_at hl 4 rfl) ?_
            refine va_get (D := D) (ci := 4) (v := .ref (q 3)) (C := RX4) (T := TX4) (N := 11) hx hb hts (h_X4_X4_turn) hown hK hP 0 rfl rfl 4 (by decide) (z_w hts 1 rfl) (fun _ h9 => h9) rfl dX4_turn_138 ?_
            have hFc := va_free (wc := w_Mod cs q (zr2 M 3 u52)) hD hS hA [0, 1, 2, 3, 4, 5, 6, 7, 8] rfl
            refine va_callv (va_runV (As := [.ref (q 3)]) (rest := []) ⟨hx, hb, hml, hown, hts⟩ (c_X4_beat_t l D cs q H.size (zr2 M 3 u52) _ hw) (cwV 1 hts gX4_turn_X4_beat rfl rfl rfl (by decide +kernel) ⟨Nat.le_of_ble_eq_true rfl, Nat.le_of_ble_eq_true rfl⟩) (PC_V hP hD hKK 0 4 rfl rfl) rfl rfl hl.1 rfl (lv_room (Nat.le_of_ble_eq_true rfl)) dX4_turn_141 ⟨Nat.le_of_ble_eq_true rfl, Nat.le_of_ble_eq_true rfl⟩) hS (fun q _ h => hFc q h) hFc (fun u53 t H locs ht hvm hw hB hz1 hk1 hS => ?_)
            obtain ⟨hP1, hD1⟩ := hB
            rw [ht] at hP1
            have hD : va_D A (w_Mod cs q u53) := hD1.weaken (fun k q _ h => hFc q.1 h)
            have hP : va_P D vwCl (w_Mod cs q u53) H := hP1
            exact W.vret hx hb hr (fun t ht hW => ⟨⟨(u53), rfl, hw, by rw [ht]; exact hP, hD⟩, hS.F ht⟩) hS.2.2 dX4_turn_144 hlocks
          · have hw := hw.1 c51
            refine lv_iload hx hb dX4_turn_99 (lv_at hl 0 rfl) ?_
            refine lv_goto (tgt := 107) hx hb dX4_turn_101 (by decide) ?_
            have hPc := hP.sub (ws' := w_Row cs (q 3) 336 (M 3)) [3] rfl
            have hDc := hD.sub (ws' := w_Row cs (q 3) 336 (M 3)) [3] (by decide) rfl
            have hFc := va_free (wc := w_Row cs (q 3) 336 (M 3)) hD hS hA [3] rfl
            refine va_calli (va_runS (As := [.ref (q 3), .int y2, .int y5]) (rest := []) ⟨hx, hb, hml, hown, hts⟩ (c_X4_addOn l D cs (q 3) H.size (M 3) y2 y5 _ hw) (va_cwS 3 hts gX4_turn_X4_addOn rfl rfl rfl (by decide +kernel) ⟨Nat.le_of_ble_eq_true rfl, Nat.le_of_ble_eq_true rfl⟩) (PC_S hPc hDc hKK) rfl rfl hl.1 rfl (lv_room (Nat.le_of_ble_eq_true rfl)) dX4_turn_107 ⟨Nat.le_of_ble_eq_true rfl, Nat.le_of_ble_eq_true rfl⟩) hS (fun q _ h => hFc q h) hFc (fun r54 u54 t H locs ht hvm hw hB hz1 hk1 hS => ?_)
            obtain ⟨hP1, hD1⟩ := hB
            rw [ht] at hP1
            obtain ⟨hP, hD⟩ := va_join (wr := ([0, 1, 2, 4, 5, 6, 7, 8].filterMap (fun i => (w_Mod cs q M)[i]?))) (w1 := w_Row cs (q 3) 336 u54) hP hD [3] [0, 1, 2, 4, 5, 6, 7, 8] rfl rfl (by decide) (by decide) hk1 hFc hP1 hD1
            have hP : va_P D vwCl (w_Mod cs q (zr2 M 3 u54)) H := hP.sub (ws' := w_Mod cs q (zr2 M 3 u54)) [0, 1, 2, 8, 3, 4, 5, 6, 7] rfl
            have hD : va_D A (w_Mod cs q (zr2 M 3 u54)) := hD.sub (ws' := w_Mod cs q (zr2 M 3 u54)) [0, 1, 2, 8, 3, 4, 5, 6, 7] (by decide) rfl
            refine lv_pop hx hb dX4_turn_110 rfl ?_
            refine lv_goto (tgt := 136) hx hb dX4_turn_111 (by decide) ?_
            refine lv_aload_n hx hb dX4_turn_136 rfl (lv_at hl 4 rfl) ?_
            refine lv_aload_n hx hb dX4_turn_137 rfl (lv_at hl 4 rfl) ?_
            refine va_get (D := D) (ci := 4) (v := .ref (q 3)) (C := RX4) (T := TX4) (N := 11) hx hb hts (h_X4_X4_turn) hown hK hP 0 rfl rfl 4 (by decide) (z_w hts 1 rfl) (fun _ h9 => h9) rfl dX4_turn_138 ?_
            have hFc := va_free (wc := w_Mod cs q (zr2 M 3 u54)) hD hS hA [0, 1, 2, 3, 4, 5, 6, 7, 8] rfl
            refine va_callv (va_runV (As := [.ref (q 3)]) (rest := []) ⟨hx, hb, hml, hown, hts⟩ (c_X4_beat_t l D cs q H.size (zr2 M 3 u54) _ hw) (cwV 1 hts gX4_turn_X4_beat rfl rfl rfl (by decide +kernel) ⟨Nat.le_of_ble_eq_true rfl, Nat.le_of_ble_eq_true rfl⟩) (PC_V hP hD hKK 0 4 rfl rfl) rfl rfl hl.1 rfl (lv_room (Nat.le_of_ble_eq_true rfl)) dX4_turn_141 ⟨Nat.le_of_ble_eq_true rfl, Nat.le_of_ble_eq_true rfl⟩) hS (fun q _ h => hFc q h) hFc (fun u55 t H locs ht hvm hw hB hz1 hk1 hS => ?_)
            obtain ⟨hP1, hD1⟩ := hB
            rw [ht] at hP1
            have hD : va_D A (w_Mod cs q u55) := hD1.weaken (fun k q _ h => hFc q.1 h)
            have hP : va_P D vwCl (w_Mod cs q u55) H := hP1
            exact W.vret hx hb hr (fun t ht hW => ⟨⟨(u55), rfl, hw, by rw [ht]; exact hP, hD⟩, hS.F ht⟩) hS.2.2 dX4_turn_144 hlocks
      · have hw := hw.2 c42
        refine lv_iload_n hx hb dX4_turn_71 rfl (lv_at hl 2 rfl) ?_
        refine lv_iconst (v := (4 : Int32)) hx hb dX4_turn_72 (by decide) ?_
        refine lv_icmp_ne (tgt := 114) hx hb dX4_turn_73 (by decide) (fun c56 => ?_) (fun c56 => ?_)
        · have hw := hw.2 c56
          refine lv_iload_n hx hb dX4_turn_114 rfl (lv_at hl 2 rfl) ?_
          refine lv_iconst (v := (5 : Int32)) hx hb dX4_turn_115 (by decide) ?_
          refine lv_icmp_ne (tgt := 136) hx hb dX4_turn_116 (by decide) (fun c57 => ?_) (fun c57 => ?_)
          · have hw := hw.2 c57
            refine lv_aload_n hx hb dX4_turn_136 rfl (lv_at hl 4 rfl) ?_
            refine lv_aload_n hx hb dX4_turn_137 rfl (lv_at hl 4 rfl) ?_
            refine va_get (D := D) (ci := 4) (v := .ref (q 3)) (C := RX4) (T := TX4) (N := 11) hx hb hts (h_X4_X4_turn) hown hK hP 0 rfl rfl 4 (by decide) (z_w hts 1 rfl) (fun _ h9 => h9) rfl dX4_turn_138 ?_
            have hFc := va_free (wc := w_Mod cs q M) hD hS hA [0, 1, 2, 3, 4, 5, 6, 7, 8] rfl
            refine va_callv (va_runV (As := [.ref (q 3)]) (rest := []) ⟨hx, hb, hml, hown, hts⟩ (c_X4_beat_t l D cs q H.size M _ hw) (cwV 1 hts gX4_turn_X4_beat rfl rfl rfl (by decide +kernel) ⟨Nat.le_of_ble_eq_true rfl, Nat.le_of_ble_eq_true rfl⟩) (PC_V hP hD hKK 0 4 rfl rfl) rfl rfl hl.1 rfl (lv_room (Nat.le_of_ble_eq_true rfl)) dX4_turn_141 ⟨Nat.le_of_ble_eq_true rfl, Nat.le_of_ble_eq_true rfl⟩) hS (fun q _ h => hFc q h) hFc (fun u58 t H locs ht hvm hw hB hz1 hk1 hS => ?_)
            obtain ⟨hP1, hD1⟩ := hB
            rw [ht] at hP1
            have hD : va_D A (w_Mod cs q u58) := hD1.weaken (fun k q _ h => hFc q.1 h)
            have hP : va_P D vwCl (w_Mod cs q u58) H := hP1
            exact W.vret hx hb hr (fun t ht hW => ⟨⟨(u58), rfl, hw, by rw [ht]; exact hP, hD⟩, hS.F ht⟩) hS.2.2 dX4_turn_144 hlocks
          · have hw := hw.1 c57
            refine lv_iload_n hx hb dX4_turn_119 rfl (lv_at hl 3 rfl) ?_
            refine lv_iload hx hb dX4_turn_120 (lv_at hl 1 rfl) ?_
            refine lv_icmp_eq (tgt := 136) hx hb dX4_turn_122 (by decide) (fun c59 => ?_) (fun c59 => ?_)
            · have hw := hw.1 c59
              refine lv_aload_n hx hb dX4_turn_136 rfl (lv_at hl 4 rfl) ?_
              refine lv_aload_n hx hb dX4_turn_137 rfl (lv_at hl 4 rfl) ?_
              refine va_get (D := D) (ci := 4) (v := .ref (q 3)) (C := RX4) (T := TX4) (N := 11) hx hb hts (h_X4_X4_turn) hown hK hP 0 rfl rfl 4 (by decide) (z_w hts 1 rfl) (fun _ h9 => h9) rfl dX4_turn_138 ?_
              have hFc := va_free (wc := w_Mod cs q M) hD hS hA [0, 1, 2, 3, 4, 5, 6, 7, 8] rfl
              refine va_callv (va_runV (As := [.ref (q 3)]) (rest := []) ⟨hx, hb, hml, hown, hts⟩ (c_X4_beat_t l D cs q H.size M _ hw) (cwV 1 hts gX4_turn_X4_beat rfl rfl rfl (by decide +kernel) ⟨Nat.le_of_ble_eq_true rfl, Nat.le_of_ble_eq_true rfl⟩) (PC_V hP hD hKK 0 4 rfl rfl) rfl rfl hl.1 rfl (lv_room (Nat.le_of_ble_eq_true rfl)) dX4_turn_141 ⟨Nat.le_of_ble_eq_true rfl, Nat.le_of_ble_eq_true rfl⟩) hS (fun q _ h => hFc q h) hFc (fun u60 t H locs ht hvm hw hB hz1 hk1 hS => ?_)
              obtain ⟨hP1, hD1⟩ := hB
              rw [ht] at hP1
              have hD : va_D A (w_Mod cs q u60) := hD1.weaken (fun k q _ h => hFc q.1 h)
              have hP : va_P D vwCl (w_Mod cs q u60) H := hP1
              exact W.vret hx hb hr (fun t ht hW => ⟨⟨(u60), rfl, hw, by rw [ht]; exact hP, hD⟩, hS.F ht⟩) hS.2.2 dX4_turn_144 hlocks
            · have hw := hw.2 c59
              refine lv_aload_n hx hb dX4_turn_125 rfl (lv_at hl 4 rfl) ?_
              refine va_get (D := D) (ci := 4) (v := .ref (q 3)) (C := RX4) (T := TX4) (N := 11) hx hb hts (h_X4_X4_turn) hown hK hP 0 rfl rfl 4 (by decide) (z_w hts 1 rfl) (fun _ h9 => h9) rfl dX4_turn_126 ?_
              refine lv_iload_n hx hb dX4_turn_129 rfl (lv_at hl 3 rfl) ?_
              refine lv_iload hx hb dX4_turn_130 (lv_at hl 1 rfl) ?_
              have hPc := hP.sub (ws' := w_Row cs (q 3) 336 (M 3)) [3] rfl
              have hDc := hD.sub (ws' := w_Row cs (q 3) 336 (M 3)) [3] (by decide) rfl
              have hFc := va_free (wc := w_Row cs (q 3) 336 (M 3)) hD hS hA [3] rfl
              refine va_calll (va_runS (As := [.ref (q 3), .int y2, .int y4]) (rest := []) ⟨hx, hb, hml, hown, hts⟩ (c_X4_pourOn l D cs (q 3) H.size (M 3) y2 y4 _ hw) (va_cwS 3 hts gX4_turn_X4_pourOn rfl rfl rfl (by decide +kernel) ⟨Nat.le_of_ble_eq_true rfl, Nat.le_of_ble_eq_true rfl⟩) (PC_S hPc hDc hKK) rfl rfl hl.1 rfl (lv_room (Nat.le_of_ble_eq_true rfl)) dX4_turn_132 ⟨Nat.le_of_ble_eq_true rfl, Nat.le_of_ble_eq_true rfl⟩) hS (fun q _ h => hFc q h) hFc (fun r61 u61 t H locs ht hvm hw hB hz1 hk1 hS => ?_)
              obtain ⟨hP1, hD1⟩ := hB
              rw [ht] at hP1
              obtain ⟨hP, hD⟩ := va_join (wr := ([0, 1, 2, 4, 5, 6, 7, 8].filterMap (fun i => (w_Mod cs q M)[i]?))) (w1 := w_Row cs (q 3) 336 u61) hP hD [3] [0, 1, 2, 4, 5, 6, 7, 8] rfl rfl (by decide) (by decide) hk1 hFc hP1 hD1
              have hP : va_P D vwCl (w_Mod cs q (zr2 M 3 u61)) H := hP.sub (ws' := w_Mod cs q (zr2 M 3 u61)) [0, 1, 2, 8, 3, 4, 5, 6, 7] rfl
              have hD : va_D A (w_Mod cs q (zr2 M 3 u61)) := hD.sub (ws' := w_Mod cs q (zr2 M 3 u61)) [0, 1, 2, 8, 3, 4, 5, 6, 7] (by decide) rfl
              refine lv_pop2_2 hx hb dX4_turn_135 rfl ?_
              refine lv_aload_n hx hb dX4_turn_136 rfl (lv_at hl 4 rfl) ?_
              refine lv_aload_n hx hb dX4_turn_137 rfl (lv_at hl 4 rfl) ?_
              refine va_get (D := D) (ci := 4) (v := .ref (q 3)) (C := RX4) (T := TX4) (N := 11) hx hb hts (h_X4_X4_turn) hown hK hP 0 rfl rfl 4 (by decide) (z_w hts 1 rfl) (fun _ h9 => h9) rfl dX4_turn_138 ?_
              have hFc := va_free (wc := w_Mod cs q (zr2 M 3 u61)) hD hS hA [0, 1, 2, 3, 4, 5, 6, 7, 8] rfl
              refine va_callv (va_runV (As := [.ref (q 3)]) (rest := []) ⟨hx, hb, hml, hown, hts⟩ (c_X4_beat_t l D cs q H.size (zr2 M 3 u61) _ hw) (cwV 1 hts gX4_turn_X4_beat rfl rfl rfl (by decide +kernel) ⟨Nat.le_of_ble_eq_true rfl, Nat.le_of_ble_eq_true rfl⟩) (PC_V hP hD hKK 0 4 rfl rfl) rfl rfl hl.1 rfl (lv_room (Nat.le_of_ble_eq_true rfl)) dX4_turn_141 ⟨Nat.le_of_ble_eq_true rfl, Nat.le_of_ble_eq_true rfl⟩) hS (fun q _ h => hFc q h) hFc (fun u62 t H locs ht hvm hw hB hz1 hk1 hS => ?_)
              obtain ⟨hP1, hD1⟩ := hB
              rw [ht] at hP1
              have hD : va_D A (w_Mod cs q u62) := hD1.weaken (fun k q _ h => hFc q.1 h)
              have hP : va_P D vwCl (w_Mod cs q u62) H := hP1
              exact W.vret hx hb hr (fun t ht hW => ⟨⟨(u62), rfl, hw, by rw [ht]; exact hP, hD⟩, hS.F ht⟩) hS.2.2 dX4_turn_144 hlocks
        · have hw := hw.1 c56
          refine lv_aload_n hx hb dX4_turn_76 rfl (lv_at hl 4 rfl) ?_
          refine va_get (D := D) (ci := 4) (v := .ref (q 3)) (C := RX4) (T := TX4) (N := 11) hx hb hts (h_X4_X4_turn) hown hK hP 0 rfl rfl 4 (by decide) (z_w hts 1 rfl) (fun _ h9 => h9) rfl dX4_turn_77 ?_
          refine lv_iload_n hx hb dX4_turn_80 rfl (lv_at hl 3 rfl) ?_
          refine lv_iload hx hb dX4_turn_81 (lv_at hl 0 rfl) ?_
          have hPc := hP.sub (ws' := w_Row cs (q 3) 336 (M 3)) [3] rfl
          have hDc := hD.sub (ws' := w_Row cs (q 3) 336 (M 3)) [3] (by decide) rfl
          refine z_calli (va_runS (As := [.ref (q 3), .int y2, .int y5]) (rest := []) ⟨hx, hb, hml, hown, hts⟩ (c_X4_fits l D cs (q 3) H.size (M 3) y2 y5 _ hw) (va_cwS 3 hts gX4_turn_X4_fits rfl rfl rfl (by decide +kernel) ⟨Nat.le_of_ble_eq_true rfl, Nat.le_of_ble_eq_true rfl⟩) (PC_S hPc hDc hKK) rfl rfl hl.1 rfl (lv_room (Nat.le_of_ble_eq_true rfl)) dX4_turn_83 ⟨Nat.le_of_ble_eq_true rfl, Nat.le_of_ble_eq_true rfl⟩) (fun r63 hw => ?_)
          obtain ⟨b63, hw⟩ := hw
          refine lv_if_eq (tgt := 114) hx hb dX4_turn_86 (by decide) (fun c64 => ?_) (fun c64 => ?_)
          · have hw := hw.1 c64
            refine lv_iload_n hx hb dX4_turn_114 rfl (lv_at hl 2 rfl) ?_
            refine lv_iconst (v := (5 : Int32)) hx hb dX4_turn_115 (by decide) ?_
            refine lv_icmp_ne (tgt := 136) hx hb dX4_turn_116 (by decide) (fun c65 => ?_) (fun c65 => ?_)
            · have hw := hw.2 c65
              refine lv_aload_n hx hb dX4_turn_136 rfl (lv_at hl 4 rfl) ?_
              refine lv_aload_n hx hb dX4_turn_137 rfl (lv_at hl 4 rfl) ?_
              refine va_get (D := D) (ci := 4) (v := .ref (q 3)) (C := RX4) (T := TX4) (N := 11) hx hb hts (h_X4_X4_turn) hown hK hP 0 rfl rfl 4 (by decide) (z_w hts 1 rfl) (fun _ h9 => h9) rfl dX4_turn_138 ?_
              have hFc := va_free (wc := w_Mod cs q M) hD hS hA [0, 1, 2, 3, 4, 5, 6, 7, 8] rfl
              refine va_callv (va_runV (As := [.ref (q 3)]) (rest := []) ⟨hx, hb, hml, hown, hts⟩ (c_X4_beat_t l D cs q H.size M _ hw) (cwV 1 hts gX4_turn_X4_beat rfl rfl rfl (by decide +kernel) ⟨Nat.le_of_ble_eq_true rfl, Nat.le_of_ble_eq_true rfl⟩) (PC_V hP hD hKK 0 4 rfl rfl) rfl rfl hl.1 rfl (lv_room (Nat.le_of_ble_eq_true rfl)) dX4_turn_141 ⟨Nat.le_of_ble_eq_true rfl, Nat.le_of_ble_eq_true rfl⟩) hS (fun q _ h => hFc q h) hFc (fun u66 t H locs ht hvm hw hB hz1 hk1 hS => ?_)
              obtain ⟨hP1, hD1⟩ := hB
              rw [ht] at hP1
              have hD : va_D A (w_Mod cs q u66) := hD1.weaken (fun k q _ h => hFc q.1 h)
              have hP : va_P D vwCl (w_Mod cs q u66) H := hP1
              exact W.vret hx hb hr (fun t ht hW => ⟨⟨(u66), rfl, hw, by rw [ht]; exact hP, hD⟩, hS.F ht⟩) hS.2.2 dX4_turn_144 hlocks
            · have hw := hw.1 c65
              refine lv_iload_n hx hb dX4_turn_119 rfl (lv_at hl 3 rfl) ?_
              refine lv_iload hx hb dX4_turn_120 (lv_at hl 1 rfl) ?_
              refine lv_icmp_eq (tgt := 136) hx hb dX4_turn_122 (by decide) (fun c67 => ?_) (fun c67 => ?_)
              · have hw := hw.1 c67
                refine lv_aload_n hx hb dX4_turn_136 rfl (lv_at hl 4 rfl) ?_
                refine lv_aload_n hx hb dX4_turn_137 rfl (lv_at hl 4 rfl) ?_
                refine va_get (D := D) (ci := 4) (v := .ref (q 3)) (C := RX4) (T := TX4) (N := 11) hx hb hts (h_X4_X4_turn) hown hK hP 0 rfl rfl 4 (by decide) (z_w hts 1 rfl) (fun _ h9 => h9) rfl dX4_turn_138 ?_
                have hFc := va_free (wc := w_Mod cs q M) hD hS hA [0, 1, 2, 3, 4, 5, 6, 7, 8] rfl
                refine va_callv (va_runV (As := [.ref (q 3)]) (rest := []) ⟨hx, hb, hml, hown, hts⟩ (c_X4_beat_t l D cs q H.size M _ hw) (cwV 1 hts gX4_turn_X4_beat rfl rfl rfl (by decide +kernel) ⟨Nat.le_of_ble_eq_true rfl, Nat.le_of_ble_eq_true rfl⟩) (PC_V hP hD hKK 0 4 rfl rfl) rfl rfl hl.1 rfl (lv_room (Nat.le_of_ble_eq_true rfl)) dX4_turn_141 ⟨Nat.le_of_ble_eq_true rfl, Nat.le_of_ble_eq_true rfl⟩) hS (fun q _ h => hFc q h) hFc (fun u68 t H locs ht hvm hw hB hz1 hk1 hS => ?_)
                obtain ⟨hP1, hD1⟩ := hB
                rw [ht] at hP1
                have hD : va_D A (w_Mod cs q u68) := hD1.weaken (fun k q _ h => hFc q.1 h)
                have hP : va_P D vwCl (w_Mod cs q u68) H := hP1
                exact W.vret hx hb hr (fun t ht hW => ⟨⟨(u68), rfl, hw, by rw [ht]; exact hP, hD⟩, hS.F ht⟩) hS.2.2 dX4_turn_144 hlocks
              · have hw := hw.2 c67
                refine lv_aload_n hx hb dX4_turn_125 rfl (lv_at hl 4 rfl) ?_
                refine va_get (D := D) (ci := 4) (v := .ref (q 3)) (C := RX4) (T := TX4) (N := 11) hx hb hts (h_X4_X4_turn) hown hK hP 0 rfl rfl 4 (by decide) (z_w hts 1 rfl) (fun _ h9 => h9) rfl dX4_turn_126 ?_
                refine lv_iload_n hx hb dX4_turn_129 rfl (lv_at hl 3 rfl) ?_
                refine lv_iload hx hb dX4_turn_130 (lv_at hl 1 rfl) ?_
                have hPc := hP.sub (ws' := w_Row cs (q 3) 336 (M 3)) [3] rfl
                have hDc := hD.sub (ws' := w_Row cs (q 3) 336 (M 3)) [3] (by decide) rfl
                have hFc := va_free (wc := w_Row cs (q 3) 336 (M 3)) hD hS hA [3] rfl
                refine va_calll (va_runS (As := [.ref (q 3), .int y2, .int y4]) (rest := []) ⟨hx, hb, hml, hown, hts⟩ (c_X4_pourOn l D cs (q 3) H.size (M 3) y2 y4 _ hw) (va_cwS 3 hts gX4_turn_X4_pourOn rfl rfl rfl (by decide +kernel) ⟨Nat.le_of_ble_eq_true rfl, Nat.le_of_ble_eq_true rfl⟩) (PC_S hPc hDc hKK) rfl rfl hl.1 rfl (lv_room (Nat.le_of_ble_eq_true rfl)) dX4_turn_132 ⟨Nat.le_of_ble_eq_true rfl, Nat.le_of_ble_eq_true rfl⟩) hS (fun q _ h => hFc q h) hFc (fun r69 u69 t H locs ht hvm hw hB hz1 hk1 hS => ?_)
                obtain ⟨hP1, hD1⟩ := hB
                rw [ht] at hP1
                obtain ⟨hP, hD⟩ := va_join (wr := ([0, 1, 2, 4, 5, 6, 7, 8].filterMap (fun i => (w_Mod cs q M)[i]?))) (w1 := w_Row cs (q 3) 336 u69) hP hD [3] [0, 1, 2, 4, 5, 6, 7, 8] rfl rfl (by decide) (by decide) hk1 hFc hP1 hD1
                have hP : va_P D vwCl (w_Mod cs q (zr2 M 3 u69)) H := hP.sub (ws' := w_Mod cs q (zr2 M 3 u69)) [0, 1, 2, 8, 3, 4, 5, 6, 7] rfl
                have hD : va_D A (w_Mod cs q (zr2 M 3 u69)) := hD.sub (ws' := w_Mod cs q (zr2 M 3 u69)) [0, 1, 2, 8, 3, 4, 5, 6, 7] (by decide) rfl
                refine lv_pop2_2 hx hb dX4_turn_135 rfl ?_
                refine lv_aload_n hx hb dX4_turn_136 rfl (lv_at hl 4 rfl) ?_
                refine lv_aload_n hx hb dX4_turn_137 rfl (lv_at hl 4 rfl) ?_
                refine va_get (D := D) (ci := 4) (v := .ref (q 3)) (C := RX4) (T := TX4) (N := 11) hx hb hts (h_X4_X4_turn) hown hK hP 0 rfl rfl 4 (by decide) (z_w hts 1 rfl) (fun _ h9 => h9) rfl dX4_turn_138 ?_
                have hFc := va_free (wc := w_Mod cs q (zr2 M 3 u69)) hD hS hA [0, 1, 2, 3, 4, 5, 6, 7, 8] rfl
                refine va_callv (va_runV (As := [.ref (q 3)]) (rest := []) ⟨hx, hb, hml, hown, hts⟩ (c_X4_beat_t l D cs q H.size (zr2 M 3 u69) _ hw) (cwV 1 hts gX4_turn_X4_beat rfl rfl rfl (by decide +kernel) ⟨Nat.le_of_ble_eq_true rfl, Nat.le_of_ble_eq_true rfl⟩) (PC_V hP hD hKK 0 4 rfl rfl) rfl rfl hl.1 rfl (lv_room (Nat.le_of_ble_eq_true rfl)) dX4_turn_141 ⟨Nat.le_of_ble_eq_true rfl, Nat.le_of_ble_eq_true rfl⟩) hS (fun q _ h => hFc q h) hFc (fun u70 t H locs ht hvm hw hB hz1 hk1 hS => ?_)
                obtain ⟨hP1, hD1⟩ := hB
                rw [ht] at hP1
                have hD : va_D A (w_Mod cs q u70) := hD1.weaken (fun k q _ h => hFc q.1 h)
                have hP : va_P D vwCl (w_Mod cs q u70) H := hP1
                exact W.vret hx hb hr (fun t ht hW => ⟨⟨(u70), rfl, hw, by rw [ht]; exact hP, hD⟩, hS.F ht⟩) hS.2.2 dX4_turn_144 hlocks
          · have hw := hw.2 c64
            refine lv_aload_n hx hb dX4_turn_89 rfl (lv_at hl 4 rfl) ?_
            refine va_get (D := D) (ci := 4) (v := .ref (q 3)) (C := RX4) (T := TX4) (N := 11) hx hb hts (h_X4_X4_turn) hown hK hP 0 rfl rfl 4 (by decide) (z_w hts 1 rfl) (fun _ h9 => h9) rfl dX4_turn_90 ?_
            refine lv_iload_n hx hb dX4_turn_93 rfl (lv_at hl 3 rfl) ?_
            refine lv_iload_n hx hb dX4_turn_94 rfl (lv_at hl 2 rfl) ?_
            refine lv_iconst (v := (3 : Int32)) hx hb dX4_turn_95 (by decide) ?_
            refine lv_icmp_ne (tgt := 104) hx hb dX4_turn_96 (by decide) (fun c71 => ?_) (fun c71 => ?_)
            · have hw := hw.2 c71
              refine lv_iload hx hb dX4_turn_104 (lv_at hl 0 rfl) ?_
              refine lv_ineg hx hb dX4_turn_106 ?_
              have hPc := hP.sub (ws' := w_Row cs (q 3) 336 (M 3)) [3] rfl
              have hDc := hD.sub (ws' := w_Row cs (q 3) 336 (M 3)) [3] (by decide) rfl
              have hFc := va_free (wc := w_Row cs (q 3) 336 (M 3)) hD hS hA [3] rfl
              refine va_calli (va_runS (As := [.ref (q 3), .int y2, .int (-y5)]) (rest := []) ⟨hx, hb, hml, hown, hts⟩ (c_X4_addOn l D cs (q 3) H.size (M 3) y2 (-y5) _ hw) (va_cwS 3 hts gX4_turn_X4_addOn rfl rfl rfl (by decide +kernel) ⟨Nat.le_of_ble_eq_true rfl, Nat.le_of_ble_eq_true rfl⟩) (PC_S hPc hDc hKK) rfl rfl hl.1 rfl (lv_room (Nat.le_of_ble_eq_true rfl)) dX4_turn_107 ⟨Nat.le_of_ble_eq_true rfl, Nat.le_of_ble_eq_true rfl⟩) hS (fun q _ h => hFc q h) hFc (fun r72 u72 t H locs ht hvm hw hB hz1 hk1 hS => ?_)
              obtain ⟨hP1, hD1⟩ := hB
              rw [ht] at hP1
              obtain ⟨hP, hD⟩ := va_join (wr := ([0, 1, 2, 4, 5, 6, 7, 8].filterMap (fun i => (w_Mod cs q M)[i]?))) (w1 := w_Row cs (q 3) 336 u72) hP hD [3] [0, 1, 2, 4, 5, 6, 7, 8] rfl rfl (by decide) (by decide) hk1 hFc hP1 hD1
              have hP : va_P D vwCl (w_Mod cs q (zr2 M 3 u72)) H := hP.sub (ws' := w_Mod cs q (zr2 M 3 u72)) [0, 1, 2, 8, 3, 4, 5, 6, 7] rfl
              have hD : va_D A (w_Mod cs q (zr2 M 3 u72)) := hD.sub (ws' := w_Mod cs q (zr2 M 3 u72)) [0, 1, 2, 8, 3, 4, 5, 6, 7] (by decide) rfl
              refine lv_pop hx hb dX4_turn_110 rfl ?_
              refine lv_goto (tgt := 136) hx hb dX4_turn_111 (by decide) ?_
              refine lv_aload_n hx hb dX4_turn_136 rfl (lv_at hl 4 rfl) ?_
              refine lv_aload_n hx hb dX4_turn_137 rfl (lv_at hl 4 rfl) ?_
              refine va_get (D := D) (ci := 4) (v := .ref (q 3)) (C := RX4) (T := TX4) (N := 11) hx hb hts (h_X4_X4_turn) hown hK hP 0 rfl rfl 4 (by decide) (z_w hts 1 rfl) (fun _ h9 => h9) rfl dX4_turn_138 ?_
              have hFc := va_free (wc := w_Mod cs q (zr2 M 3 u72)) hD hS hA [0, 1, 2, 3, 4, 5, 6, 7, 8] rfl
              refine va_callv (va_runV (As := [.ref (q 3)]) (rest := []) ⟨hx, hb, hml, hown, hts⟩ (c_X4_beat_t l D cs q H.size (zr2 M 3 u72) _ hw) (cwV 1 hts gX4_turn_X4_beat rfl rfl rfl (by decide +kernel) ⟨Nat.le_of_ble_eq_true rfl, Nat.le_of_ble_eq_true rfl⟩) (PC_V hP hD hKK 0 4 rfl rfl) rfl rfl hl.1 rfl (lv_room (Nat.le_of_ble_eq_true rfl)) dX4_turn_141 ⟨Nat.le_of_ble_eq_true rfl, Nat.le_of_ble_eq_true rfl⟩) hS (fun q _ h => hFc q h) hFc (fun u73 t H locs ht hvm hw hB hz1 hk1 hS => ?_)
              obtain ⟨hP1, hD1⟩ := hB
              rw [ht] at hP1
              have hD : va_D A (w_Mod cs q u73) := hD1.weaken (fun k q _ h => hFc q.1 h)
              have hP : va_P D vwCl (w_Mod cs q u73) H := hP1
              exact W.vret hx hb hr (fun t ht hW => ⟨⟨(u73), rfl, hw, by rw [ht]; exact hP, hD⟩, hS.F ht⟩) hS.2.2 dX4_turn_144 hlocks
            · have hw := hw.1 c71
              refine lv_iload hx hb dX4_turn_99 (lv_at hl 0 rfl) ?_
              refine lv_goto (tgt := 107) hx hb dX4_turn_101 (by decide) ?_
              have hPc := hP.sub (ws' := w_Row cs (q 3) 336 (M 3)) [3] rfl
              have hDc := hD.sub (ws' := w_Row cs (q 3) 336 (M 3)) [3] (by decide) rfl
              have hFc := va_free (wc := w_Row cs (q 3) 336 (M 3)) hD hS hA [3] rfl
              refine va_calli (va_runS (As := [.ref (q 3), .int y2, .int y5]) (rest := []) ⟨hx, hb, hml, hown, hts⟩ (c_X4_addOn l D cs (q 3) H.size (M 3) y2 y5 _ hw) (va_cwS 3 hts gX4_turn_X4_addOn rfl rfl rfl (by decide +kernel) ⟨Nat.le_of_ble_eq_true rfl, Nat.le_of_ble_eq_true rfl⟩) (PC_S hPc hDc hKK) rfl rfl hl.1 rfl (lv_room (Nat.le_of_ble_eq_true rfl)) dX4_turn_107 ⟨Nat.le_of_ble_eq_true rfl, Nat.le_of_ble_eq_true rfl⟩) hS (fun q _ h => hFc q h) hFc (fun r74 u74 t H locs ht hvm hw hB hz1 hk1 hS => ?_)
              obtain ⟨hP1, hD1⟩ := hB
              rw [ht] at hP1
              obtain ⟨hP, hD⟩ := va_join (wr := ([0, 1, 2, 4, 5, 6, 7, 8].filterMap (fun i => (w_Mod cs q M)[i]?))) (w1 := w_Row cs (q 3) 336 u74) hP hD [3] [0, 1, 2, 4, 5, 6, 7, 8] rfl rfl (by decide) (by decide) hk1 hFc hP1 hD1
              have hP : va_P D vwCl (w_Mod cs q (zr2 M 3 u74)) H := hP.sub (ws' := w_Mod cs q (zr2 M 3 u74)) [0, 1, 2, 8, 3, 4, 5, 6, 7] rfl
              have hD : va_D A (w_Mod cs q (zr2 M 3 u74)) := hD.sub (ws' := w_Mod cs q (zr2 M 3 u74)) [0, 1, 2, 8, 3, 4, 5, 6, 7] (by decide) rfl
              refine lv_pop hx hb dX4_turn_110 rfl ?_
              refine lv_goto (tgt := 136) hx hb dX4_turn_111 (by decide) ?_
              refine lv_aload_n hx hb dX4_turn_136 rfl (lv_at hl 4 rfl) ?_
              refine lv_aload_n hx hb dX4_turn_137 rfl (lv_at hl 4 rfl) ?_
              refine va_get (D := D) (ci := 4) (v := .ref (q 3)) (C := RX4) (T := TX4) (N := 11) hx hb hts (h_X4_X4_turn) hown hK hP 0 rfl rfl 4 (by decide) (z_w hts 1 rfl) (fun _ h9 => h9) rfl dX4_turn_138 ?_
              have hFc := va_free (wc := w_Mod cs q (zr2 M 3 u74)) hD hS hA [0, 1, 2, 3, 4, 5, 6, 7, 8] rfl
              refine va_callv (va_runV (As := [.ref (q 3)]) (rest := []) ⟨hx, hb, hml, hown, hts⟩ (c_X4_beat_t l D cs q H.size (zr2 M 3 u74) _ hw) (cwV 1 hts gX4_turn_X4_beat rfl rfl rfl (by decide +kernel) ⟨Nat.le_of_ble_eq_true rfl, Nat.le_of_ble_eq_true rfl⟩) (PC_V hP hD hKK 0 4 rfl rfl) rfl rfl hl.1 rfl (lv_room (Nat.le_of_ble_eq_true rfl)) dX4_turn_141 ⟨Nat.le_of_ble_eq_true rfl, Nat.le_of_ble_eq_true rfl⟩) hS (fun q _ h => hFc q h) hFc (fun u75 t H locs ht hvm hw hB hz1 hk1 hS => ?_)
              obtain ⟨hP1, hD1⟩ := hB
              rw [ht] at hP1
              have hD : va_D A (w_Mod cs q u75) := hD1.weaken (fun k q _ h => hFc q.1 h)
              have hP : va_P D vwCl (w_Mod cs q u75) H := hP1
              exact W.vret hx hb hr (fun t ht hW => ⟨⟨(u75), rfl, hw, by rw [ht]; exact hP, hD⟩, hS.F ht⟩) hS.2.2 dX4_turn_144 hlocks
    · have hw := hw.2 c41
      refine lv_aload_n hx hb dX4_turn_54 rfl (lv_at hl 4 rfl) ?_
      refine va_get (D := D) (ci := 4) (v := .ref (q 3)) (C := RX4) (T := TX4) (N := 11) hx hb hts (h_X4_X4_turn) hown hK hP 0 rfl rfl 4 (by decide) (z_w hts 1 rfl) (fun _ h9 => h9) rfl dX4_turn_55 ?_
      refine lv_iload_n hx hb dX4_turn_58 rfl (lv_at hl 3 rfl) ?_
      have hPc := hP.sub (ws' := w_Row cs (q 3) 336 (M 3)) [3] rfl
      have hDc := hD.sub (ws' := w_Row cs (q 3) 336 (M 3)) [3] (by decide) rfl
      have hFc := va_free (wc := w_Row cs (q 3) 336 (M 3)) hD hS hA [3] rfl
      refine va_calli (va_runS (As := [.ref (q 3), .int y2]) (rest := []) ⟨hx, hb, hml, hown, hts⟩ (c_X4_drawOn l D cs (q 3) H.size (M 3) y2 _ hw) (va_cwS 2 hts gX4_turn_X4_drawOn rfl rfl rfl (by decide +kernel) ⟨Nat.le_of_ble_eq_true rfl, Nat.le_of_ble_eq_true rfl⟩) (PC_S hPc hDc hKK) rfl rfl hl.1 rfl (lv_room (Nat.le_of_ble_eq_true rfl)) dX4_turn_59 ⟨Nat.le_of_ble_eq_true rfl, Nat.le_of_ble_eq_true rfl⟩) hS (fun q _ h => hFc q h) hFc (fun r76 u76 t H locs ht hvm hw hB hz1 hk1 hS => ?_)
      obtain ⟨hP1, hD1⟩ := hB
      rw [ht] at hP1
      obtain ⟨hP, hD⟩ := va_join (wr := ([0, 1, 2, 4, 5, 6, 7, 8].filterMap (fun i => (w_Mod cs q M)[i]?))) (w1 := w_Row cs (q 3) 336 u76) hP hD [3] [0, 1, 2, 4, 5, 6, 7, 8] rfl rfl (by decide) (by decide) hk1 hFc hP1 hD1
      have hP : va_P D vwCl (w_Mod cs q (zr2 M 3 u76)) H := hP.sub (ws' := w_Mod cs q (zr2 M 3 u76)) [0, 1, 2, 8, 3, 4, 5, 6, 7] rfl
      have hD : va_D A (w_Mod cs q (zr2 M 3 u76)) := hD.sub (ws' := w_Mod cs q (zr2 M 3 u76)) [0, 1, 2, 8, 3, 4, 5, 6, 7] (by decide) rfl
      refine lv_pop hx hb dX4_turn_62 rfl ?_
      refine lv_goto (tgt := 136) hx hb dX4_turn_63 (by decide) ?_
      refine lv_aload_n hx hb dX4_turn_136 rfl (lv_at hl 4 rfl) ?_
      refine lv_aload_n hx hb dX4_turn_137 rfl (lv_at hl 4 rfl) ?_
      refine va_get (D := D) (ci := 4) (v := .ref (q 3)) (C := RX4) (T := TX4) (N := 11) hx hb hts (h_X4_X4_turn) hown hK hP 0 rfl rfl 4 (by decide) (z_w hts 1 rfl) (fun _ h9 => h9) rfl dX4_turn_138 ?_
      have hFc := va_free (wc := w_Mod cs q (zr2 M 3 u76)) hD hS hA [0, 1, 2, 3, 4, 5, 6, 7, 8] rfl
      refine va_callv (va_runV (As := [.ref (q 3)]) (rest := []) ⟨hx, hb, hml, hown, hts⟩ (c_X4_beat_t l D cs q H.size (zr2 M 3 u76) _ hw) (cwV 1 hts gX4_turn_X4_beat rfl rfl rfl (by decide +kernel) ⟨Nat.le_of_ble_eq_true rfl, Nat.le_of_ble_eq_true rfl⟩) (PC_V hP hD hKK 0 4 rfl rfl) rfl rfl hl.1 rfl (lv_room (Nat.le_of_ble_eq_true rfl)) dX4_turn_141 ⟨Nat.le_of_ble_eq_true rfl, Nat.le_of_ble_eq_true rfl⟩) hS (fun q _ h => hFc q h) hFc (fun u77 t H locs ht hvm hw hB hz1 hk1 hS => ?_)
      obtain ⟨hP1, hD1⟩ := hB
      rw [ht] at hP1
      have hD : va_D A (w_Mod cs q u77) := hD1.weaken (fun k q _ h => hFc q.1 h)
      have hP : va_P D vwCl (w_Mod cs q u77) H := hP1
      exact W.vret hx hb hr (fun t ht hW => ⟨⟨(u77), rfl, hw, by rw [ht]; exact hP, hD⟩, hS.F ht⟩) hS.2.2 dX4_turn_144 hlocks
set_option maxHeartbeats 4000000 in
set_option maxRecDepth 100000 in
theorem c_X4_turn (l : Launch) (D : va_G) (cs : Nat → ClassId) (q : Nat → Nat) (sz : Nat) (M : MS) (x1 : Int32) (Q : MS → Prop) (hw : wp_X4_turn M x1 Q) : Met l yX4_turn wsX4_turn ({ frames := 3, cells := 0, slots := 0, locals := 70 } : Room) (va_Pc [.ref (q 0), .int x1] (PC D cs (w_Mod cs q M) sz)) (va_Qv (fun (u : MS) => Q u) (fun (u : MS) t => va_P D vwCl (w_Mod cs q u) t.heap ∧ va_D (va_A (w_Mod cs q M) sz) (w_Mod cs q u)) (va_A (w_Mod cs q M) sz)) 0 0 (va_A (w_Mod cs q M) sz) := by
  refine Met.ofW (cc := cX4_turn) (maxL := 6) (ret := none) (by decide) rfl ?_
  intro p e s m args below meth c s₁ B hml hv
  obtain ⟨rfl, hsz, hP, hKK, hD0⟩ := hv
  have hC : MAt p s m _ meth c RX4 cX4_turn 6 none wsX4_turn D cs := ⟨B.exec, B.bytes, B.returns, hml, findClass_of_methodNamed B.named, atoms_spec (ws := wsX4_turn) B.pre, B.notSynchronized, hKK⟩
  have hl := lv_entry ([.ref (q 0), .int x1]) (n := 6) (Nat.le_of_ble_eq_true rfl)
  rw [lg_entry_eq]
  generalize (lg_sl ([.ref (q 0), .int x1]) ++ List.replicate (6 - (lg_sl ([.ref (q 0), .int x1])).length) Slot.unset).toArray = ls at hl ⊢
  subst hsz
  have hD := hD0.self (sz := s.heap.size)
  have hA : ∀ z : Nat, s.heap.size ≤ z → va_A (w_Mod cs q M) s.heap.size z := fun z h => Or.inr h
  exact t_X4_turn hC q M x1 Q hA hw s.heap [] hP hD va_S.rf ls hl
theorem h_X4_X4_simulate : ∀ w ∈ u_ws RX4 TX4 11, w ∈ wsX4_simulate := fun _ h => List.mem_cons_of_mem _ (List.mem_append_right _ h)
set_option maxHeartbeats 4000000 in
set_option maxRecDepth 100000 in
theorem t_X4_simulate_45 {p : Program} {l : Launch} {e : Env} {s : State} {m : MethodId} {args : Array Value} {below : List Frame} {meth : Method} {c : Code} {D : va_G} {cs : Nat → ClassId} {A : Nat → Prop} (hC : MAt p s m args meth c RX4 cX4_simulate 7 (some .int) wsX4_simulate D cs) (q : Nat → Nat) (x3 : Int32) (Q : Int32 → MS → Prop) (hA : ∀ q : Nat, s.heap.size ≤ q → A q) : ∀ (n : Nat) (M : MS) (x4 : Int64) (x6 : Int32), wl_X4_simulate_45 x3 Q n M x4 x6 → ∀ (H : Heap) (locs : List Loc), va_P D vwCl (w_Mod cs q M) H → va_D A (w_Mod cs q M) → va_S A s.heap H locs → ∀ ls : Array Slot, lv_has ls 7 [(0, .ref (q 0)), (3, .int x3), (4, .long x4), (6, .int x6)] → W p l e ({ frames := 4, cells := 0, slots := 0, locals := 95 } : Room) s m args below meth c H locs 0 0 (MQ below (va_Qi (fun r (u : MS) => Q r u) (fun (u : MS) t => va_P D vwCl (w_Mod cs q u) t.heap ∧ va_D A (w_Mod cs q u)) A) args s 0 0 A) (F0 m 45 ls []) := by
  obtain ⟨hx, hb, hr, hml, hown, hts, hlocks, hKK⟩ := id hC
  have hK := hKK.1
  intro n
  induction n with
  | zero =>
    intro M x4 x6 hw
    exact False.elim hw
  | succ n ih =>
    intro M x4 x6 hw H locs hP hD hS ls hl
    refine lv_iload hx hb dX4_simulate_45 (lv_at hl 3 rfl) ?_
    refine lv_iload_n hx hb dX4_simulate_47 rfl (lv_at hl 1 rfl) ?_
    refine lv_icmp_ge (tgt := 79) hx hb dX4_simulate_48 (by decide) (fun c6 => ?_) (fun c6 => ?_)
    · have hw := hw.1 c6
      refine lv_sipush (v := (1000 : Int32)) hx hb dX4_simulate_79 (by decide) ?_
      refine lv_aload_n hx hb dX4_simulate_82 rfl (lv_at hl 0 rfl) ?_
      refine va_get (D := D) (ci := 4) (v := .ref (q 3)) (C := RX4) (T := TX4) (N := 11) hx hb hts (h_X4_X4_simulate) hown hK hP 0 rfl rfl 4 (by decide) (z_w hts 3 rfl) (fun _ h9 => h9) rfl dX4_simulate_83 ?_
      have hPc := hP.sub (ws' := w_Row cs (q 3) 336 (M 3)) [3] rfl
      have hDc := hD.sub (ws' := w_Row cs (q 3) 336 (M 3)) [3] (by decide) rfl
      refine z_calli (va_runS (As := [.ref (q 3)]) (rest := [.int (1000 : Int32)]) ⟨hx, hb, hml, hown, hts⟩ (c_X4_doublesOn l D cs (q 3) H.size (M 3) _ hw) (va_cwS 1 hts gX4_simulate_X4_doublesOn rfl rfl rfl (by decide +kernel) ⟨Nat.le_of_ble_eq_true rfl, Nat.le_of_ble_eq_true rfl⟩) (PC_S hPc hDc hKK) rfl rfl hl.1 rfl (lv_room (Nat.le_of_ble_eq_true rfl)) dX4_simulate_86 ⟨Nat.le_of_ble_eq_true rfl, Nat.le_of_ble_eq_true rfl⟩) (fun r7 hw => ?_)
      refine lv_aload_n hx hb dX4_simulate_89 rfl (lv_at hl 0 rfl) ?_
      refine va_get (D := D) (ci := 4) (v := .ref (q 2)) (C := RX4) (T := TX4) (N := 11) hx hb hts (h_X4_X4_simulate) hown hK hP 0 rfl rfl 3 (by decide) (z_w hts 2 rfl) (fun _ h9 => h9) rfl dX4_simulate_90 ?_
      have hPc := hP.sub (ws' := w_Row cs (q 2) 336 (M 2)) [2] rfl
      have hDc := hD.sub (ws' := w_Row cs (q 2) 336 (M 2)) [2] (by decide) rfl
      refine z_calli (va_runS (As := [.ref (q 2)]) (rest := [.int r7, .int (1000 : Int32)]) ⟨hx, hb, hml, hown, hts⟩ (c_X4_doublesOn l D cs (q 2) H.size (M 2) _ hw) (va_cwS 1 hts gX4_simulate_X4_doublesOn rfl rfl rfl (by decide +kernel) ⟨Nat.le_of_ble_eq_true rfl, Nat.le_of_ble_eq_true rfl⟩) (PC_S hPc hDc hKK) rfl rfl hl.1 rfl (lv_room (Nat.le_of_ble_eq_true rfl)) dX4_simulate_93 ⟨Nat.le_of_ble_eq_true rfl, Nat.le_of_ble_eq_true rfl⟩) (fun r8 hw => ?_)
      refine lv_isub hx hb dX4_simulate_96 ?_
      refine lv_imul hx hb dX4_simulate_97 ?_
      refine lv_aload_n hx hb dX4_simulate_98 rfl (lv_at hl 0 rfl) ?_
      refine va_get (D := D) (ci := 4) (v := .ref (q 3)) (C := RX4) (T := TX4) (N := 11) hx hb hts (h_X4_X4_simulate) hown hK hP 0 rfl rfl 4 (by decide) (z_w hts 3 rfl) (fun _ h9 => h9) rfl dX4_simulate_99 ?_
      have hPc := hP.sub (ws' := w_Row cs (q 3) 336 (M 3)) [3] rfl
      have hDc := hD.sub (ws' := w_Row cs (q 3) 336 (M 3)) [3] (by decide) rfl
      refine z_calli (va_runS (As := [.ref (q 3)]) (rest := [.int ((1000 : Int32) * (r7 - r8))]) ⟨hx, hb, hml, hown, hts⟩ (c_X4_waitsInAll l D cs (q 3) H.size (M 3) _ hw) (va_cwS 1 hts gX4_simulate_X4_waitsInAll rfl rfl rfl (by decide +kernel) ⟨Nat.le_of_ble_eq_true rfl, Nat.le_of_ble_eq_true rfl⟩) (PC_S hPc hDc hKK) rfl rfl hl.1 rfl (lv_room (Nat.le_of_ble_eq_true rfl)) dX4_simulate_102 ⟨Nat.le_of_ble_eq_true rfl, Nat.le_of_ble_eq_true rfl⟩) (fun r9 hw => ?_)
      refine lv_iadd hx hb dX4_simulate_105 ?_
      exact W.iret (v := ((1000 : Int32) * (r7 - r8)) + r9) hx hb hr (fun t ht hW => ⟨⟨((1000 : Int32) * (r7 - r8)) + r9, (M), rfl, hw, by rw [ht]; exact hP, hD⟩, hS.F ht⟩) hS.2.2 dX4_simulate_106 hlocks
    · have hw := hw.2 c6
      refine lv_lload hx hb dX4_simulate_51 (lv_at hl 2 rfl) ?_
      refine lv_ldc2 (v := (6364136223846793005 : Int64)) hx hb hown (z_w hts 4 (w := .constantLong RX4 182 (6364136223846793005)) rfl) dX4_simulate_53 ?_
      refine lv_lmul hx hb dX4_simulate_56 ?_
      refine lv_ldc2 (v := (1442695040888963407 : Int64)) hx hb hown (z_w hts 5 (w := .constantLong RX4 184 (1442695040888963407)) rfl) dX4_simulate_57 ?_
      refine lv_ladd hx hb dX4_simulate_60 ?_
      refine lv_topl (fun y10 ey10 => ?_)
      have hw := hw y10 ey10
      refine lv_lstore (lv' := [(4, .long y10), (0, .ref (q 0)), (3, .int x3), (6, .int x6)]) hx hb dX4_simulate_61 hl (by decide) rfl (fun ls hl => ?_)
      refine lv_aload_n hx hb dX4_simulate_63 rfl (lv_at hl 1 rfl) ?_
      refine lv_lload hx hb dX4_simulate_64 (lv_at hl 0 rfl) ?_
      refine lv_bipush (v := (33 : Int32)) hx hb dX4_simulate_66 (by decide) ?_
      refine lv_lushr (v := (y10.toUInt64 >>> ((33 : Int32).toInt64.toUInt64 &&& Int64.toUInt64 63)).toInt64) hx hb dX4_simulate_68 rfl ?_
      refine lv_l2i (v := ((y10.toUInt64 >>> ((33 : Int32).toInt64.toUInt64 &&& Int64.toUInt64 63)).toInt64).toInt32) hx hb dX4_simulate_69 rfl ?_
      have hFc := va_free (wc := w_Mod cs q M) hD hS hA [0, 1, 2, 3, 4, 5, 6, 7, 8] rfl
      refine va_callv (va_runV (As := [.int (((y10.toUInt64 >>> ((33 : Int32).toInt64.toUInt64 &&& Int64.toUInt64 63)).toInt64).toInt32)]) (rest := []) ⟨hx, hb, hml, hown, hts⟩ (c_X4_turn l D cs q H.size M (((y10.toUInt64 >>> ((33 : Int32).toInt64.toUInt64 &&& Int64.toUInt64 63)).toInt64).toInt32) _ hw) (cwV 1 hts gX4_simulate_X4_turn rfl rfl rfl (by decide +kernel) ⟨Nat.le_of_ble_eq_true rfl, Nat.le_of_ble_eq_true rfl⟩) (PC_V hP hD hKK 0 4 rfl rfl) rfl rfl hl.1 rfl (lv_room (Nat.le_of_ble_eq_true rfl)) dX4_simulate_70 ⟨Nat.le_of_ble_eq_true rfl, Nat.le_of_ble_eq_true rfl⟩) hS (fun q _ h => hFc q h) hFc (fun u11 t H locs ht hvm hw hB hz1 hk1 hS => ?_)
      obtain ⟨hP1, hD1⟩ := hB
      rw [ht] at hP1
      have hD : va_D A (w_Mod cs q u11) := hD1.weaken (fun k q _ h => hFc q.1 h)
      have hP : va_P D vwCl (w_Mod cs q u11) H := hP1
      refine lv_iinc (v := x6 + 1) (lv' := [(6, .int (x6 + 1)), (4, .long y10), (0, .ref (q 0)), (3, .int x3)]) hx hb dX4_simulate_73 hl (k := 3) rfl rfl (by decide) rfl (fun ls hl => ?_)
      refine lv_goto (tgt := 45) hx hb dX4_simulate_76 (by decide) ?_
      exact ih _ _ _ hw _ _ hP hD hS ls (lv_sub hl [2, 3, 1, 0] rfl)
set_option maxHeartbeats 4000000 in
set_option maxRecDepth 100000 in
theorem t_X4_simulate {p : Program} {l : Launch} {e : Env} {s : State} {m : MethodId} {args : Array Value} {below : List Frame} {meth : Method} {c : Code} {D : va_G} {cs : Nat → ClassId} {A : Nat → Prop} (hC : MAt p s m args meth c RX4 cX4_simulate 7 (some .int) wsX4_simulate D cs) (q : Nat → Nat) (M : MS) (x1 : Int64) (x3 : Int32) (Q : Int32 → MS → Prop) (hA : ∀ q : Nat, s.heap.size ≤ q → A q) (hw : wp_X4_simulate M x1 x3 Q) (H : Heap) (locs : List Loc) (hP : va_P D vwCl (w_Mod cs q M) H) (hD : va_D A (w_Mod cs q M)) (hS : va_S A s.heap H locs) (ls : Array Slot) (hl : lv_has ls 7 [(0, .ref (q 0)), (1, .long x1), (3, .int x3)]) : W p l e ({ frames := 4, cells := 0, slots := 0, locals := 95 } : Room) s m args below meth c H locs 0 0 (MQ below (va_Qi (fun r (u : MS) => Q r u) (fun (u : MS) t => va_P D vwCl (w_Mod cs q u) t.heap ∧ va_D A (w_Mod cs q u)) A) args s 0 0 A) (F0 m 0 ls []) := by
  obtain ⟨hx, hb, hr, hml, hown, hts, hlocks, hKK⟩ := id hC
  have hK := hKK.1
  refine lv_aload_n hx hb dX4_simulate_0 rfl (lv_at hl 0 rfl) ?_
  refine lv_iload_n hx hb dX4_simulate_1 rfl (lv_at hl 2 rfl) ?_
  refine lv_i2l (v := x3.toInt64) hx hb dX4_simulate_2 rfl ?_
  refine lv_lconst (v := (1 : Int64)) hx hb dX4_simulate_3 (by decide) ?_
  refine lv_ldc2 (v := (99 : Int64)) hx hb hown (z_w hts 1 (w := .constantLong RX4 150 (99)) rfl) dX4_simulate_4 ?_
  have hPc := hP.sub (ws' := ([] : va_W)) [] rfl
  have hDc := hD.sub (ws' := ([] : va_W)) [] (by decide) rfl
  refine z_calli (va_runS (As := [.long x3.toInt64, .long (1 : Int64), .long (99 : Int64)]) (rest := [.ref (q 0)]) ⟨hx, hb, hml, hown, hts⟩ (c_X4_in l D cs  H.size x3.toInt64 (1 : Int64) (99 : Int64) _ hw) (va_cwS 3 hts gX4_simulate_X4_in rfl rfl rfl (by decide +kernel) ⟨Nat.le_of_ble_eq_true rfl, Nat.le_of_ble_eq_true rfl⟩) (PC_S hPc hDc hKK) rfl rfl hl.1 rfl (lv_room (Nat.le_of_ble_eq_true rfl)) dX4_simulate_7 ⟨Nat.le_of_ble_eq_true rfl, Nat.le_of_ble_eq_true rfl⟩) (fun r1 hw => ?_)
  obtain ⟨b1, hw⟩ := hw
  refine lv_if_eq (tgt := 17) hx hb dX4_simulate_10 (by decide) (fun c2 => ?_) (fun c2 => ?_)
  · have hw := hw.1 c2
    refine lv_iconst (v := (1 : Int32)) hx hb dX4_simulate_17 (by decide) ?_
    have hFc := va_free (wc := w_Mod cs q M) hD hS hA [0, 1, 2, 3, 4, 5, 6, 7, 8] rfl
    refine va_calli (va_runV (As := [.int (1 : Int32)]) (rest := []) ⟨hx, hb, hml, hown, hts⟩ (c_X4_refused l D cs q H.size M (1 : Int32) _ hw) (cwV 1 hts gX4_simulate_X4_refused rfl rfl rfl (by decide +kernel) ⟨Nat.le_of_ble_eq_true rfl, Nat.le_of_ble_eq_true rfl⟩) (PC_V hP hD hKK 0 4 rfl rfl) rfl rfl hl.1 rfl (lv_room (Nat.le_of_ble_eq_true rfl)) dX4_simulate_18 ⟨Nat.le_of_ble_eq_true rfl, Nat.le_of_ble_eq_true rfl⟩) hS (fun q _ h => hFc q h) hFc (fun r3 u3 t H locs ht hvm hw hB hz1 hk1 hS => ?_)
    obtain ⟨hP1, hD1⟩ := hB
    rw [ht] at hP1
    obtain ⟨b3, hw⟩ := hw
    have hD : va_D A (w_Mod cs q u3) := hD1.weaken (fun k q _ h => hFc q.1 h)
    have hP : va_P D vwCl (w_Mod cs q u3) H := hP1
    refine lv_if_eq (tgt := 26) hx hb dX4_simulate_21 (by decide) (fun c4 => ?_) (fun c4 => ?_)
    · have hw := hw.1 c4
      refine lv_aload_n hx hb dX4_simulate_26 rfl (lv_at hl 0 rfl) ?_
      refine va_get (D := D) (ci := 4) (v := .ref (q 2)) (C := RX4) (T := TX4) (N := 11) hx hb hts (h_X4_X4_simulate) hown hK hP 0 rfl rfl 3 (by decide) (z_w hts 2 rfl) (fun _ h9 => h9) rfl dX4_simulate_27 ?_
      refine lv_iconst (v := (0 : Int32)) hx hb dX4_simulate_30 (by decide) ?_
      refine lv_aload_n hx hb dX4_simulate_31 rfl (lv_at hl 0 rfl) ?_
      refine va_get (D := D) (ci := 4) (v := .ref (q 3)) (C := RX4) (T := TX4) (N := 11) hx hb hts (h_X4_X4_simulate) hown hK hP 0 rfl rfl 4 (by decide) (z_w hts 3 rfl) (fun _ h9 => h9) rfl dX4_simulate_32 ?_
      refine lv_iconst (v := (0 : Int32)) hx hb dX4_simulate_35 (by decide) ?_
      have hPc := hP.sub (ws' := w_Row cs (q 2) 336 (u3 2) ++ w_Row cs (q 3) 336 (u3 3)) [2, 3] rfl
      have hDc := hD.sub (ws' := w_Row cs (q 2) 336 (u3 2) ++ w_Row cs (q 3) 336 (u3 3)) [2, 3] (by decide) rfl
      have hFc := va_free (wc := w_Row cs (q 2) 336 (u3 2) ++ w_Row cs (q 3) 336 (u3 3)) hD hS hA [2, 3] rfl
      refine va_callv (va_runS (As := [.ref (q 2), .int (0 : Int32), .ref (q 3), .int (0 : Int32)]) (rest := []) ⟨hx, hb, hml, hown, hts⟩ (c_X4_copyLine l D cs (q 2) (q 3) H.size 336 336 (u3 2) (u3 3) (0 : Int32) (0 : Int32) _ hw) (va_cwS 4 hts gX4_simulate_X4_copyLine rfl rfl rfl (by decide +kernel) ⟨Nat.le_of_ble_eq_true rfl, Nat.le_of_ble_eq_true rfl⟩) (PC_S hPc hDc hKK) rfl rfl hl.1 rfl (lv_room (Nat.le_of_ble_eq_true rfl)) dX4_simulate_36 ⟨Nat.le_of_ble_eq_true rfl, Nat.le_of_ble_eq_true rfl⟩) hS (fun q _ h => hFc q h) hFc (fun u5 t H locs ht hvm hw hB hz1 hk1 hS => ?_)
      obtain ⟨hP1, hD1⟩ := hB
      rw [ht] at hP1
      obtain ⟨hP, hD⟩ := va_join (wr := ([0, 1, 4, 5, 6, 7, 8].filterMap (fun i => (w_Mod cs q u3)[i]?))) (w1 := w_Row cs (q 2) 336 (u3 2) ++ w_Row cs (q 3) 336 u5) hP hD [2, 3] [0, 1, 4, 5, 6, 7, 8] rfl rfl (by decide) (by decide) hk1 hFc hP1 hD1
      have hP : va_P D vwCl (w_Mod cs q (zr2 u3 3 u5)) H := hP.sub (ws' := w_Mod cs q (zr2 u3 3 u5)) [0, 1, 7, 8, 2, 3, 4, 5, 6] rfl
      have hD : va_D A (w_Mod cs q (zr2 u3 3 u5)) := hD.sub (ws' := w_Mod cs q (zr2 u3 3 u5)) [0, 1, 7, 8, 2, 3, 4, 5, 6] (by decide) rfl
      refine lv_lload_n hx hb dX4_simulate_39 rfl (lv_at hl 1 rfl) ?_
      refine lv_lstore (lv' := [(4, .long x1), (0, .ref (q 0)), (1, .long x1), (3, .int x3)]) hx hb dX4_simulate_40 hl (by decide) rfl (fun ls hl => ?_)
      refine lv_iconst (v := (0 : Int32)) hx hb dX4_simulate_42 (by decide) ?_
      refine lv_istore (lv' := [(6, .int (0 : Int32)), (4, .long x1), (0, .ref (q 0)), (1, .long x1), (3, .int x3)]) hx hb dX4_simulate_43 hl (by decide) rfl (fun ls hl => ?_)
      obtain ⟨n12, hw⟩ := hw
      exact t_X4_simulate_45 hC q _ _ hA n12 _ _ _ hw H locs hP hD hS ls (lv_sub hl [2, 4, 1, 0] rfl)
    · have hw := hw.2 c4
      refine lv_iconst (v := (0 : Int32)) hx hb dX4_simulate_24 (by decide) ?_
      exact W.iret (v := (0 : Int32)) hx hb hr (fun t ht hW => ⟨⟨(0 : Int32), (u3), rfl, hw, by rw [ht]; exact hP, hD⟩, hS.F ht⟩) hS.2.2 dX4_simulate_25 hlocks
  · have hw := hw.2 c2
    refine lv_iconst (v := (0 : Int32)) hx hb dX4_simulate_13 (by decide) ?_
    refine lv_goto (tgt := 18) hx hb dX4_simulate_14 (by decide) ?_
    have hFc := va_free (wc := w_Mod cs q M) hD hS hA [0, 1, 2, 3, 4, 5, 6, 7, 8] rfl
    refine va_calli (va_runV (As := [.int (0 : Int32)]) (rest := []) ⟨hx, hb, hml, hown, hts⟩ (c_X4_refused l D cs q H.size M (0 : Int32) _ hw) (cwV 1 hts gX4_simulate_X4_refused rfl rfl rfl (by decide +kernel) ⟨Nat.le_of_ble_eq_true rfl, Nat.le_of_ble_eq_true rfl⟩) (PC_V hP hD hKK 0 4 rfl rfl) rfl rfl hl.1 rfl (lv_room (Nat.le_of_ble_eq_true rfl)) dX4_simulate_18 ⟨Nat.le_of_ble_eq_true rfl, Nat.le_of_ble_eq_true rfl⟩) hS (fun q _ h => hFc q h) hFc (fun r13 u13 t H locs ht hvm hw hB hz1 hk1 hS => ?_)
    obtain ⟨hP1, hD1⟩ := hB
    rw [ht] at hP1
    obtain ⟨b13, hw⟩ := hw
    have hD : va_D A (w_Mod cs q u13) := hD1.weaken (fun k q _ h => hFc q.1 h)
    have hP : va_P D vwCl (w_Mod cs q u13) H := hP1
    refine lv_if_eq (tgt := 26) hx hb dX4_simulate_21 (by decide) (fun c14 => ?_) (fun c14 => ?_)
    · have hw := hw.1 c14
      refine lv_aload_n hx hb dX4_simulate_26 rfl (lv_at hl 0 rfl) ?_
      refine va_get (D := D) (ci := 4) (v := .ref (q 2)) (C := RX4) (T := TX4) (N := 11) hx hb hts (h_X4_X4_simulate) hown hK hP 0 rfl rfl 3 (by decide) (z_w hts 2 rfl) (fun _ h9 => h9) rfl dX4_simulate_27 ?_
      refine lv_iconst (v := (0 : Int32)) hx hb dX4_simulate_30 (by decide) ?_
      refine lv_aload_n hx hb dX4_simulate_31 rfl (lv_at hl 0 rfl) ?_
      refine va_get (D := D) (ci := 4) (v := .ref (q 3)) (C := RX4) (T := TX4) (N := 11) hx hb hts (h_X4_X4_simulate) hown hK hP 0 rfl rfl 4 (by decide) (z_w hts 3 rfl) (fun _ h9 => h9) rfl dX4_simulate_32 ?_
      refine lv_iconst (v := (0 : Int32)) hx hb dX4_simulate_35 (by decide) ?_
      have hPc := hP.sub (ws' := w_Row cs (q 2) 336 (u13 2) ++ w_Row cs (q 3) 336 (u13 3)) [2, 3] rfl
      have hDc := hD.sub (ws' := w_Row cs (q 2) 336 (u13 2) ++ w_Row cs (q 3) 336 (u13 3)) [2, 3] (by decide) rfl
      have hFc := va_free (wc := w_Row cs (q 2) 336 (u13 2) ++ w_Row cs (q 3) 336 (u13 3)) hD hS hA [2, 3] rfl
      refine va_callv (va_runS (As := [.ref (q 2), .int (0 : Int32), .ref (q 3), .int (0 : Int32)]) (rest := []) ⟨hx, hb, hml, hown, hts⟩ (c_X4_copyLine l D cs (q 2) (q 3) H.size 336 336 (u13 2) (u13 3) (0 : Int32) (0 : Int32) _ hw) (va_cwS 4 hts gX4_simulate_X4_copyLine rfl rfl rfl (by decide +kernel) ⟨Nat.le_of_ble_eq_true rfl, Nat.le_of_ble_eq_true rfl⟩) (PC_S hPc hDc hKK) rfl rfl hl.1 rfl (lv_room (Nat.le_of_ble_eq_true rfl)) dX4_simulate_36 ⟨Nat.le_of_ble_eq_true rfl, Nat.le_of_ble_eq_true rfl⟩) hS (fun q _ h => hFc q h) hFc (fun u15 t H locs ht hvm hw hB hz1 hk1 hS => ?_)
      obtain ⟨hP1, hD1⟩ := hB
      rw [ht] at hP1
      obtain ⟨hP, hD⟩ := va_join (wr := ([0, 1, 4, 5, 6, 7, 8].filterMap (fun i => (w_Mod cs q u13)[i]?))) (w1 := w_Row cs (q 2) 336 (u13 2) ++ w_Row cs (q 3) 336 u15) hP hD [2, 3] [0, 1, 4, 5, 6, 7, 8] rfl rfl (by decide) (by decide) hk1 hFc hP1 hD1
      have hP : va_P D vwCl (w_Mod cs q (zr2 u13 3 u15)) H := hP.sub (ws' := w_Mod cs q (zr2 u13 3 u15)) [0, 1, 7, 8, 2, 3, 4, 5, 6] rfl
      have hD : va_D A (w_Mod cs q (zr2 u13 3 u15)) := hD.sub (ws' := w_Mod cs q (zr2 u13 3 u15)) [0, 1, 7, 8, 2, 3, 4, 5, 6] (by decide) rfl
      refine lv_lload_n hx hb dX4_simulate_39 rfl (lv_at hl 1 rfl) ?_
      refine lv_lstore (lv' := [(4, .long x1), (0, .ref (q 0)), (1, .long x1), (3, .int x3)]) hx hb dX4_simulate_40 hl (by decide) rfl (fun ls hl => ?_)
      refine lv_iconst (v := (0 : Int32)) hx hb dX4_simulate_42 (by decide) ?_
      refine lv_istore (lv' := [(6, .int (0 : Int32)), (4, .long x1), (0, .ref (q 0)), (1, .long x1), (3, .int x3)]) hx hb dX4_simulate_43 hl (by decide) rfl (fun ls hl => ?_)
      obtain ⟨n16, hw⟩ := hw
      exact t_X4_simulate_45 hC q _ _ hA n16 _ _ _ hw H locs hP hD hS ls (lv_sub hl [2, 4, 1, 0] rfl)
    · have hw := hw.2 c14
      refine lv_iconst (v := (0 : Int32)) hx hb dX4_simulate_24 (by decide) ?_
      exact W.iret (v := (0 : Int32)) hx hb hr (fun t ht hW => ⟨⟨(0 : Int32), (u13), rfl, hw, by rw [ht]; exact hP, hD⟩, hS.F ht⟩) hS.2.2 dX4_simulate_25 hlocks
set_option maxHeartbeats 4000000 in
set_option maxRecDepth 100000 in
theorem c_X4_simulate (l : Launch) (D : va_G) (cs : Nat → ClassId) (q : Nat → Nat) (sz : Nat) (M : MS) (x1 : Int64) (x3 : Int32) (Q : Int32 → MS → Prop) (hw : wp_X4_simulate M x1 x3 Q) : Met l yX4_simulate wsX4_simulate ({ frames := 4, cells := 0, slots := 0, locals := 95 } : Room) (va_Pc [.ref (q 0), .long x1, .int x3] (PC D cs (w_Mod cs q M) sz)) (va_Qi (fun r (u : MS) => Q r u) (fun (u : MS) t => va_P D vwCl (w_Mod cs q u) t.heap ∧ va_D (va_A (w_Mod cs q M) sz) (w_Mod cs q u)) (va_A (w_Mod cs q M) sz)) 0 0 (va_A (w_Mod cs q M) sz) := by
  refine Met.ofW (cc := cX4_simulate) (maxL := 7) (ret := (some .int)) (by decide) rfl ?_
  intro p e s m args below meth c s₁ B hml hv
  obtain ⟨rfl, hsz, hP, hKK, hD0⟩ := hv
  have hC : MAt p s m _ meth c RX4 cX4_simulate 7 (some .int) wsX4_simulate D cs := ⟨B.exec, B.bytes, B.returns, hml, findClass_of_methodNamed B.named, atoms_spec (ws := wsX4_simulate) B.pre, B.notSynchronized, hKK⟩
  have hl := lv_entry ([.ref (q 0), .long x1, .int x3]) (n := 7) (Nat.le_of_ble_eq_true rfl)
  rw [lg_entry_eq]
  generalize (lg_sl ([.ref (q 0), .long x1, .int x3]) ++ List.replicate (7 - (lg_sl ([.ref (q 0), .long x1, .int x3])).length) Slot.unset).toArray = ls at hl ⊢
  subst hsz
  have hD := hD0.self (sz := s.heap.size)
  have hA : ∀ z : Nat, s.heap.size ≤ z → va_A (w_Mod cs q M) s.heap.size z := fun z h => Or.inr h
  exact t_X4_simulate hC q M x1 x3 Q hA hw s.heap [] hP hD va_S.rf ls hl
theorem h_X4_X4_save : ∀ w ∈ u_ws RX4 TX4 11, w ∈ wsX4_save := fun _ h => List.mem_cons_of_mem _ (List.mem_append_right _ h)
set_option maxHeartbeats 4000000 in
set_option maxRecDepth 100000 in
theorem t_X4_save {p : Program} {l : Launch} {e : Env} {s : State} {m : MethodId} {args : Array Value} {below : List Frame} {meth : Method} {c : Code} {D : va_G} {cs : Nat → ClassId} {A : Nat → Prop} (hC : MAt p s m args meth c RX4 cX4_save 2 (some .int) wsX4_save D cs) (q : Nat → Nat) (M : MS) (x1 : Int32) (Q : Int32 → MS → Prop) (hA : ∀ q : Nat, s.heap.size ≤ q → A q) (hw : wp_X4_save M x1 Q) (H : Heap) (locs : List Loc) (hP : va_P D vwCl (w_Mod cs q M) H) (hD : va_D A (w_Mod cs q M)) (hS : va_S A s.heap H locs) (ls : Array Slot) (hl : lv_has ls 2 [(0, .ref (q 0)), (1, .int x1)]) : W p l e ({ frames := 1, cells := 0, slots := 0, locals := 25 } : Room) s m args below meth c H locs 0 0 (MQ below (va_Qi (fun r (u : MS) => Q r u) (fun (u : MS) t => va_P D vwCl (w_Mod cs q u) t.heap ∧ va_D A (w_Mod cs q u)) A) args s 0 0 A) (F0 m 0 ls []) := by
  obtain ⟨hx, hb, hr, hml, hown, hts, hlocks, hKK⟩ := id hC
  have hK := hKK.1
  refine lv_aload_n hx hb dX4_save_0 rfl (lv_at hl 0 rfl) ?_
  refine lv_iload_n hx hb dX4_save_1 rfl (lv_at hl 1 rfl) ?_
  refine lv_i2l (v := x1.toInt64) hx hb dX4_save_2 rfl ?_
  refine lv_lconst (v := (0 : Int64)) hx hb dX4_save_3 (by decide) ?_
  refine lv_lconst (v := (1 : Int64)) hx hb dX4_save_4 (by decide) ?_
  have hPc := hP.sub (ws' := ([] : va_W)) [] rfl
  have hDc := hD.sub (ws' := ([] : va_W)) [] (by decide) rfl
  refine z_calli (va_runS (As := [.long x1.toInt64, .long (0 : Int64), .long (1 : Int64)]) (rest := [.ref (q 0)]) ⟨hx, hb, hml, hown, hts⟩ (c_X4_in l D cs  H.size x1.toInt64 (0 : Int64) (1 : Int64) _ hw) (va_cwS 3 hts gX4_save_X4_in rfl rfl rfl (by decide +kernel) ⟨Nat.le_of_ble_eq_true rfl, Nat.le_of_ble_eq_true rfl⟩) (PC_S hPc hDc hKK) rfl rfl hl.1 rfl (lv_room (Nat.le_of_ble_eq_true rfl)) dX4_save_5 ⟨Nat.le_of_ble_eq_true rfl, Nat.le_of_ble_eq_true rfl⟩) (fun r1 hw => ?_)
  obtain ⟨b1, hw⟩ := hw
  refine lv_if_eq (tgt := 15) hx hb dX4_save_8 (by decide) (fun c2 => ?_) (fun c2 => ?_)
  · have hw := hw.1 c2
    refine lv_iconst (v := (1 : Int32)) hx hb dX4_save_15 (by decide) ?_
    have hFc := va_free (wc := w_Mod cs q M) hD hS hA [0, 1, 2, 3, 4, 5, 6, 7, 8] rfl
    refine va_calli (va_runV (As := [.int (1 : Int32)]) (rest := []) ⟨hx, hb, hml, hown, hts⟩ (c_X4_refused l D cs q H.size M (1 : Int32) _ hw) (cwV 1 hts gX4_save_X4_refused rfl rfl rfl (by decide +kernel) ⟨Nat.le_of_ble_eq_true rfl, Nat.le_of_ble_eq_true rfl⟩) (PC_V hP hD hKK 0 4 rfl rfl) rfl rfl hl.1 rfl (lv_room (Nat.le_of_ble_eq_true rfl)) dX4_save_16 ⟨Nat.le_of_ble_eq_true rfl, Nat.le_of_ble_eq_true rfl⟩) hS (fun q _ h => hFc q h) hFc (fun r3 u3 t H locs ht hvm hw hB hz1 hk1 hS => ?_)
    obtain ⟨hP1, hD1⟩ := hB
    rw [ht] at hP1
    obtain ⟨b3, hw⟩ := hw
    have hD : va_D A (w_Mod cs q u3) := hD1.weaken (fun k q _ h => hFc q.1 h)
    have hP : va_P D vwCl (w_Mod cs q u3) H := hP1
    refine lv_if_eq (tgt := 24) hx hb dX4_save_19 (by decide) (fun c4 => ?_) (fun c4 => ?_)
    · have hw := hw.1 c4
      refine lv_aload_n hx hb dX4_save_24 rfl (lv_at hl 0 rfl) ?_
      refine va_get (D := D) (ci := 4) (v := .ref (q 2)) (C := RX4) (T := TX4) (N := 11) hx hb hts (h_X4_X4_save) hown hK hP 0 rfl rfl 3 (by decide) (z_w hts 1 rfl) (fun _ h9 => h9) rfl dX4_save_25 ?_
      refine lv_iconst (v := (0 : Int32)) hx hb dX4_save_28 (by decide) ?_
      refine lv_aload_n hx hb dX4_save_29 rfl (lv_at hl 0 rfl) ?_
      refine va_get (D := D) (ci := 4) (v := .ref (q 5)) (C := RX4) (T := TX4) (N := 11) hx hb hts (h_X4_X4_save) hown hK hP 0 rfl rfl 7 (by decide) (z_w hts 2 rfl) (fun _ h9 => h9) rfl dX4_save_30 ?_
      refine lv_sipush (v := (336 : Int32)) hx hb dX4_save_33 (by decide) ?_
      refine lv_iload_n hx hb dX4_save_36 rfl (lv_at hl 1 rfl) ?_
      refine lv_imul hx hb dX4_save_37 ?_
      have hPc := hP.sub (ws' := w_Row cs (q 2) 336 (u3 2) ++ w_Row cs (q 5) 672 (u3 5)) [2, 5] rfl
      have hDc := hD.sub (ws' := w_Row cs (q 2) 336 (u3 2) ++ w_Row cs (q 5) 672 (u3 5)) [2, 5] (by decide) rfl
      have hFc := va_free (wc := w_Row cs (q 2) 336 (u3 2) ++ w_Row cs (q 5) 672 (u3 5)) hD hS hA [2, 5] rfl
      refine va_callv (va_runS (As := [.ref (q 2), .int (0 : Int32), .ref (q 5), .int ((336 : Int32) * x1)]) (rest := []) ⟨hx, hb, hml, hown, hts⟩ (c_X4_copyLine l D cs (q 2) (q 5) H.size 336 672 (u3 2) (u3 5) (0 : Int32) ((336 : Int32) * x1) _ hw) (va_cwS 4 hts gX4_save_X4_copyLine rfl rfl rfl (by decide +kernel) ⟨Nat.le_of_ble_eq_true rfl, Nat.le_of_ble_eq_true rfl⟩) (PC_S hPc hDc hKK) rfl rfl hl.1 rfl (lv_room (Nat.le_of_ble_eq_true rfl)) dX4_save_38 ⟨Nat.le_of_ble_eq_true rfl, Nat.le_of_ble_eq_true rfl⟩) hS (fun q _ h => hFc q h) hFc (fun u5 t H locs ht hvm hw hB hz1 hk1 hS => ?_)
      obtain ⟨hP1, hD1⟩ := hB
      rw [ht] at hP1
      obtain ⟨hP, hD⟩ := va_join (wr := ([0, 1, 3, 4, 6, 7, 8].filterMap (fun i => (w_Mod cs q u3)[i]?))) (w1 := w_Row cs (q 2) 336 (u3 2) ++ w_Row cs (q 5) 672 u5) hP hD [2, 5] [0, 1, 3, 4, 6, 7, 8] rfl rfl (by decide) (by decide) hk1 hFc hP1 hD1
      have hP : va_P D vwCl (w_Mod cs q (zr2 u3 5 u5)) H := hP.sub (ws' := w_Mod cs q (zr2 u3 5 u5)) [0, 1, 7, 2, 3, 8, 4, 5, 6] rfl
      have hD : va_D A (w_Mod cs q (zr2 u3 5 u5)) := hD.sub (ws' := w_Mod cs q (zr2 u3 5 u5)) [0, 1, 7, 2, 3, 8, 4, 5, 6] (by decide) rfl
      refine lv_aload_n hx hb dX4_save_41 rfl (lv_at hl 0 rfl) ?_
      refine va_get (D := D) (ci := 4) (v := .ref (q 6)) (C := RX4) (T := TX4) (N := 11) hx hb hts (h_X4_X4_save) hown hK hP 0 rfl rfl 8 (by decide) (z_w hts 3 rfl) (fun _ h9 => h9) rfl dX4_save_42 ?_
      refine lv_iload_n hx hb dX4_save_45 rfl (lv_at hl 1 rfl) ?_
      refine lv_iconst (v := (1 : Int32)) hx hb dX4_save_46 (by decide) ?_
      obtain ⟨M6, eM6⟩ : ∃ z : MS, z = (zr2 u3 5 u5) := ⟨_, rfl⟩
      have hw := hw M6 eM6
      rw [← eM6] at hP hD
      obtain ⟨h7, hw⟩ := hw
      refine va_zast hx hb hK hP hD hS 6 1 rfl rfl h7 dX4_save_47 (fun H locs hP hD hS => ?_)
      have hP : va_P D vwCl (w_Mod cs q (zr2 M6 6 (upd (M6 6) x1.toNatClampNeg (vp_nar .boolean (1 : Int32))))) H := hP
      have hD : va_D A (w_Mod cs q (zr2 M6 6 (upd (M6 6) x1.toNatClampNeg (vp_nar .boolean (1 : Int32))))) := hD
      refine lv_aload_n hx hb dX4_save_48 rfl (lv_at hl 0 rfl) ?_
      refine va_get (D := D) (ci := 4) (v := .ref (q 2)) (C := RX4) (T := TX4) (N := 11) hx hb hts (h_X4_X4_save) hown hK hP 0 rfl rfl 3 (by decide) (z_w hts 1 rfl) (fun _ h9 => h9) rfl dX4_save_49 ?_
      refine lv_iconst (v := (2 : Int32)) hx hb dX4_save_52 (by decide) ?_
      refine va_iald hx hb hK hP 2 0 rfl rfl (show vp_in (2 : Int32) 336 by unfold vp_in; decide) dX4_save_53 ?_
      exact W.iret (v := M6 2 (2 : Int32).toNatClampNeg) hx hb hr (fun t ht hW => ⟨⟨M6 2 (2 : Int32).toNatClampNeg, (zr2 M6 6 (upd (M6 6) x1.toNatClampNeg (vp_nar .boolean (1 : Int32)))), rfl, hw, by rw [ht]; exact hP, hD⟩, hS.F ht⟩) hS.2.2 dX4_save_54 hlocks
    · have hw := hw.2 c4
      refine lv_iconst (v := (0 : Int32)) hx hb dX4_save_22 (by decide) ?_
      exact W.iret (v := (0 : Int32)) hx hb hr (fun t ht hW => ⟨⟨(0 : Int32), (u3), rfl, hw, by rw [ht]; exact hP, hD⟩, hS.F ht⟩) hS.2.2 dX4_save_23 hlocks
  · have hw := hw.2 c2
    refine lv_iconst (v := (0 : Int32)) hx hb dX4_save_11 (by decide) ?_
    refine lv_goto (tgt := 16) hx hb dX4_save_12 (by decide) ?_
    have hFc := va_free (wc := w_Mod cs q M) hD hS hA [0, 1, 2, 3, 4, 5, 6, 7, 8] rfl
    refine va_calli (va_runV (As := [.int (0 : Int32)]) (rest := []) ⟨hx, hb, hml, hown, hts⟩ (c_X4_refused l D cs q H.size M (0 : Int32) _ hw) (cwV 1 hts gX4_save_X4_refused rfl rfl rfl (by decide +kernel) ⟨Nat.le_of_ble_eq_true rfl, Nat.le_of_ble_eq_true rfl⟩) (PC_V hP hD hKK 0 4 rfl rfl) rfl rfl hl.1 rfl (lv_room (Nat.le_of_ble_eq_true rfl)) dX4_save_16 ⟨Nat.le_of_ble_eq_true rfl, Nat.le_of_ble_eq_true rfl⟩) hS (fun q _ h => hFc q h) hFc (fun r8 u8 t H locs ht hvm hw hB hz1 hk1 hS => ?_)
    obtain ⟨hP1, hD1⟩ := hB
    rw [ht] at hP1
    obtain ⟨b8, hw⟩ := hw
    have hD : va_D A (w_Mod cs q u8) := hD1.weaken (fun k q _ h => hFc q.1 h)
    have hP : va_P D vwCl (w_Mod cs q u8) H := hP1
    refine lv_if_eq (tgt := 24) hx hb dX4_save_19 (by decide) (fun c9 => ?_) (fun c9 => ?_)
    · have hw := hw.1 c9
      refine lv_aload_n hx hb dX4_save_24 rfl (lv_at hl 0 rfl) ?_
      refine va_get (D := D) (ci := 4) (v := .ref (q 2)) (C := RX4) (T := TX4) (N := 11) hx hb hts (h_X4_X4_save) hown hK hP 0 rfl rfl 3 (by decide) (z_w hts 1 rfl) (fun _ h9 => h9) rfl dX4_save_25 ?_
      refine lv_iconst (v := (0 : Int32)) hx hb dX4_save_28 (by decide) ?_
      refine lv_aload_n hx hb dX4_save_29 rfl (lv_at hl 0 rfl) ?_
      refine va_get (D := D) (ci := 4) (v := .ref (q 5)) (C := RX4) (T := TX4) (N := 11) hx hb hts (h_X4_X4_save) hown hK hP 0 rfl rfl 7 (by decide) (z_w hts 2 rfl) (fun _ h9 => h9) rfl dX4_save_30 ?_
      refine lv_sipush (v := (336 : Int32)) hx hb dX4_save_33 (by decide) ?_
      refine lv_iload_n hx hb dX4_save_36 rfl (lv_at hl 1 rfl) ?_
      refine lv_imul hx hb dX4_save_37 ?_
      have hPc := hP.sub (ws' := w_Row cs (q 2) 336 (u8 2) ++ w_Row cs (q 5) 672 (u8 5)) [2, 5] rfl
      have hDc := hD.sub (ws' := w_Row cs (q 2) 336 (u8 2) ++ w_Row cs (q 5) 672 (u8 5)) [2, 5] (by decide) rfl
      have hFc := va_free (wc := w_Row cs (q 2) 336 (u8 2) ++ w_Row cs (q 5) 672 (u8 5)) hD hS hA [2, 5] rfl
      refine va_callv (va_runS (As := [.ref (q 2), .int (0 : Int32), .ref (q 5), .int ((336 : Int32) * x1)]) (rest := []) ⟨hx, hb, hml, hown, hts⟩ (c_X4_copyLine l D cs (q 2) (q 5) H.size 336 672 (u8 2) (u8 5) (0 : Int32) ((336 : Int32) * x1) _ hw) (va_cwS 4 hts gX4_save_X4_copyLine rfl rfl rfl (by decide +kernel) ⟨Nat.le_of_ble_eq_true rfl, Nat.le_of_ble_eq_true rfl⟩) (PC_S hPc hDc hKK) rfl rfl hl.1 rfl (lv_room (Nat.le_of_ble_eq_true rfl)) dX4_save_38 ⟨Nat.le_of_ble_eq_true rfl, Nat.le_of_ble_eq_true rfl⟩) hS (fun q _ h => hFc q h) hFc (fun u10 t H locs ht hvm hw hB hz1 hk1 hS => ?_)
      obtain ⟨hP1, hD1⟩ := hB
      rw [ht] at hP1
      obtain ⟨hP, hD⟩ := va_join (wr := ([0, 1, 3, 4, 6, 7, 8].filterMap (fun i => (w_Mod cs q u8)[i]?))) (w1 := w_Row cs (q 2) 336 (u8 2) ++ w_Row cs (q 5) 672 u10) hP hD [2, 5] [0, 1, 3, 4, 6, 7, 8] rfl rfl (by decide) (by decide) hk1 hFc hP1 hD1
      have hP : va_P D vwCl (w_Mod cs q (zr2 u8 5 u10)) H := hP.sub (ws' := w_Mod cs q (zr2 u8 5 u10)) [0, 1, 7, 2, 3, 8, 4, 5, 6] rfl
      have hD : va_D A (w_Mod cs q (zr2 u8 5 u10)) := hD.sub (ws' := w_Mod cs q (zr2 u8 5 u10)) [0, 1, 7, 2, 3, 8, 4, 5, 6] (by decide) rfl
      refine lv_aload_n hx hb dX4_save_41 rfl (lv_at hl 0 rfl) ?_
      refine va_get (D := D) (ci := 4) (v := .ref (q 6)) (C := RX4) (T := TX4) (N := 11) hx hb hts (h_X4_X4_save) hown hK hP 0 rfl rfl 8 (by decide) (z_w hts 3 rfl) (fun _ h9 => h9) rfl dX4_save_42 ?_
      refine lv_iload_n hx hb dX4_save_45 rfl (lv_at hl 1 rfl) ?_
      refine lv_iconst (v := (1 : Int32)) hx hb dX4_save_46 (by decide) ?_
      obtain ⟨M11, eM11⟩ : ∃ z : MS, z = (zr2 u8 5 u10) := ⟨_, rfl⟩
      have hw := hw M11 eM11
      rw [← eM11] at hP hD
      obtain ⟨h12, hw⟩ := hw
      refine va_zast hx hb hK hP hD hS 6 1 rfl rfl h12 dX4_save_47 (fun H locs hP hD hS => ?_)
      have hP : va_P D vwCl (w_Mod cs q (zr2 M11 6 (upd (M11 6) x1.toNatClampNeg (vp_nar .boolean (1 : Int32))))) H := hP
      have hD : va_D A (w_Mod cs q (zr2 M11 6 (upd (M11 6) x1.toNatClampNeg (vp_nar .boolean (1 : Int32))))) := hD
      refine lv_aload_n hx hb dX4_save_48 rfl (lv_at hl 0 rfl) ?_
      refine va_get (D := D) (ci := 4) (v := .ref (q 2)) (C := RX4) (T := TX4) (N := 11) hx hb hts (h_X4_X4_save) hown hK hP 0 rfl rfl 3 (by decide) (z_w hts 1 rfl) (fun _ h9 => h9) rfl dX4_save_49 ?_
      refine lv_iconst (v := (2 : Int32)) hx hb dX4_save_52 (by decide) ?_
      refine va_iald hx hb hK hP 2 0 rfl rfl (show vp_in (2 : Int32) 336 by unfold vp_in; decide) dX4_save_53 ?_
      exact W.iret (v := M11 2 (2 : Int32).toNatClampNeg) hx hb hr (fun t ht hW => ⟨⟨M11 2 (2 : Int32).toNatClampNeg, (zr2 M11 6 (upd (M11 6) x1.toNatClampNeg (vp_nar .boolean (1 : Int32)))), rfl, hw, by rw [ht]; exact hP, hD⟩, hS.F ht⟩) hS.2.2 dX4_save_54 hlocks
    · have hw := hw.2 c9
      refine lv_iconst (v := (0 : Int32)) hx hb dX4_save_22 (by decide) ?_
      exact W.iret (v := (0 : Int32)) hx hb hr (fun t ht hW => ⟨⟨(0 : Int32), (u8), rfl, hw, by rw [ht]; exact hP, hD⟩, hS.F ht⟩) hS.2.2 dX4_save_23 hlocks
set_option maxHeartbeats 4000000 in
set_option maxRecDepth 100000 in
theorem c_X4_save (l : Launch) (D : va_G) (cs : Nat → ClassId) (q : Nat → Nat) (sz : Nat) (M : MS) (x1 : Int32) (Q : Int32 → MS → Prop) (hw : wp_X4_save M x1 Q) : Met l yX4_save wsX4_save ({ frames := 1, cells := 0, slots := 0, locals := 25 } : Room) (va_Pc [.ref (q 0), .int x1] (PC D cs (w_Mod cs q M) sz)) (va_Qi (fun r (u : MS) => Q r u) (fun (u : MS) t => va_P D vwCl (w_Mod cs q u) t.heap ∧ va_D (va_A (w_Mod cs q M) sz) (w_Mod cs q u)) (va_A (w_Mod cs q M) sz)) 0 0 (va_A (w_Mod cs q M) sz) := by
  refine Met.ofW (cc := cX4_save) (maxL := 2) (ret := (some .int)) (by decide) rfl ?_
  intro p e s m args below meth c s₁ B hml hv
  obtain ⟨rfl, hsz, hP, hKK, hD0⟩ := hv
  have hC : MAt p s m _ meth c RX4 cX4_save 2 (some .int) wsX4_save D cs := ⟨B.exec, B.bytes, B.returns, hml, findClass_of_methodNamed B.named, atoms_spec (ws := wsX4_save) B.pre, B.notSynchronized, hKK⟩
  have hl := lv_entry ([.ref (q 0), .int x1]) (n := 2) (Nat.le_of_ble_eq_true rfl)
  rw [lg_entry_eq]
  generalize (lg_sl ([.ref (q 0), .int x1]) ++ List.replicate (2 - (lg_sl ([.ref (q 0), .int x1])).length) Slot.unset).toArray = ls at hl ⊢
  subst hsz
  have hD := hD0.self (sz := s.heap.size)
  have hA : ∀ z : Nat, s.heap.size ≤ z → va_A (w_Mod cs q M) s.heap.size z := fun z h => Or.inr h
  exact t_X4_save hC q M x1 Q hA hw s.heap [] hP hD va_S.rf ls hl
theorem h_X4_X4_restore : ∀ w ∈ u_ws RX4 TX4 11, w ∈ wsX4_restore := fun _ h => List.mem_cons_of_mem _ (List.mem_append_right _ h)
set_option maxHeartbeats 4000000 in
set_option maxRecDepth 100000 in
theorem t_X4_restore {p : Program} {l : Launch} {e : Env} {s : State} {m : MethodId} {args : Array Value} {below : List Frame} {meth : Method} {c : Code} {D : va_G} {cs : Nat → ClassId} {A : Nat → Prop} (hC : MAt p s m args meth c RX4 cX4_restore 2 (some .int) wsX4_restore D cs) (q : Nat → Nat) (M : MS) (x1 : Int32) (Q : Int32 → MS → Prop) (hA : ∀ q : Nat, s.heap.size ≤ q → A q) (hw : wp_X4_restore M x1 Q) (H : Heap) (locs : List Loc) (hP : va_P D vwCl (w_Mod cs q M) H) (hD : va_D A (w_Mod cs q M)) (hS : va_S A s.heap H locs) (ls : Array Slot) (hl : lv_has ls 2 [(0, .ref (q 0)), (1, .int x1)]) : W p l e ({ frames := 1, cells := 0, slots := 0, locals := 25 } : Room) s m args below meth c H locs 0 0 (MQ below (va_Qi (fun r (u : MS) => Q r u) (fun (u : MS) t => va_P D vwCl (w_Mod cs q u) t.heap ∧ va_D A (w_Mod cs q u)) A) args s 0 0 A) (F0 m 0 ls []) := by
  obtain ⟨hx, hb, hr, hml, hown, hts, hlocks, hKK⟩ := id hC
  have hK := hKK.1
  refine lv_aload_n hx hb dX4_restore_0 rfl (lv_at hl 0 rfl) ?_
  refine lv_iload_n hx hb dX4_restore_1 rfl (lv_at hl 1 rfl) ?_
  refine lv_i2l (v := x1.toInt64) hx hb dX4_restore_2 rfl ?_
  refine lv_lconst (v := (0 : Int64)) hx hb dX4_restore_3 (by decide) ?_
  refine lv_lconst (v := (1 : Int64)) hx hb dX4_restore_4 (by decide) ?_
  have hPc := hP.sub (ws' := ([] : va_W)) [] rfl
  have hDc := hD.sub (ws' := ([] : va_W)) [] (by decide) rfl
  refine z_calli (va_runS (As := [.long x1.toInt64, .long (0 : Int64), .long (1 : Int64)]) (rest := [.ref (q 0)]) ⟨hx, hb, hml, hown, hts⟩ (c_X4_in l D cs  H.size x1.toInt64 (0 : Int64) (1 : Int64) _ hw) (va_cwS 3 hts gX4_restore_X4_in rfl rfl rfl (by decide +kernel) ⟨Nat.le_of_ble_eq_true rfl, Nat.le_of_ble_eq_true rfl⟩) (PC_S hPc hDc hKK) rfl rfl hl.1 rfl (lv_room (Nat.le_of_ble_eq_true rfl)) dX4_restore_5 ⟨Nat.le_of_ble_eq_true rfl, Nat.le_of_ble_eq_true rfl⟩) (fun r1 hw => ?_)
  obtain ⟨b1, hw⟩ := hw
  refine lv_if_ne (tgt := 15) hx hb dX4_restore_8 (by decide) (fun c2 => ?_) (fun c2 => ?_)
  · have hw := hw.2 c2
    refine lv_aload_n hx hb dX4_restore_15 rfl (lv_at hl 0 rfl) ?_
    refine va_get (D := D) (ci := 4) (v := .ref (q 6)) (C := RX4) (T := TX4) (N := 11) hx hb hts (h_X4_X4_restore) hown hK hP 0 rfl rfl 8 (by decide) (z_w hts 1 rfl) (fun _ h9 => h9) rfl dX4_restore_16 ?_
    refine lv_iload_n hx hb dX4_restore_19 rfl (lv_at hl 1 rfl) ?_
    obtain ⟨h3, hw⟩ := hw
    refine va_zald hx hb hK hP 6 1 rfl rfl h3 dX4_restore_20 ?_
    refine lv_if_ne (tgt := 28) hx hb dX4_restore_21 (by decide) (fun c4 => ?_) (fun c4 => ?_)
    · have hw := hw.2 c4
      refine lv_iconst (v := (0 : Int32)) hx hb dX4_restore_28 (by decide) ?_
      have hFc := va_free (wc := w_Mod cs q M) hD hS hA [0, 1, 2, 3, 4, 5, 6, 7, 8] rfl
      refine va_calli (va_runV (As := [.int (0 : Int32)]) (rest := []) ⟨hx, hb, hml, hown, hts⟩ (c_X4_refused l D cs q H.size M (0 : Int32) _ hw) (cwV 1 hts gX4_restore_X4_refused rfl rfl rfl (by decide +kernel) ⟨Nat.le_of_ble_eq_true rfl, Nat.le_of_ble_eq_true rfl⟩) (PC_V hP hD hKK 0 4 rfl rfl) rfl rfl hl.1 rfl (lv_room (Nat.le_of_ble_eq_true rfl)) dX4_restore_29 ⟨Nat.le_of_ble_eq_true rfl, Nat.le_of_ble_eq_true rfl⟩) hS (fun q _ h => hFc q h) hFc (fun r5 u5 t H locs ht hvm hw hB hz1 hk1 hS => ?_)
      obtain ⟨hP1, hD1⟩ := hB
      rw [ht] at hP1
      obtain ⟨b5, hw⟩ := hw
      have hD : va_D A (w_Mod cs q u5) := hD1.weaken (fun k q _ h => hFc q.1 h)
      have hP : va_P D vwCl (w_Mod cs q u5) H := hP1
      refine lv_if_eq (tgt := 37) hx hb dX4_restore_32 (by decide) (fun c6 => ?_) (fun c6 => ?_)
      · have hw := hw.1 c6
        refine lv_aload_n hx hb dX4_restore_37 rfl (lv_at hl 0 rfl) ?_
        refine va_get (D := D) (ci := 4) (v := .ref (q 5)) (C := RX4) (T := TX4) (N := 11) hx hb hts (h_X4_X4_restore) hown hK hP 0 rfl rfl 7 (by decide) (z_w hts 2 rfl) (fun _ h9 => h9) rfl dX4_restore_38 ?_
        refine lv_sipush (v := (336 : Int32)) hx hb dX4_restore_41 (by decide) ?_
        refine lv_iload_n hx hb dX4_restore_44 rfl (lv_at hl 1 rfl) ?_
        refine lv_imul hx hb dX4_restore_45 ?_
        refine lv_aload_n hx hb dX4_restore_46 rfl (lv_at hl 0 rfl) ?_
        refine va_get (D := D) (ci := 4) (v := .ref (q 2)) (C := RX4) (T := TX4) (N := 11) hx hb hts (h_X4_X4_restore) hown hK hP 0 rfl rfl 3 (by decide) (z_w hts 3 rfl) (fun _ h9 => h9) rfl dX4_restore_47 ?_
        refine lv_iconst (v := (0 : Int32)) hx hb dX4_restore_50 (by decide) ?_
        have hPc := hP.sub (ws' := w_Row cs (q 5) 672 (u5 5) ++ w_Row cs (q 2) 336 (u5 2)) [5, 2] rfl
        have hDc := hD.sub (ws' := w_Row cs (q 5) 672 (u5 5) ++ w_Row cs (q 2) 336 (u5 2)) [5, 2] (by decide) rfl
        have hFc := va_free (wc := w_Row cs (q 5) 672 (u5 5) ++ w_Row cs (q 2) 336 (u5 2)) hD hS hA [5, 2] rfl
        refine va_callv (va_runS (As := [.ref (q 5), .int ((336 : Int32) * x1), .ref (q 2), .int (0 : Int32)]) (rest := []) ⟨hx, hb, hml, hown, hts⟩ (c_X4_copyLine l D cs (q 5) (q 2) H.size 672 336 (u5 5) (u5 2) ((336 : Int32) * x1) (0 : Int32) _ hw) (va_cwS 4 hts gX4_restore_X4_copyLine rfl rfl rfl (by decide +kernel) ⟨Nat.le_of_ble_eq_true rfl, Nat.le_of_ble_eq_true rfl⟩) (PC_S hPc hDc hKK) rfl rfl hl.1 rfl (lv_room (Nat.le_of_ble_eq_true rfl)) dX4_restore_51 ⟨Nat.le_of_ble_eq_true rfl, Nat.le_of_ble_eq_true rfl⟩) hS (fun q _ h => hFc q h) hFc (fun u7 t H locs ht hvm hw hB hz1 hk1 hS => ?_)
        obtain ⟨hP1, hD1⟩ := hB
        rw [ht] at hP1
        obtain ⟨hP, hD⟩ := va_join (wr := ([0, 1, 3, 4, 6, 7, 8].filterMap (fun i => (w_Mod cs q u5)[i]?))) (w1 := w_Row cs (q 5) 672 (u5 5) ++ w_Row cs (q 2) 336 u7) hP hD [5, 2] [0, 1, 3, 4, 6, 7, 8] rfl rfl (by decide) (by decide) hk1 hFc hP1 hD1
        have hP : va_P D vwCl (w_Mod cs q (zr2 u5 2 u7)) H := hP.sub (ws' := w_Mod cs q (zr2 u5 2 u7)) [0, 1, 8, 2, 3, 7, 4, 5, 6] rfl
        have hD : va_D A (w_Mod cs q (zr2 u5 2 u7)) := hD.sub (ws' := w_Mod cs q (zr2 u5 2 u7)) [0, 1, 8, 2, 3, 7, 4, 5, 6] (by decide) rfl
        refine lv_aload_n hx hb dX4_restore_54 rfl (lv_at hl 0 rfl) ?_
        refine lv_iconst (v := (0 : Int32)) hx hb dX4_restore_55 (by decide) ?_
        refine va_put (D := D) (ci := 4) (v := .int (0 : Int32)) (ty := .int) (C := RX4) (T := TX4) (N := 11) hx hb hts (h_X4_X4_restore) tyX4 tyX4_ok nmX4 hown hK hP hD hS 0 rfl rfl 6 (by decide) (z_w hts 4 rfl) (fun _ h9 => h9) rfl (by decide +kernel) rfl rfl (Nat.le_of_ble_eq_true rfl) dX4_restore_56 (fun H locs hP hD hS => ?_)
        have hP : va_P D vwCl (w_Mod cs q (zs2 (zr2 u5 2 u7) 0 2 (0 : Int32))) H := hP
        have hD : va_D A (w_Mod cs q (zs2 (zr2 u5 2 u7) 0 2 (0 : Int32))) := hD
        refine lv_aload_n hx hb dX4_restore_59 rfl (lv_at hl 0 rfl) ?_
        refine va_get (D := D) (ci := 4) (v := .ref (q 2)) (C := RX4) (T := TX4) (N := 11) hx hb hts (h_X4_X4_restore) hown hK hP 0 rfl rfl 3 (by decide) (z_w hts 3 rfl) (fun _ h9 => h9) rfl dX4_restore_60 ?_
        refine lv_iconst (v := (2 : Int32)) hx hb dX4_restore_63 (by decide) ?_
        refine va_iald hx hb hK hP 2 0 rfl rfl (show vp_in (2 : Int32) 336 by unfold vp_in; decide) dX4_restore_64 ?_
        exact W.iret (v := u7 (2 : Int32).toNatClampNeg) hx hb hr (fun t ht hW => ⟨⟨u7 (2 : Int32).toNatClampNeg, (zs2 (zr2 u5 2 u7) 0 2 (0 : Int32)), rfl, hw, by rw [ht]; exact hP, hD⟩, hS.F ht⟩) hS.2.2 dX4_restore_65 hlocks
      · have hw := hw.2 c6
        refine lv_iconst (v := (0 : Int32)) hx hb dX4_restore_35 (by decide) ?_
        exact W.iret (v := (0 : Int32)) hx hb hr (fun t ht hW => ⟨⟨(0 : Int32), (u5), rfl, hw, by rw [ht]; exact hP, hD⟩, hS.F ht⟩) hS.2.2 dX4_restore_36 hlocks
    · have hw := hw.1 c4
      refine lv_iconst (v := (2 : Int32)) hx hb dX4_restore_24 (by decide) ?_
      refine lv_goto (tgt := 29) hx hb dX4_restore_25 (by decide) ?_
      have hFc := va_free (wc := w_Mod cs q M) hD hS hA [0, 1, 2, 3, 4, 5, 6, 7, 8] rfl
      refine va_calli (va_runV (As := [.int (2 : Int32)]) (rest := []) ⟨hx, hb, hml, hown, hts⟩ (c_X4_refused l D cs q H.size M (2 : Int32) _ hw) (cwV 1 hts gX4_restore_X4_refused rfl rfl rfl (by decide +kernel) ⟨Nat.le_of_ble_eq_true rfl, Nat.le_of_ble_eq_true rfl⟩) (PC_V hP hD hKK 0 4 rfl rfl) rfl rfl hl.1 rfl (lv_room (Nat.le_of_ble_eq_true rfl)) dX4_restore_29 ⟨Nat.le_of_ble_eq_true rfl, Nat.le_of_ble_eq_true rfl⟩) hS (fun q _ h => hFc q h) hFc (fun r8 u8 t H locs ht hvm hw hB hz1 hk1 hS => ?_)
      obtain ⟨hP1, hD1⟩ := hB
      rw [ht] at hP1
      obtain ⟨b8, hw⟩ := hw
      have hD : va_D A (w_Mod cs q u8) := hD1.weaken (fun k q _ h => hFc q.1 h)
      have hP : va_P D vwCl (w_Mod cs q u8) H := hP1
      refine lv_if_eq (tgt := 37) hx hb dX4_restore_32 (by decide) (fun c9 => ?_) (fun c9 => ?_)
      · have hw := hw.1 c9
        refine lv_aload_n hx hb dX4_restore_37 rfl (lv_at hl 0 rfl) ?_
        refine va_get (D := D) (ci := 4) (v := .ref (q 5)) (C := RX4) (T := TX4) (N := 11) hx hb hts (h_X4_X4_restore) hown hK hP 0 rfl rfl 7 (by decide) (z_w hts 2 rfl) (fun _ h9 => h9) rfl dX4_restore_38 ?_
        refine lv_sipush (v := (336 : Int32)) hx hb dX4_restore_41 (by decide) ?_
        refine lv_iload_n hx hb dX4_restore_44 rfl (lv_at hl 1 rfl) ?_
        refine lv_imul hx hb dX4_restore_45 ?_
        refine lv_aload_n hx hb dX4_restore_46 rfl (lv_at hl 0 rfl) ?_
        refine va_get (D := D) (ci := 4) (v := .ref (q 2)) (C := RX4) (T := TX4) (N := 11) hx hb hts (h_X4_X4_restore) hown hK hP 0 rfl rfl 3 (by decide) (z_w hts 3 rfl) (fun _ h9 => h9) rfl dX4_restore_47 ?_
        refine lv_iconst (v := (0 : Int32)) hx hb dX4_restore_50 (by decide) ?_
        have hPc := hP.sub (ws' := w_Row cs (q 5) 672 (u8 5) ++ w_Row cs (q 2) 336 (u8 2)) [5, 2] rfl
        have hDc := hD.sub (ws' := w_Row cs (q 5) 672 (u8 5) ++ w_Row cs (q 2) 336 (u8 2)) [5, 2] (by decide) rfl
        have hFc := va_free (wc := w_Row cs (q 5) 672 (u8 5) ++ w_Row cs (q 2) 336 (u8 2)) hD hS hA [5, 2] rfl
        refine va_callv (va_runS (As := [.ref (q 5), .int ((336 : Int32) * x1), .ref (q 2), .int (0 : Int32)]) (rest := []) ⟨hx, hb, hml, hown, hts⟩ (c_X4_copyLine l D cs (q 5) (q 2) H.size 672 336 (u8 5) (u8 2) ((336 : Int32) * x1) (0 : Int32) _ hw) (va_cwS 4 hts gX4_restore_X4_copyLine rfl rfl rfl (by decide +kernel) ⟨Nat.le_of_ble_eq_true rfl, Nat.le_of_ble_eq_true rfl⟩) (PC_S hPc hDc hKK) rfl rfl hl.1 rfl (lv_room (Nat.le_of_ble_eq_true rfl)) dX4_restore_51 ⟨Nat.le_of_ble_eq_true rfl, Nat.le_of_ble_eq_true rfl⟩) hS (fun q _ h => hFc q h) hFc (fun u10 t H locs ht hvm hw hB hz1 hk1 hS => ?_)
        obtain ⟨hP1, hD1⟩ := hB
        rw [ht] at hP1
        obtain ⟨hP, hD⟩ := va_join (wr := ([0, 1, 3, 4, 6, 7, 8].filterMap (fun i => (w_Mod cs q u8)[i]?))) (w1 := w_Row cs (q 5) 672 (u8 5) ++ w_Row cs (q 2) 336 u10) hP hD [5, 2] [0, 1, 3, 4, 6, 7, 8] rfl rfl (by decide) (by decide) hk1 hFc hP1 hD1
        have hP : va_P D vwCl (w_Mod cs q (zr2 u8 2 u10)) H := hP.sub (ws' := w_Mod cs q (zr2 u8 2 u10)) [0, 1, 8, 2, 3, 7, 4, 5, 6] rfl
        have hD : va_D A (w_Mod cs q (zr2 u8 2 u10)) := hD.sub (ws' := w_Mod cs q (zr2 u8 2 u10)) [0, 1, 8, 2, 3, 7, 4, 5, 6] (by decide) rfl
        refine lv_aload_n hx hb dX4_restore_54 rfl (lv_at hl 0 rfl) ?_
        refine lv_iconst (v := (0 : Int32)) hx hb dX4_restore_55 (by decide) ?_
        refine va_put (D := D) (ci := 4) (v := .int (0 : Int32)) (ty := .int) (C := RX4) (T := TX4) (N := 11) hx hb hts (h_X4_X4_restore) tyX4 tyX4_ok nmX4 hown hK hP hD hS 0 rfl rfl 6 (by decide) (z_w hts 4 rfl) (fun _ h9 => h9) rfl (by decide +kernel) rfl rfl (Nat.le_of_ble_eq_true rfl) dX4_restore_56 (fun H locs hP hD hS => ?_)
        have hP : va_P D vwCl (w_Mod cs q (zs2 (zr2 u8 2 u10) 0 2 (0 : Int32))) H := hP
        have hD : va_D A (w_Mod cs q (zs2 (zr2 u8 2 u10) 0 2 (0 : Int32))) := hD
        refine lv_aload_n hx hb dX4_restore_59 rfl (lv_at hl 0 rfl) ?_
        refine va_get (D := D) (ci := 4) (v := .ref (q 2)) (C := RX4) (T := TX4) (N := 11) hx hb hts (h_X4_X4_restore) hown hK hP 0 rfl rfl 3 (by decide) (z_w hts 3 rfl) (fun _ h9 => h9) rfl dX4_restore_60 ?_
        refine lv_iconst (v := (2 : Int32)) hx hb dX4_restore_63 (by decide) ?_
        refine va_iald hx hb hK hP 2 0 rfl rfl (show vp_in (2 : Int32) 336 by unfold vp_in; decide) dX4_restore_64 ?_
        exact W.iret (v := u10 (2 : Int32).toNatClampNeg) hx hb hr (fun t ht hW => ⟨⟨u10 (2 : Int32).toNatClampNeg, (zs2 (zr2 u8 2 u10) 0 2 (0 : Int32)), rfl, hw, by rw [ht]; exact hP, hD⟩, hS.F ht⟩) hS.2.2 dX4_restore_65 hlocks
      · have hw := hw.2 c9
        refine lv_iconst (v := (0 : Int32)) hx hb dX4_restore_35 (by decide) ?_
        exact W.iret (v := (0 : Int32)) hx hb hr (fun t ht hW => ⟨⟨(0 : Int32), (u8), rfl, hw, by rw [ht]; exact hP, hD⟩, hS.F ht⟩) hS.2.2 dX4_restore_36 hlocks
  · have hw := hw.1 c2
    refine lv_iconst (v := (1 : Int32)) hx hb dX4_restore_11 (by decide) ?_
    refine lv_goto (tgt := 29) hx hb dX4_restore_12 (by decide) ?_
    have hFc := va_free (wc := w_Mod cs q M) hD hS hA [0, 1, 2, 3, 4, 5, 6, 7, 8] rfl
    refine va_calli (va_runV (As := [.int (1 : Int32)]) (rest := []) ⟨hx, hb, hml, hown, hts⟩ (c_X4_refused l D cs q H.size M (1 : Int32) _ hw) (cwV 1 hts gX4_restore_X4_refused rfl rfl rfl (by decide +kernel) ⟨Nat.le_of_ble_eq_true rfl, Nat.le_of_ble_eq_true rfl⟩) (PC_V hP hD hKK 0 4 rfl rfl) rfl rfl hl.1 rfl (lv_room (Nat.le_of_ble_eq_true rfl)) dX4_restore_29 ⟨Nat.le_of_ble_eq_true rfl, Nat.le_of_ble_eq_true rfl⟩) hS (fun q _ h => hFc q h) hFc (fun r11 u11 t H locs ht hvm hw hB hz1 hk1 hS => ?_)
    obtain ⟨hP1, hD1⟩ := hB
    rw [ht] at hP1
    obtain ⟨b11, hw⟩ := hw
    have hD : va_D A (w_Mod cs q u11) := hD1.weaken (fun k q _ h => hFc q.1 h)
    have hP : va_P D vwCl (w_Mod cs q u11) H := hP1
    refine lv_if_eq (tgt := 37) hx hb dX4_restore_32 (by decide) (fun c12 => ?_) (fun c12 => ?_)
    · have hw := hw.1 c12
      refine lv_aload_n hx hb dX4_restore_37 rfl (lv_at hl 0 rfl) ?_
      refine va_get (D := D) (ci := 4) (v := .ref (q 5)) (C := RX4) (T := TX4) (N := 11) hx hb hts (h_X4_X4_restore) hown hK hP 0 rfl rfl 7 (by decide) (z_w hts 2 rfl) (fun _ h9 => h9) rfl dX4_restore_38 ?_
      refine lv_sipush (v := (336 : Int32)) hx hb dX4_restore_41 (by decide) ?_
      refine lv_iload_n hx hb dX4_restore_44 rfl (lv_at hl 1 rfl) ?_
      refine lv_imul hx hb dX4_restore_45 ?_
      refine lv_aload_n hx hb dX4_restore_46 rfl (lv_at hl 0 rfl) ?_
      refine va_get (D := D) (ci := 4) (v := .ref (q 2)) (C := RX4) (T := TX4) (N := 11) hx hb hts (h_X4_X4_restore) hown hK hP 0 rfl rfl 3 (by decide) (z_w hts 3 rfl) (fun _ h9 => h9) rfl dX4_restore_47 ?_
      refine lv_iconst (v := (0 : Int32)) hx hb dX4_restore_50 (by decide) ?_
      have hPc := hP.sub (ws' := w_Row cs (q 5) 672 (u11 5) ++ w_Row cs (q 2) 336 (u11 2)) [5, 2] rfl
      have hDc := hD.sub (ws' := w_Row cs (q 5) 672 (u11 5) ++ w_Row cs (q 2) 336 (u11 2)) [5, 2] (by decide) rfl
      have hFc := va_free (wc := w_Row cs (q 5) 672 (u11 5) ++ w_Row cs (q 2) 336 (u11 2)) hD hS hA [5, 2] rfl
      refine va_callv (va_runS (As := [.ref (q 5), .int ((336 : Int32) * x1), .ref (q 2), .int (0 : Int32)]) (rest := []) ⟨hx, hb, hml, hown, hts⟩ (c_X4_copyLine l D cs (q 5) (q 2) H.size 672 336 (u11 5) (u11 2) ((336 : Int32) * x1) (0 : Int32) _ hw) (va_cwS 4 hts gX4_restore_X4_copyLine rfl rfl rfl (by decide +kernel) ⟨Nat.le_of_ble_eq_true rfl, Nat.le_of_ble_eq_true rfl⟩) (PC_S hPc hDc hKK) rfl rfl hl.1 rfl (lv_room (Nat.le_of_ble_eq_true rfl)) dX4_restore_51 ⟨Nat.le_of_ble_eq_true rfl, Nat.le_of_ble_eq_true rfl⟩) hS (fun q _ h => hFc q h) hFc (fun u13 t H locs ht hvm hw hB hz1 hk1 hS => ?_)
      obtain ⟨hP1, hD1⟩ := hB
      rw [ht] at hP1
      obtain ⟨hP, hD⟩ := va_join (wr := ([0, 1, 3, 4, 6, 7, 8].filterMap (fun i => (w_Mod cs q u11)[i]?))) (w1 := w_Row cs (q 5) 672 (u11 5) ++ w_Row cs (q 2) 336 u13) hP hD [5, 2] [0, 1, 3, 4, 6, 7, 8] rfl rfl (by decide) (by decide) hk1 hFc hP1 hD1
      have hP : va_P D vwCl (w_Mod cs q (zr2 u11 2 u13)) H := hP.sub (ws' := w_Mod cs q (zr2 u11 2 u13)) [0, 1, 8, 2, 3, 7, 4, 5, 6] rfl
      have hD : va_D A (w_Mod cs q (zr2 u11 2 u13)) := hD.sub (ws' := w_Mod cs q (zr2 u11 2 u13)) [0, 1, 8, 2, 3, 7, 4, 5, 6] (by decide) rfl
      refine lv_aload_n hx hb dX4_restore_54 rfl (lv_at hl 0 rfl) ?_
      refine lv_iconst (v := (0 : Int32)) hx hb dX4_restore_55 (by decide) ?_
      refine va_put (D := D) (ci := 4) (v := .int (0 : Int32)) (ty := .int) (C := RX4) (T := TX4) (N := 11) hx hb hts (h_X4_X4_restore) tyX4 tyX4_ok nmX4 hown hK hP hD hS 0 rfl rfl 6 (by decide) (z_w hts 4 rfl) (fun _ h9 => h9) rfl (by decide +kernel) rfl rfl (Nat.le_of_ble_eq_true rfl) dX4_restore_56 (fun H locs hP hD hS => ?_)
      have hP : va_P D vwCl (w_Mod cs q (zs2 (zr2 u11 2 u13) 0 2 (0 : Int32))) H := hP
      have hD : va_D A (w_Mod cs q (zs2 (zr2 u11 2 u13) 0 2 (0 : Int32))) := hD
      refine lv_aload_n hx hb dX4_restore_59 rfl (lv_at hl 0 rfl) ?_
      refine va_get (D := D) (ci := 4) (v := .ref (q 2)) (C := RX4) (T := TX4) (N := 11) hx hb hts (h_X4_X4_restore) hown hK hP 0 rfl rfl 3 (by decide) (z_w hts 3 rfl) (fun _ h9 => h9) rfl dX4_restore_60 ?_
      refine lv_iconst (v := (2 : Int32)) hx hb dX4_restore_63 (by decide) ?_
      refine va_iald hx hb hK hP 2 0 rfl rfl (show vp_in (2 : Int32) 336 by unfold vp_in; decide) dX4_restore_64 ?_
      exact W.iret (v := u13 (2 : Int32).toNatClampNeg) hx hb hr (fun t ht hW => ⟨⟨u13 (2 : Int32).toNatClampNeg, (zs2 (zr2 u11 2 u13) 0 2 (0 : Int32)), rfl, hw, by rw [ht]; exact hP, hD⟩, hS.F ht⟩) hS.2.2 dX4_restore_65 hlocks
    · have hw := hw.2 c12
      refine lv_iconst (v := (0 : Int32)) hx hb dX4_restore_35 (by decide) ?_
      exact W.iret (v := (0 : Int32)) hx hb hr (fun t ht hW => ⟨⟨(0 : Int32), (u11), rfl, hw, by rw [ht]; exact hP, hD⟩, hS.F ht⟩) hS.2.2 dX4_restore_36 hlocks
set_option maxHeartbeats 4000000 in
set_option maxRecDepth 100000 in
theorem c_X4_restore (l : Launch) (D : va_G) (cs : Nat → ClassId) (q : Nat → Nat) (sz : Nat) (M : MS) (x1 : Int32) (Q : Int32 → MS → Prop) (hw : wp_X4_restore M x1 Q) : Met l yX4_restore wsX4_restore ({ frames := 1, cells := 0, slots := 0, locals := 25 } : Room) (va_Pc [.ref (q 0), .int x1] (PC D cs (w_Mod cs q M) sz)) (va_Qi (fun r (u : MS) => Q r u) (fun (u : MS) t => va_P D vwCl (w_Mod cs q u) t.heap ∧ va_D (va_A (w_Mod cs q M) sz) (w_Mod cs q u)) (va_A (w_Mod cs q M) sz)) 0 0 (va_A (w_Mod cs q M) sz) := by
  refine Met.ofW (cc := cX4_restore) (maxL := 2) (ret := (some .int)) (by decide) rfl ?_
  intro p e s m args below meth c s₁ B hml hv
  obtain ⟨rfl, hsz, hP, hKK, hD0⟩ := hv
  have hC : MAt p s m _ meth c RX4 cX4_restore 2 (some .int) wsX4_restore D cs := ⟨B.exec, B.bytes, B.returns, hml, findClass_of_methodNamed B.named, atoms_spec (ws := wsX4_restore) B.pre, B.notSynchronized, hKK⟩
  have hl := lv_entry ([.ref (q 0), .int x1]) (n := 2) (Nat.le_of_ble_eq_true rfl)
  rw [lg_entry_eq]
  generalize (lg_sl ([.ref (q 0), .int x1]) ++ List.replicate (2 - (lg_sl ([.ref (q 0), .int x1])).length) Slot.unset).toArray = ls at hl ⊢
  subst hsz
  have hD := hD0.self (sz := s.heap.size)
  have hA : ∀ z : Nat, s.heap.size ≤ z → va_A (w_Mod cs q M) s.heap.size z := fun z h => Or.inr h
  exact t_X4_restore hC q M x1 Q hA hw s.heap [] hP hD va_S.rf ls hl

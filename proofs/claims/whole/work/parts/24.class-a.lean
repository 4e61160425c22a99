set_option maxHeartbeats 4000000 in
set_option maxRecDepth 100000 in
theorem t_X3_greatestToTry {p : Program} {l : Launch} {e : Env} {s : State} {m : MethodId} {args : Array Value} {below : List Frame} {meth : Method} {c : Code} {D : va_G} {cs : Nat → ClassId} {A : Nat → Prop} (hC : MAt p s m args meth c RX3 cX3_greatestToTry 1 (some .int) wsX3_greatestToTry D cs) (x0 : Int32) (Q : Int32 → Prop) (hw : wp_X3_greatestToTry x0 Q) (hP : va_P D vwCl (([] : va_W)) s.heap) (hD : va_D A (([] : va_W))) (ls : Array Slot) (hl : lv_has ls 1 [(0, .int x0)]) : W p l e ({ frames := 0, cells := 0, slots := 0, locals := 0 } : Room) s m args below meth c s.heap [] 0 0 (MQ below (vp_Si Q) args s 0 0 (fun _ => False)) (F0 m 0 ls []) := by
  obtain ⟨hx, hb, hr, hml, hown, hts, hlocks, hKK⟩ := id hC
  have hK := hKK.1
  refine lv_iload_n hx hb dX3_greatestToTry_0 rfl (lv_at hl 0 rfl) ?_
  refine lv_iconst (v := (1 : Int32)) hx hb dX3_greatestToTry_1 (by decide) ?_
  refine lv_icmp_ne (tgt := 7) hx hb dX3_greatestToTry_2 (by decide) (fun c1 => ?_) (fun c1 => ?_)
  · have hw := hw.2 c1
    refine lv_iload_n hx hb dX3_greatestToTry_7 rfl (lv_at hl 0 rfl) ?_
    refine lv_iconst (v := (2 : Int32)) hx hb dX3_greatestToTry_8 (by decide) ?_
    refine lv_icmp_ne (tgt := 17) hx hb dX3_greatestToTry_9 (by decide) (fun c2 => ?_) (fun c2 => ?_)
    · have hw := hw.2 c2
      refine lv_bipush (v := (26 : Int32)) hx hb dX3_greatestToTry_17 (by decide) ?_
      exact W.iret (v := (26 : Int32)) hx hb hr (fun t ht hW => ⟨(26 : Int32), rfl, hw, ht⟩) (fun q h => nomatch h) dX3_greatestToTry_19 hlocks
    · have hw := hw.1 c2
      refine lv_bipush (v := (8 : Int32)) hx hb dX3_greatestToTry_12 (by decide) ?_
      refine lv_goto (tgt := 19) hx hb dX3_greatestToTry_14 (by decide) ?_
      exact W.iret (v := (8 : Int32)) hx hb hr (fun t ht hW => ⟨(8 : Int32), rfl, hw, ht⟩) (fun q h => nomatch h) dX3_greatestToTry_19 hlocks
  · have hw := hw.1 c1
    refine lv_iconst (v := (2 : Int32)) hx hb dX3_greatestToTry_5 (by decide) ?_
    exact W.iret (v := (2 : Int32)) hx hb hr (fun t ht hW => ⟨(2 : Int32), rfl, hw, ht⟩) (fun q h => nomatch h) dX3_greatestToTry_6 hlocks
set_option maxHeartbeats 4000000 in
set_option maxRecDepth 100000 in
theorem c_X3_greatestToTry (l : Launch) (D : va_G) (cs : Nat → ClassId)  (sz : Nat) (x0 : Int32) (Q : Int32 → Prop) (hw : wp_X3_greatestToTry x0 Q) : Met l yX3_greatestToTry wsX3_greatestToTry ({ frames := 0, cells := 0, slots := 0, locals := 0 } : Room) (va_Pc [.int x0] (PC D cs (([] : va_W)) sz)) (vp_Si Q) 0 0 (fun _ => False) := by
  refine Met.ofW (cc := cX3_greatestToTry) (maxL := 1) (ret := (some .int)) (by decide) rfl ?_
  intro p e s m args below meth c s₁ B hml hv
  obtain ⟨rfl, hsz, hP, hKK, hD0⟩ := hv
  have hC : MAt p s m _ meth c RX3 cX3_greatestToTry 1 (some .int) wsX3_greatestToTry D cs := ⟨B.exec, B.bytes, B.returns, hml, findClass_of_methodNamed B.named, atoms_spec (ws := wsX3_greatestToTry) B.pre, B.notSynchronized, hKK⟩
  have hl := lv_entry ([.int x0]) (n := 1) (Nat.le_of_ble_eq_true rfl)
  rw [lg_entry_eq]
  generalize (lg_sl ([.int x0]) ++ List.replicate (1 - (lg_sl ([.int x0])).length) Slot.unset).toArray = ls at hl ⊢
  exact t_X3_greatestToTry hC  x0 Q hw hP hD0 ls hl
set_option maxHeartbeats 4000000 in
set_option maxRecDepth 100000 in
theorem t_X3_obeysBeats {p : Program} {l : Launch} {e : Env} {s : State} {m : MethodId} {args : Array Value} {below : List Frame} {meth : Method} {c : Code} {D : va_G} {cs : Nat → ClassId} {A : Nat → Prop} (hC : MAt p s m args meth c RX3 cX3_obeysBeats 2 (some .boolean) wsX3_obeysBeats D cs) (q : Nat → Nat) (L : LnS) (x1 : Int32) (Q : Int32 → LnS → Prop) (hA : ∀ q : Nat, s.heap.size ≤ q → A q) (hw : wp_X3_obeysBeats L x1 Q) (H : Heap) (locs : List Loc) (hP : va_P D vwCl (w_Line cs q L) H) (hD : va_D A (w_Line cs q L)) (hS : va_S A s.heap H locs) (ls : Array Slot) (hl : lv_has ls 2 [(0, .ref (q 0)), (1, .int x1)]) : W p l e ({ frames := 5, cells := 0, slots := 0, locals := 115 } : Room) s m args below meth c H locs 0 0 (MQ below (va_Qi (fun r (u : LnS) => (r = 0 ∨ r = 1) ∧ Q r u) (fun (u : LnS) t => va_P D vwCl (w_Line cs q u) t.heap ∧ va_D A (w_Line cs q u)) A) args s 0 0 A) (F0 m 0 ls []) := by
  obtain ⟨hx, hb, hr, hml, hown, hts, hlocks, hKK⟩ := id hC
  have hK := hKK.1
  refine lv_iload_n hx hb dX3_obeysBeats_0 rfl (lv_at hl 1 rfl) ?_
  refine lv_iconst (v := (1 : Int32)) hx hb dX3_obeysBeats_1 (by decide) ?_
  refine lv_icmp_lt (tgt := 11) hx hb dX3_obeysBeats_2 (by decide) (fun c1 => ?_) (fun c1 => ?_)
  · have hw := hw.1 c1
    refine lv_iconst (v := (0 : Int32)) hx hb dX3_obeysBeats_11 (by decide) ?_
    exact W.zret (v := (0 : Int32)) hx hb hr rfl (fun t ht hW => ⟨⟨(0 : Int32), (L), rfl, ⟨Or.inl rfl, hw⟩, by rw [ht]; exact hP, hD⟩, hS.F ht⟩) hS.2.2 dX3_obeysBeats_12 hlocks
  · have hw := hw.2 c1
    refine lv_iload_n hx hb dX3_obeysBeats_5 rfl (lv_at hl 1 rfl) ?_
    refine lv_bipush (v := (99 : Int32)) hx hb dX3_obeysBeats_6 (by decide) ?_
    refine lv_icmp_le (tgt := 13) hx hb dX3_obeysBeats_8 (by decide) (fun c2 => ?_) (fun c2 => ?_)
    · have hw := hw.1 c2
      refine lv_aload_n hx hb dX3_obeysBeats_13 rfl (lv_at hl 0 rfl) ?_
      refine lv_iload_n hx hb dX3_obeysBeats_14 rfl (lv_at hl 1 rfl) ?_
      have hFc := va_free (wc := w_Line cs q L) hD hS hA [0, 1, 2, 3, 4, 5, 6, 7, 8, 9] rfl
      refine va_callv (va_runV (As := [.int x1]) (rest := []) ⟨hx, hb, hml, hown, hts⟩ (c_X1_passBeats l D cs q H.size L x1 _ hw) (cwV 1 hts gX3_obeysBeats_X1_passBeats rfl rfl rfl (by decide +kernel) ⟨Nat.le_of_ble_eq_true rfl, Nat.le_of_ble_eq_true rfl⟩) (PC_V hP hD hKK 0 1 rfl rfl) rfl rfl hl.1 rfl (lv_room (Nat.le_of_ble_eq_true rfl)) dX3_obeysBeats_15 ⟨Nat.le_of_ble_eq_true rfl, Nat.le_of_ble_eq_true rfl⟩) hS (fun q _ h => hFc q h) hFc (fun u3 t H locs ht hvm hw hB hz1 hk1 hS => ?_)
      obtain ⟨hP1, hD1⟩ := hB
      rw [ht] at hP1
      have hD : va_D A (w_Line cs q u3) := hD1.weaken (fun k q _ h => hFc q.1 h)
      have hP : va_P D vwCl (w_Line cs q u3) H := hP1
      refine lv_iconst (v := (1 : Int32)) hx hb dX3_obeysBeats_18 (by decide) ?_
      exact W.zret (v := (1 : Int32)) hx hb hr rfl (fun t ht hW => ⟨⟨(1 : Int32), (u3), rfl, ⟨Or.inr rfl, hw⟩, by rw [ht]; exact hP, hD⟩, hS.F ht⟩) hS.2.2 dX3_obeysBeats_19 hlocks
    · have hw := hw.2 c2
      refine lv_iconst (v := (0 : Int32)) hx hb dX3_obeysBeats_11 (by decide) ?_
      exact W.zret (v := (0 : Int32)) hx hb hr rfl (fun t ht hW => ⟨⟨(0 : Int32), (L), rfl, ⟨Or.inl rfl, hw⟩, by rw [ht]; exact hP, hD⟩, hS.F ht⟩) hS.2.2 dX3_obeysBeats_12 hlocks
set_option maxHeartbeats 4000000 in
set_option maxRecDepth 100000 in
theorem c_X3_obeysBeats (l : Launch) (D : va_G) (cs : Nat → ClassId) (q : Nat → Nat) (sz : Nat) (L : LnS) (x1 : Int32) (Q : Int32 → LnS → Prop) (hw : wp_X3_obeysBeats L x1 Q) : Met l yX3_obeysBeats wsX3_obeysBeats ({ frames := 5, cells := 0, slots := 0, locals := 115 } : Room) (va_Pc [.ref (q 0), .int x1] (PC D cs (w_Line cs q L) sz)) (va_Qi (fun r (u : LnS) => (r = 0 ∨ r = 1) ∧ Q r u) (fun (u : LnS) t => va_P D vwCl (w_Line cs q u) t.heap ∧ va_D (va_A (w_Line cs q L) sz) (w_Line cs q u)) (va_A (w_Line cs q L) sz)) 0 0 (va_A (w_Line cs q L) sz) := by
  refine Met.ofW (cc := cX3_obeysBeats) (maxL := 2) (ret := (some .boolean)) (by decide) rfl ?_
  intro p e s m args below meth c s₁ B hml hv
  obtain ⟨rfl, hsz, hP, hKK, hD0⟩ := hv
  have hC : MAt p s m _ meth c RX3 cX3_obeysBeats 2 (some .boolean) wsX3_obeysBeats D cs := ⟨B.exec, B.bytes, B.returns, hml, findClass_of_methodNamed B.named, atoms_spec (ws := wsX3_obeysBeats) B.pre, B.notSynchronized, hKK⟩
  have hl := lv_entry ([.ref (q 0), .int x1]) (n := 2) (Nat.le_of_ble_eq_true rfl)
  rw [lg_entry_eq]
  generalize (lg_sl ([.ref (q 0), .int x1]) ++ List.replicate (2 - (lg_sl ([.ref (q 0), .int x1])).length) Slot.unset).toArray = ls at hl ⊢
  subst hsz
  have hD := hD0.self (sz := s.heap.size)
  have hA : ∀ z : Nat, s.heap.size ≤ z → va_A (w_Line cs q L) s.heap.size z := fun z h => Or.inr h
  exact t_X3_obeysBeats hC q L x1 Q hA hw s.heap [] hP hD va_S.rf ls hl
theorem h_X1_X3_obeysPace : ∀ w ∈ u_ws RX1 TX1 13, w ∈ wsX3_obeysPace := fun _ h => List.mem_cons_of_mem _ (List.mem_append_right _ h)
set_option maxHeartbeats 4000000 in
set_option maxRecDepth 100000 in
theorem t_X3_obeysPace {p : Program} {l : Launch} {e : Env} {s : State} {m : MethodId} {args : Array Value} {below : List Frame} {meth : Method} {c : Code} {D : va_G} {cs : Nat → ClassId} {A : Nat → Prop} (hC : MAt p s m args meth c RX3 cX3_obeysPace 2 (some .boolean) wsX3_obeysPace D cs) (q : Nat → Nat) (L : LnS) (x1 : Int32) (Q : Int32 → LnS → Prop) (hA : ∀ q : Nat, s.heap.size ≤ q → A q) (hw : wp_X3_obeysPace L x1 Q) (H : Heap) (locs : List Loc) (hP : va_P D vwCl (w_Line cs q L) H) (hD : va_D A (w_Line cs q L)) (hS : va_S A s.heap H locs) (ls : Array Slot) (hl : lv_has ls 2 [(0, .ref (q 0)), (1, .int x1)]) : W p l e ({ frames := 0, cells := 0, slots := 0, locals := 0 } : Room) s m args below meth c H locs 0 0 (MQ below (va_Qi (fun r (u : LnS) => (r = 0 ∨ r = 1) ∧ Q r u) (fun (u : LnS) t => va_P D vwCl (w_Line cs q u) t.heap ∧ va_D A (w_Line cs q u)) A) args s 0 0 A) (F0 m 0 ls []) := by
  obtain ⟨hx, hb, hr, hml, hown, hts, hlocks, hKK⟩ := id hC
  have hK := hKK.1
  refine lv_iload_n hx hb dX3_obeysPace_0 rfl (lv_at hl 1 rfl) ?_
  refine lv_iconst (v := (1 : Int32)) hx hb dX3_obeysPace_1 (by decide) ?_
  refine lv_icmp_lt (tgt := 11) hx hb dX3_obeysPace_2 (by decide) (fun c1 => ?_) (fun c1 => ?_)
  · have hw := hw.1 c1
    refine lv_iconst (v := (0 : Int32)) hx hb dX3_obeysPace_11 (by decide) ?_
    exact W.zret (v := (0 : Int32)) hx hb hr rfl (fun t ht hW => ⟨⟨(0 : Int32), (L), rfl, ⟨Or.inl rfl, hw⟩, by rw [ht]; exact hP, hD⟩, hS.F ht⟩) hS.2.2 dX3_obeysPace_12 hlocks
  · have hw := hw.2 c1
    refine lv_iload_n hx hb dX3_obeysPace_5 rfl (lv_at hl 1 rfl) ?_
    refine lv_bipush (v := (9 : Int32)) hx hb dX3_obeysPace_6 (by decide) ?_
    refine lv_icmp_le (tgt := 13) hx hb dX3_obeysPace_8 (by decide) (fun c2 => ?_) (fun c2 => ?_)
    · have hw := hw.1 c2
      refine lv_aload_n hx hb dX3_obeysPace_13 rfl (lv_at hl 0 rfl) ?_
      refine lv_iload_n hx hb dX3_obeysPace_14 rfl (lv_at hl 1 rfl) ?_
      refine va_put (D := D) (ci := 1) (v := .int x1) (ty := .int) (C := RX1) (T := TX1) (N := 13) hx hb hts (h_X1_X3_obeysPace) tyX1 tyX1_ok nmX1 hown hK hP hD hS 0 rfl rfl 1 (by decide) (z_w hts 1 rfl) (fun _ h9 => h9) rfl (by decide +kernel) rfl rfl (Nat.le_of_ble_eq_true rfl) dX3_obeysPace_15 (fun H locs hP hD hS => ?_)
      have hP : va_P D vwCl (w_Line cs q (lsS L 0 1 x1)) H := hP
      have hD : va_D A (w_Line cs q (lsS L 0 1 x1)) := hD
      refine lv_iconst (v := (1 : Int32)) hx hb dX3_obeysPace_18 (by decide) ?_
      exact W.zret (v := (1 : Int32)) hx hb hr rfl (fun t ht hW => ⟨⟨(1 : Int32), (lsS L 0 1 x1), rfl, ⟨Or.inr rfl, hw⟩, by rw [ht]; exact hP, hD⟩, hS.F ht⟩) hS.2.2 dX3_obeysPace_19 hlocks
    · have hw := hw.2 c2
      refine lv_iconst (v := (0 : Int32)) hx hb dX3_obeysPace_11 (by decide) ?_
      exact W.zret (v := (0 : Int32)) hx hb hr rfl (fun t ht hW => ⟨⟨(0 : Int32), (L), rfl, ⟨Or.inl rfl, hw⟩, by rw [ht]; exact hP, hD⟩, hS.F ht⟩) hS.2.2 dX3_obeysPace_12 hlocks
set_option maxHeartbeats 4000000 in
set_option maxRecDepth 100000 in
theorem c_X3_obeysPace (l : Launch) (D : va_G) (cs : Nat → ClassId) (q : Nat → Nat) (sz : Nat) (L : LnS) (x1 : Int32) (Q : Int32 → LnS → Prop) (hw : wp_X3_obeysPace L x1 Q) : Met l yX3_obeysPace wsX3_obeysPace ({ frames := 0, cells := 0, slots := 0, locals := 0 } : Room) (va_Pc [.ref (q 0), .int x1] (PC D cs (w_Line cs q L) sz)) (va_Qi (fun r (u : LnS) => (r = 0 ∨ r = 1) ∧ Q r u) (fun (u : LnS) t => va_P D vwCl (w_Line cs q u) t.heap ∧ va_D (va_A (w_Line cs q L) sz) (w_Line cs q u)) (va_A (w_Line cs q L) sz)) 0 0 (va_A (w_Line cs q L) sz) := by
  refine Met.ofW (cc := cX3_obeysPace) (maxL := 2) (ret := (some .boolean)) (by decide) rfl ?_
  intro p e s m args below meth c s₁ B hml hv
  obtain ⟨rfl, hsz, hP, hKK, hD0⟩ := hv
  have hC : MAt p s m _ meth c RX3 cX3_obeysPace 2 (some .boolean) wsX3_obeysPace D cs := ⟨B.exec, B.bytes, B.returns, hml, findClass_of_methodNamed B.named, atoms_spec (ws := wsX3_obeysPace) B.pre, B.notSynchronized, hKK⟩
  have hl := lv_entry ([.ref (q 0), .int x1]) (n := 2) (Nat.le_of_ble_eq_true rfl)
  rw [lg_entry_eq]
  generalize (lg_sl ([.ref (q 0), .int x1]) ++ List.replicate (2 - (lg_sl ([.ref (q 0), .int x1])).length) Slot.unset).toArray = ls at hl ⊢
  subst hsz
  have hD := hD0.self (sz := s.heap.size)
  have hA : ∀ z : Nat, s.heap.size ≤ z → va_A (w_Line cs q L) s.heap.size z := fun z h => Or.inr h
  exact t_X3_obeysPace hC q L x1 Q hA hw s.heap [] hP hD va_S.rf ls hl
theorem h_X1_X3_obeysLink : ∀ w ∈ u_ws RX1 TX1 13, w ∈ wsX3_obeysLink := fun _ h => List.mem_cons_of_mem _ (List.mem_append_right _ h)
set_option maxHeartbeats 4000000 in
set_option maxRecDepth 100000 in
theorem t_X3_obeysLink {p : Program} {l : Launch} {e : Env} {s : State} {m : MethodId} {args : Array Value} {below : List Frame} {meth : Method} {c : Code} {D : va_G} {cs : Nat → ClassId} {A : Nat → Prop} (hC : MAt p s m args meth c RX3 cX3_obeysLink 3 (some .boolean) wsX3_obeysLink D cs) (q : Nat → Nat) (L : LnS) (x1 : Int32) (x2 : Int32) (Q : Int32 → LnS → Prop) (hA : ∀ q : Nat, s.heap.size ≤ q → A q) (hw : wp_X3_obeysLink L x1 x2 Q) (H : Heap) (locs : List Loc) (hP : va_P D vwCl (w_Line cs q L) H) (hD : va_D A (w_Line cs q L)) (hS : va_S A s.heap H locs) (ls : Array Slot) (hl : lv_has ls 3 [(0, .ref (q 0)), (1, .int x1), (2, .int x2)]) : W p l e ({ frames := 1, cells := 0, slots := 0, locals := 21 } : Room) s m args below meth c H locs 0 0 (MQ below (va_Qi (fun r (u : LnS) => (r = 0 ∨ r = 1) ∧ Q r u) (fun (u : LnS) t => va_P D vwCl (w_Line cs q u) t.heap ∧ va_D A (w_Line cs q u)) A) args s 0 0 A) (F0 m 0 ls []) := by
  obtain ⟨hx, hb, hr, hml, hown, hts, hlocks, hKK⟩ := id hC
  have hK := hKK.1
  refine lv_iload_n hx hb dX3_obeysLink_0 rfl (lv_at hl 2 rfl) ?_
  refine lv_iconst (v := (1 : Int32)) hx hb dX3_obeysLink_1 (by decide) ?_
  refine lv_icmp_gt (tgt := 13) hx hb dX3_obeysLink_2 (by decide) (fun c1 => ?_) (fun c1 => ?_)
  · have hw := hw.1 c1
    refine lv_iconst (v := (0 : Int32)) hx hb dX3_obeysLink_13 (by decide) ?_
    exact W.zret (v := (0 : Int32)) hx hb hr rfl (fun t ht hW => ⟨⟨(0 : Int32), (L), rfl, ⟨Or.inl rfl, hw⟩, by rw [ht]; exact hP, hD⟩, hS.F ht⟩) hS.2.2 dX3_obeysLink_14 hlocks
  · have hw := hw.2 c1
    refine lv_aload_n hx hb dX3_obeysLink_5 rfl (lv_at hl 0 rfl) ?_
    refine lv_iload_n hx hb dX3_obeysLink_6 rfl (lv_at hl 1 rfl) ?_
    refine z_calli (va_runV (As := [.int x1]) (rest := []) ⟨hx, hb, hml, hown, hts⟩ (c_X1_canLink l D cs q H.size L x1 _ hw) (cwV 1 hts gX3_obeysLink_X1_canLink rfl rfl rfl (by decide +kernel) ⟨Nat.le_of_ble_eq_true rfl, Nat.le_of_ble_eq_true rfl⟩) (PC_V hP hD hKK 0 1 rfl rfl) rfl rfl hl.1 rfl (lv_room (Nat.le_of_ble_eq_true rfl)) dX3_obeysLink_7 ⟨Nat.le_of_ble_eq_true rfl, Nat.le_of_ble_eq_true rfl⟩) (fun r2 hw => ?_)
    obtain ⟨b2, hw⟩ := hw
    refine lv_if_ne (tgt := 15) hx hb dX3_obeysLink_10 (by decide) (fun c3 => ?_) (fun c3 => ?_)
    · have hw := hw.2 c3
      refine lv_aload_n hx hb dX3_obeysLink_15 rfl (lv_at hl 0 rfl) ?_
      refine va_get (D := D) (ci := 1) (v := .ref (q 2)) (C := RX1) (T := TX1) (N := 13) hx hb hts (h_X1_X3_obeysLink) hown hK hP 0 rfl rfl 5 (by decide) (z_w hts 1 rfl) (fun _ h9 => h9) rfl dX3_obeysLink_16 ?_
      refine lv_iload_n hx hb dX3_obeysLink_19 rfl (lv_at hl 1 rfl) ?_
      refine lv_iload_n hx hb dX3_obeysLink_20 rfl (lv_at hl 2 rfl) ?_
      refine lv_iconst (v := (1 : Int32)) hx hb dX3_obeysLink_21 (by decide) ?_
      refine lv_icmp_ne (tgt := 29) hx hb dX3_obeysLink_22 (by decide) (fun c4 => ?_) (fun c4 => ?_)
      · have hw := hw.2 c4
        refine lv_iconst (v := (0 : Int32)) hx hb dX3_obeysLink_29 (by decide) ?_
        obtain ⟨h5, hw⟩ := hw
        refine va_zast hx hb hK hP hD hS 2 1 rfl rfl h5 dX3_obeysLink_30 (fun H locs hP hD hS => ?_)
        have hP : va_P D vwCl (w_Line cs q (lsR L 2 (upd (L.1 2) x1.toNatClampNeg (vp_nar .boolean (0 : Int32))))) H := hP
        have hD : va_D A (w_Line cs q (lsR L 2 (upd (L.1 2) x1.toNatClampNeg (vp_nar .boolean (0 : Int32))))) := hD
        refine lv_iconst (v := (1 : Int32)) hx hb dX3_obeysLink_31 (by decide) ?_
        exact W.zret (v := (1 : Int32)) hx hb hr rfl (fun t ht hW => ⟨⟨(1 : Int32), (lsR L 2 (upd (L.1 2) x1.toNatClampNeg (vp_nar .boolean (0 : Int32)))), rfl, ⟨Or.inr rfl, hw⟩, by rw [ht]; exact hP, hD⟩, hS.F ht⟩) hS.2.2 dX3_obeysLink_32 hlocks
      · have hw := hw.1 c4
        refine lv_iconst (v := (1 : Int32)) hx hb dX3_obeysLink_25 (by decide) ?_
        refine lv_goto (tgt := 30) hx hb dX3_obeysLink_26 (by decide) ?_
        obtain ⟨h6, hw⟩ := hw
        refine va_zast hx hb hK hP hD hS 2 1 rfl rfl h6 dX3_obeysLink_30 (fun H locs hP hD hS => ?_)
        have hP : va_P D vwCl (w_Line cs q (lsR L 2 (upd (L.1 2) x1.toNatClampNeg (vp_nar .boolean (1 : Int32))))) H := hP
        have hD : va_D A (w_Line cs q (lsR L 2 (upd (L.1 2) x1.toNatClampNeg (vp_nar .boolean (1 : Int32))))) := hD
        refine lv_iconst (v := (1 : Int32)) hx hb dX3_obeysLink_31 (by decide) ?_
        exact W.zret (v := (1 : Int32)) hx hb hr rfl (fun t ht hW => ⟨⟨(1 : Int32), (lsR L 2 (upd (L.1 2) x1.toNatClampNeg (vp_nar .boolean (1 : Int32)))), rfl, ⟨Or.inr rfl, hw⟩, by rw [ht]; exact hP, hD⟩, hS.F ht⟩) hS.2.2 dX3_obeysLink_32 hlocks
    · have hw := hw.1 c3
      refine lv_iconst (v := (0 : Int32)) hx hb dX3_obeysLink_13 (by decide) ?_
      exact W.zret (v := (0 : Int32)) hx hb hr rfl (fun t ht hW => ⟨⟨(0 : Int32), (L), rfl, ⟨Or.inl rfl, hw⟩, by rw [ht]; exact hP, hD⟩, hS.F ht⟩) hS.2.2 dX3_obeysLink_14 hlocks
set_option maxHeartbeats 4000000 in
set_option maxRecDepth 100000 in
theorem c_X3_obeysLink (l : Launch) (D : va_G) (cs : Nat → ClassId) (q : Nat → Nat) (sz : Nat) (L : LnS) (x1 : Int32) (x2 : Int32) (Q : Int32 → LnS → Prop) (hw : wp_X3_obeysLink L x1 x2 Q) : Met l yX3_obeysLink wsX3_obeysLink ({ frames := 1, cells := 0, slots := 0, locals := 21 } : Room) (va_Pc [.ref (q 0), .int x1, .int x2] (PC D cs (w_Line cs q L) sz)) (va_Qi (fun r (u : LnS) => (r = 0 ∨ r = 1) ∧ Q r u) (fun (u : LnS) t => va_P D vwCl (w_Line cs q u) t.heap ∧ va_D (va_A (w_Line cs q L) sz) (w_Line cs q u)) (va_A (w_Line cs q L) sz)) 0 0 (va_A (w_Line cs q L) sz) := by
  refine Met.ofW (cc := cX3_obeysLink) (maxL := 3) (ret := (some .boolean)) (by decide) rfl ?_
  intro p e s m args below meth c s₁ B hml hv
  obtain ⟨rfl, hsz, hP, hKK, hD0⟩ := hv
  have hC : MAt p s m _ meth c RX3 cX3_obeysLink 3 (some .boolean) wsX3_obeysLink D cs := ⟨B.exec, B.bytes, B.returns, hml, findClass_of_methodNamed B.named, atoms_spec (ws := wsX3_obeysLink) B.pre, B.notSynchronized, hKK⟩
  have hl := lv_entry ([.ref (q 0), .int x1, .int x2]) (n := 3) (Nat.le_of_ble_eq_true rfl)
  rw [lg_entry_eq]
  generalize (lg_sl ([.ref (q 0), .int x1, .int x2]) ++ List.replicate (3 - (lg_sl ([.ref (q 0), .int x1, .int x2])).length) Slot.unset).toArray = ls at hl ⊢
  subst hsz
  have hD := hD0.self (sz := s.heap.size)
  have hA : ∀ z : Nat, s.heap.size ≤ z → va_A (w_Line cs q L) s.heap.size z := fun z h => Or.inr h
  exact t_X3_obeysLink hC q L x1 x2 Q hA hw s.heap [] hP hD va_S.rf ls hl
set_option maxHeartbeats 4000000 in
set_option maxRecDepth 100000 in
theorem t_X3_obeysGreater {p : Program} {l : Launch} {e : Env} {s : State} {m : MethodId} {args : Array Value} {below : List Frame} {meth : Method} {c : Code} {D : va_G} {cs : Nat → ClassId} {A : Nat → Prop} (hC : MAt p s m args meth c RX3 cX3_obeysGreater 3 (some .boolean) wsX3_obeysGreater D cs) (q : Nat → Nat) (L : LnS) (x1 : Int32) (x2 : Int32) (Q : Int32 → Prop) (hw : wp_X3_obeysGreater L x1 x2 Q) (hP : va_P D vwCl (w_Line cs q L) s.heap) (hD : va_D A (w_Line cs q L)) (ls : Array Slot) (hl : lv_has ls 3 [(0, .ref (q 0)), (1, .int x1), (2, .int x2)]) : W p l e ({ frames := 2, cells := 0, slots := 0, locals := 46 } : Room) s m args below meth c s.heap [] 0 0 (MQ below (vp_Si (fun r => (r = 0 ∨ r = 1) ∧ Q r)) args s 0 0 (fun _ => False)) (F0 m 0 ls []) := by
  obtain ⟨hx, hb, hr, hml, hown, hts, hlocks, hKK⟩ := id hC
  have hK := hKK.1
  refine lv_aload_n hx hb dX3_obeysGreater_0 rfl (lv_at hl 0 rfl) ?_
  refine lv_iload_n hx hb dX3_obeysGreater_1 rfl (lv_at hl 1 rfl) ?_
  refine z_calli (va_runV (As := [.int x1]) (rest := []) ⟨hx, hb, hml, hown, hts⟩ (c_X1_hasCounter l D cs q s.heap.size L x1 _ hw) (cwV 1 hts gX3_obeysGreater_X1_hasCounter rfl rfl rfl (by decide +kernel) ⟨Nat.le_of_ble_eq_true rfl, Nat.le_of_ble_eq_true rfl⟩) (PC_V hP hD hKK 0 1 rfl rfl) rfl rfl hl.1 rfl (lv_room (Nat.le_of_ble_eq_true rfl)) dX3_obeysGreater_2 ⟨Nat.le_of_ble_eq_true rfl, Nat.le_of_ble_eq_true rfl⟩) (fun r1 hw => ?_)
  obtain ⟨b1, hw⟩ := hw
  refine lv_if_eq (tgt := 34) hx hb dX3_obeysGreater_5 (by decide) (fun c2 => ?_) (fun c2 => ?_)
  · have hw := hw.1 c2
    refine lv_iconst (v := (0 : Int32)) hx hb dX3_obeysGreater_34 (by decide) ?_
    exact W.zret (v := (0 : Int32)) hx hb hr rfl (fun t ht hW => ⟨(0 : Int32), rfl, ⟨Or.inl rfl, hw⟩, ht⟩) (fun q h => nomatch h) dX3_obeysGreater_35 hlocks
  · have hw := hw.2 c2
    refine lv_aload_n hx hb dX3_obeysGreater_8 rfl (lv_at hl 0 rfl) ?_
    refine lv_iload_n hx hb dX3_obeysGreater_9 rfl (lv_at hl 2 rfl) ?_
    refine z_calli (va_runV (As := [.int x2]) (rest := []) ⟨hx, hb, hml, hown, hts⟩ (c_X1_hasCounter l D cs q s.heap.size L x2 _ hw) (cwV 1 hts gX3_obeysGreater_X1_hasCounter rfl rfl rfl (by decide +kernel) ⟨Nat.le_of_ble_eq_true rfl, Nat.le_of_ble_eq_true rfl⟩) (PC_V hP hD hKK 0 1 rfl rfl) rfl rfl hl.1 rfl (lv_room (Nat.le_of_ble_eq_true rfl)) dX3_obeysGreater_10 ⟨Nat.le_of_ble_eq_true rfl, Nat.le_of_ble_eq_true rfl⟩) (fun r3 hw => ?_)
    obtain ⟨b3, hw⟩ := hw
    refine lv_if_eq (tgt := 34) hx hb dX3_obeysGreater_13 (by decide) (fun c4 => ?_) (fun c4 => ?_)
    · have hw := hw.1 c4
      refine lv_iconst (v := (0 : Int32)) hx hb dX3_obeysGreater_34 (by decide) ?_
      exact W.zret (v := (0 : Int32)) hx hb hr rfl (fun t ht hW => ⟨(0 : Int32), rfl, ⟨Or.inl rfl, hw⟩, ht⟩) (fun q h => nomatch h) dX3_obeysGreater_35 hlocks
    · have hw := hw.2 c4
      refine lv_aload_n hx hb dX3_obeysGreater_16 rfl (lv_at hl 0 rfl) ?_
      refine lv_iload_n hx hb dX3_obeysGreater_17 rfl (lv_at hl 1 rfl) ?_
      refine z_calll (va_runV (As := [.int x1]) (rest := []) ⟨hx, hb, hml, hown, hts⟩ (c_X1_fullReading l D cs q s.heap.size L x1 _ hw) (cwV 1 hts gX3_obeysGreater_X1_fullReading rfl rfl rfl (by decide +kernel) ⟨Nat.le_of_ble_eq_true rfl, Nat.le_of_ble_eq_true rfl⟩) (PC_V hP hD hKK 0 1 rfl rfl) rfl rfl hl.1 rfl (lv_room (Nat.le_of_ble_eq_true rfl)) dX3_obeysGreater_18 ⟨Nat.le_of_ble_eq_true rfl, Nat.le_of_ble_eq_true rfl⟩) (fun r5 hw => ?_)
      refine lv_aload_n hx hb dX3_obeysGreater_21 rfl (lv_at hl 0 rfl) ?_
      refine lv_iload_n hx hb dX3_obeysGreater_22 rfl (lv_at hl 2 rfl) ?_
      refine z_calll (va_runV (As := [.int x2]) (rest := [.long r5]) ⟨hx, hb, hml, hown, hts⟩ (c_X1_fullReading l D cs q s.heap.size L x2 _ hw) (cwV 1 hts gX3_obeysGreater_X1_fullReading rfl rfl rfl (by decide +kernel) ⟨Nat.le_of_ble_eq_true rfl, Nat.le_of_ble_eq_true rfl⟩) (PC_V hP hD hKK 0 1 rfl rfl) rfl rfl hl.1 rfl (lv_room (Nat.le_of_ble_eq_true rfl)) dX3_obeysGreater_23 ⟨Nat.le_of_ble_eq_true rfl, Nat.le_of_ble_eq_true rfl⟩) (fun r6 hw => ?_)
      refine W.lcmp hx hb dX3_obeysGreater_26 ?_
      refine lv_if_le (tgt := 34) hx hb dX3_obeysGreater_27 (by decide) (fun c7 => ?_) (fun c7 => ?_)
      · have hw := hw.1 c7
        refine lv_iconst (v := (0 : Int32)) hx hb dX3_obeysGreater_34 (by decide) ?_
        exact W.zret (v := (0 : Int32)) hx hb hr rfl (fun t ht hW => ⟨(0 : Int32), rfl, ⟨Or.inl rfl, hw⟩, ht⟩) (fun q h => nomatch h) dX3_obeysGreater_35 hlocks
      · have hw := hw.2 c7
        refine lv_iconst (v := (1 : Int32)) hx hb dX3_obeysGreater_30 (by decide) ?_
        refine lv_goto (tgt := 35) hx hb dX3_obeysGreater_31 (by decide) ?_
        exact W.zret (v := (1 : Int32)) hx hb hr rfl (fun t ht hW => ⟨(1 : Int32), rfl, ⟨Or.inr rfl, hw⟩, ht⟩) (fun q h => nomatch h) dX3_obeysGreater_35 hlocks
set_option maxHeartbeats 4000000 in
set_option maxRecDepth 100000 in
theorem c_X3_obeysGreater (l : Launch) (D : va_G) (cs : Nat → ClassId) (q : Nat → Nat) (sz : Nat) (L : LnS) (x1 : Int32) (x2 : Int32) (Q : Int32 → Prop) (hw : wp_X3_obeysGreater L x1 x2 Q) : Met l yX3_obeysGreater wsX3_obeysGreater ({ frames := 2, cells := 0, slots := 0, locals := 46 } : Room) (va_Pc [.ref (q 0), .int x1, .int x2] (PC D cs (w_Line cs q L) sz)) (vp_Si (fun r => (r = 0 ∨ r = 1) ∧ Q r)) 0 0 (fun _ => False) := by
  refine Met.ofW (cc := cX3_obeysGreater) (maxL := 3) (ret := (some .boolean)) (by decide) rfl ?_
  intro p e s m args below meth c s₁ B hml hv
  obtain ⟨rfl, hsz, hP, hKK, hD0⟩ := hv
  have hC : MAt p s m _ meth c RX3 cX3_obeysGreater 3 (some .boolean) wsX3_obeysGreater D cs := ⟨B.exec, B.bytes, B.returns, hml, findClass_of_methodNamed B.named, atoms_spec (ws := wsX3_obeysGreater) B.pre, B.notSynchronized, hKK⟩
  have hl := lv_entry ([.ref (q 0), .int x1, .int x2]) (n := 3) (Nat.le_of_ble_eq_true rfl)
  rw [lg_entry_eq]
  generalize (lg_sl ([.ref (q 0), .int x1, .int x2]) ++ List.replicate (3 - (lg_sl ([.ref (q 0), .int x1, .int x2])).length) Slot.unset).toArray = ls at hl ⊢
  exact t_X3_obeysGreater hC q L x1 x2 Q hw hP hD0 ls hl
set_option maxHeartbeats 4000000 in
set_option maxRecDepth 100000 in
theorem t_X3_obeys {p : Program} {l : Launch} {e : Env} {s : State} {m : MethodId} {args : Array Value} {below : List Frame} {meth : Method} {c : Code} {D : va_G} {cs : Nat → ClassId} {A : Nat → Prop} (hC : MAt p s m args meth c RX3 cX3_obeys 5 (some .boolean) wsX3_obeys D cs) (q : Nat → Nat) (L : LnS) (x1 : Int32) (Q : Int32 → LnS → Prop) (hA : ∀ q : Nat, s.heap.size ≤ q → A q) (hw : wp_X3_obeys L x1 Q) (H : Heap) (locs : List Loc) (hP : va_P D vwCl (w_Line cs q L) H) (hD : va_D A (w_Line cs q L)) (hS : va_S A s.heap H locs) (ls : Array Slot) (hl : lv_has ls 5 [(0, .ref (q 0)), (1, .int x1)]) : W p l e ({ frames := 6, cells := 0, slots := 0, locals := 136 } : Room) s m args below meth c H locs 0 0 (MQ below (va_Qi (fun r (u : LnS) => (r = 0 ∨ r = 1) ∧ Q r u) (fun (u : LnS) t => va_P D vwCl (w_Line cs q u) t.heap ∧ va_D A (w_Line cs q u)) A) args s 0 0 A) (F0 m 0 ls []) := by
  obtain ⟨hx, hb, hr, hml, hown, hts, hlocks, hKK⟩ := id hC
  have hK := hKK.1
  refine lv_iload_n hx hb dX3_obeys_0 rfl (lv_at hl 1 rfl) ?_
  refine lv_ldcw hx hb hown (z_w hts 1 (w := .constant RX3 269 (100000)) rfl) dX3_obeys_1 ?_
  refine lv_idiv hx hb dX3_obeys_4 (by decide) ?_
  refine lv_istore_n (lv' := [(2, .int (x1 / (100000 : Int32))), (0, .ref (q 0)), (1, .int x1)]) hx hb dX3_obeys_5 rfl hl (by decide) rfl (fun ls hl => ?_)
  refine lv_iload_n hx hb dX3_obeys_6 rfl (lv_at hl 2 rfl) ?_
  refine lv_sipush (v := (10000 : Int32)) hx hb dX3_obeys_7 (by decide) ?_
  refine lv_idiv hx hb dX3_obeys_10 (by decide) ?_
  refine lv_bipush (v := (10 : Int32)) hx hb dX3_obeys_11 (by decide) ?_
  refine lv_irem hx hb dX3_obeys_13 (by decide) ?_
  refine lv_topi (fun y1 ey1 => ?_)
  have hw := hw y1 ey1
  refine lv_istore_n (lv' := [(3, .int y1), (2, .int (x1 / (100000 : Int32))), (0, .ref (q 0)), (1, .int x1)]) hx hb dX3_obeys_14 rfl hl (by decide) rfl (fun ls hl => ?_)
  refine lv_iload_n hx hb dX3_obeys_15 rfl (lv_at hl 3 rfl) ?_
  refine lv_sipush (v := (10000 : Int32)) hx hb dX3_obeys_16 (by decide) ?_
  refine lv_irem hx hb dX3_obeys_19 (by decide) ?_
  refine lv_topi (fun y2 ey2 => ?_)
  have hw := hw y2 ey2
  refine lv_istore (lv' := [(4, .int y2), (3, .int y1), (2, .int (x1 / (100000 : Int32))), (0, .ref (q 0)), (1, .int x1)]) hx hb dX3_obeys_20 hl (by decide) rfl (fun ls hl => ?_)
  refine lv_iload_n hx hb dX3_obeys_22 rfl (lv_at hl 2 rfl) ?_
  by_cases c3_0 : (x1 / (100000 : Int32)) = 1
  · have hw := hw.1 c3_0
    refine lv_tableIn (off := 49) (tgt := 72) hx hb dX3_obeys_23 (by rw [c3_0]; decide) (by rw [c3_0]; decide) (by rw [c3_0]; rfl) (by decide) ?_
    refine lv_aload_n hx hb dX3_obeys_72 rfl (lv_at hl 3 rfl) ?_
    refine lv_iload_n hx hb dX3_obeys_73 rfl (lv_at hl 1 rfl) ?_
    refine lv_iload hx hb dX3_obeys_74 (lv_at hl 0 rfl) ?_
    have hFc := va_free (wc := w_Line cs q L) hD hS hA [0, 1, 2, 3, 4, 5, 6, 7, 8, 9] rfl
    refine va_calli (va_runV (As := [.int y1, .int y2]) (rest := []) ⟨hx, hb, hml, hown, hts⟩ (c_X1_tryPutDigits l D cs q H.size L y1 y2 _ hw) (cwV 2 hts gX3_obeys_X1_tryPutDigits rfl rfl rfl (by decide +kernel) ⟨Nat.le_of_ble_eq_true rfl, Nat.le_of_ble_eq_true rfl⟩) (PC_V hP hD hKK 0 1 rfl rfl) rfl rfl hl.1 rfl (lv_room (Nat.le_of_ble_eq_true rfl)) dX3_obeys_76 ⟨Nat.le_of_ble_eq_true rfl, Nat.le_of_ble_eq_true rfl⟩) hS (fun q _ h => hFc q h) hFc (fun r4 u4 t H locs ht hvm hw hB hz1 hk1 hS => ?_)
    obtain ⟨hP1, hD1⟩ := hB
    rw [ht] at hP1
    obtain ⟨b4, hw⟩ := hw
    have hD : va_D A (w_Line cs q u4) := hD1.weaken (fun k q _ h => hFc q.1 h)
    have hP : va_P D vwCl (w_Line cs q u4) H := hP1
    exact W.zret (v := r4) hx hb hr (z_nar b4) (fun t ht hW => ⟨⟨r4, (u4), rfl, ⟨b4, hw⟩, by rw [ht]; exact hP, hD⟩, hS.F ht⟩) hS.2.2 dX3_obeys_79 hlocks
  have hw := hw.2 c3_0
  by_cases c3_1 : (x1 / (100000 : Int32)) = 2
  · have hw := hw.1 c3_1
    refine lv_tableIn (off := 57) (tgt := 80) hx hb dX3_obeys_23 (by rw [c3_1]; decide) (by rw [c3_1]; decide) (by rw [c3_1]; rfl) (by decide) ?_
    refine lv_aload_n hx hb dX3_obeys_80 rfl (lv_at hl 3 rfl) ?_
    refine lv_iload_n hx hb dX3_obeys_81 rfl (lv_at hl 1 rfl) ?_
    refine lv_iload hx hb dX3_obeys_82 (lv_at hl 0 rfl) ?_
    refine lv_ineg hx hb dX3_obeys_84 ?_
    have hFc := va_free (wc := w_Line cs q L) hD hS hA [0, 1, 2, 3, 4, 5, 6, 7, 8, 9] rfl
    refine va_calli (va_runV (As := [.int y1, .int (-y2)]) (rest := []) ⟨hx, hb, hml, hown, hts⟩ (c_X1_tryPutDigits l D cs q H.size L y1 (-y2) _ hw) (cwV 2 hts gX3_obeys_X1_tryPutDigits rfl rfl rfl (by decide +kernel) ⟨Nat.le_of_ble_eq_true rfl, Nat.le_of_ble_eq_true rfl⟩) (PC_V hP hD hKK 0 1 rfl rfl) rfl rfl hl.1 rfl (lv_room (Nat.le_of_ble_eq_true rfl)) dX3_obeys_85 ⟨Nat.le_of_ble_eq_true rfl, Nat.le_of_ble_eq_true rfl⟩) hS (fun q _ h => hFc q h) hFc (fun r5 u5 t H locs ht hvm hw hB hz1 hk1 hS => ?_)
    obtain ⟨hP1, hD1⟩ := hB
    rw [ht] at hP1
    obtain ⟨b5, hw⟩ := hw
    have hD : va_D A (w_Line cs q u5) := hD1.weaken (fun k q _ h => hFc q.1 h)
    have hP : va_P D vwCl (w_Line cs q u5) H := hP1
    exact W.zret (v := r5) hx hb hr (z_nar b5) (fun t ht hW => ⟨⟨r5, (u5), rfl, ⟨b5, hw⟩, by rw [ht]; exact hP, hD⟩, hS.F ht⟩) hS.2.2 dX3_obeys_88 hlocks
  have hw := hw.2 c3_1
  by_cases c3_2 : (x1 / (100000 : Int32)) = 3
  · have hw := hw.1 c3_2
    refine lv_tableIn (off := 66) (tgt := 89) hx hb dX3_obeys_23 (by rw [c3_2]; decide) (by rw [c3_2]; decide) (by rw [c3_2]; rfl) (by decide) ?_
    refine lv_iload hx hb dX3_obeys_89 (lv_at hl 0 rfl) ?_
    refine lv_if_ne (tgt := 106) hx hb dX3_obeys_91 (by decide) (fun c6 => ?_) (fun c6 => ?_)
    · have hw := hw.2 c6
      refine lv_iconst (v := (0 : Int32)) hx hb dX3_obeys_106 (by decide) ?_
      exact W.zret (v := (0 : Int32)) hx hb hr rfl (fun t ht hW => ⟨⟨(0 : Int32), (L), rfl, ⟨Or.inl rfl, hw⟩, by rw [ht]; exact hP, hD⟩, hS.F ht⟩) hS.2.2 dX3_obeys_107 hlocks
    · have hw := hw.1 c6
      refine lv_aload_n hx hb dX3_obeys_94 rfl (lv_at hl 3 rfl) ?_
      refine lv_iload_n hx hb dX3_obeys_95 rfl (lv_at hl 1 rfl) ?_
      have hFc := va_free (wc := w_Line cs q L) hD hS hA [0, 1, 2, 3, 4, 5, 6, 7, 8, 9] rfl
      refine va_calli (va_runV (As := [.int y1]) (rest := []) ⟨hx, hb, hml, hown, hts⟩ (c_X1_tryDraw l D cs q H.size L y1 _ hw) (cwV 1 hts gX3_obeys_X1_tryDraw rfl rfl rfl (by decide +kernel) ⟨Nat.le_of_ble_eq_true rfl, Nat.le_of_ble_eq_true rfl⟩) (PC_V hP hD hKK 0 1 rfl rfl) rfl rfl hl.1 rfl (lv_room (Nat.le_of_ble_eq_true rfl)) dX3_obeys_96 ⟨Nat.le_of_ble_eq_true rfl, Nat.le_of_ble_eq_true rfl⟩) hS (fun q _ h => hFc q h) hFc (fun r7 u7 t H locs ht hvm hw hB hz1 hk1 hS => ?_)
      obtain ⟨hP1, hD1⟩ := hB
      rw [ht] at hP1
      obtain ⟨b7, hw⟩ := hw
      have hD : va_D A (w_Line cs q u7) := hD1.weaken (fun k q _ h => hFc q.1 h)
      have hP : va_P D vwCl (w_Line cs q u7) H := hP1
      refine lv_if_eq (tgt := 106) hx hb dX3_obeys_99 (by decide) (fun c8 => ?_) (fun c8 => ?_)
      · have hw := hw.1 c8
        refine lv_iconst (v := (0 : Int32)) hx hb dX3_obeys_106 (by decide) ?_
        exact W.zret (v := (0 : Int32)) hx hb hr rfl (fun t ht hW => ⟨⟨(0 : Int32), (u7), rfl, ⟨Or.inl rfl, hw⟩, by rw [ht]; exact hP, hD⟩, hS.F ht⟩) hS.2.2 dX3_obeys_107 hlocks
      · have hw := hw.2 c8
        refine lv_iconst (v := (1 : Int32)) hx hb dX3_obeys_102 (by decide) ?_
        refine lv_goto (tgt := 107) hx hb dX3_obeys_103 (by decide) ?_
        exact W.zret (v := (1 : Int32)) hx hb hr rfl (fun t ht hW => ⟨⟨(1 : Int32), (u7), rfl, ⟨Or.inr rfl, hw⟩, by rw [ht]; exact hP, hD⟩, hS.F ht⟩) hS.2.2 dX3_obeys_107 hlocks
  have hw := hw.2 c3_2
  by_cases c3_3 : (x1 / (100000 : Int32)) = 4
  · have hw := hw.1 c3_3
    refine lv_tableIn (off := 85) (tgt := 108) hx hb dX3_obeys_23 (by rw [c3_3]; decide) (by rw [c3_3]; decide) (by rw [c3_3]; rfl) (by decide) ?_
    refine lv_iload_n hx hb dX3_obeys_108 rfl (lv_at hl 1 rfl) ?_
    refine lv_if_ne (tgt := 125) hx hb dX3_obeys_109 (by decide) (fun c9 => ?_) (fun c9 => ?_)
    · have hw := hw.2 c9
      refine lv_iconst (v := (0 : Int32)) hx hb dX3_obeys_125 (by decide) ?_
      exact W.zret (v := (0 : Int32)) hx hb hr rfl (fun t ht hW => ⟨⟨(0 : Int32), (L), rfl, ⟨Or.inl rfl, hw⟩, by rw [ht]; exact hP, hD⟩, hS.F ht⟩) hS.2.2 dX3_obeys_126 hlocks
    · have hw := hw.1 c9
      refine lv_aload_n hx hb dX3_obeys_112 rfl (lv_at hl 3 rfl) ?_
      refine lv_iload hx hb dX3_obeys_113 (lv_at hl 0 rfl) ?_
      have hFc := va_free (wc := w_Line cs q L) hD hS hA [0, 1, 2, 3, 4, 5, 6, 7, 8, 9] rfl
      refine va_calli (va_runS (As := [.ref (q 0), .int y2]) (rest := []) ⟨hx, hb, hml, hown, hts⟩ (c_X3_obeysBeats l D cs q H.size L y2 _ hw) (va_cwS 2 hts gX3_obeys_X3_obeysBeats rfl rfl rfl (by decide +kernel) ⟨Nat.le_of_ble_eq_true rfl, Nat.le_of_ble_eq_true rfl⟩) (PC_S hP hD hKK) rfl rfl hl.1 rfl (lv_room (Nat.le_of_ble_eq_true rfl)) dX3_obeys_115 ⟨Nat.le_of_ble_eq_true rfl, Nat.le_of_ble_eq_true rfl⟩) hS (fun q _ h => hFc q h) hFc (fun r10 u10 t H locs ht hvm hw hB hz1 hk1 hS => ?_)
      obtain ⟨hP1, hD1⟩ := hB
      rw [ht] at hP1
      obtain ⟨b10, hw⟩ := hw
      have hD : va_D A (w_Line cs q u10) := hD1.weaken (fun k q _ h => hFc q.1 h)
      have hP : va_P D vwCl (w_Line cs q u10) H := hP1
      refine lv_if_eq (tgt := 125) hx hb dX3_obeys_118 (by decide) (fun c11 => ?_) (fun c11 => ?_)
      · have hw := hw.1 c11
        refine lv_iconst (v := (0 : Int32)) hx hb dX3_obeys_125 (by decide) ?_
        exact W.zret (v := (0 : Int32)) hx hb hr rfl (fun t ht hW => ⟨⟨(0 : Int32), (u10), rfl, ⟨Or.inl rfl, hw⟩, by rw [ht]; exact hP, hD⟩, hS.F ht⟩) hS.2.2 dX3_obeys_126 hlocks
      · have hw := hw.2 c11
        refine lv_iconst (v := (1 : Int32)) hx hb dX3_obeys_121 (by decide) ?_
        refine lv_goto (tgt := 126) hx hb dX3_obeys_122 (by decide) ?_
        exact W.zret (v := (1 : Int32)) hx hb hr rfl (fun t ht hW => ⟨⟨(1 : Int32), (u10), rfl, ⟨Or.inr rfl, hw⟩, by rw [ht]; exact hP, hD⟩, hS.F ht⟩) hS.2.2 dX3_obeys_126 hlocks
  have hw := hw.2 c3_3
  by_cases c3_4 : (x1 / (100000 : Int32)) = 5
  · have hw := hw.1 c3_4
    refine lv_tableIn (off := 104) (tgt := 127) hx hb dX3_obeys_23 (by rw [c3_4]; decide) (by rw [c3_4]; decide) (by rw [c3_4]; rfl) (by decide) ?_
    refine lv_iload_n hx hb dX3_obeys_127 rfl (lv_at hl 1 rfl) ?_
    refine lv_if_ne (tgt := 144) hx hb dX3_obeys_128 (by decide) (fun c12 => ?_) (fun c12 => ?_)
    · have hw := hw.2 c12
      refine lv_iconst (v := (0 : Int32)) hx hb dX3_obeys_144 (by decide) ?_
      exact W.zret (v := (0 : Int32)) hx hb hr rfl (fun t ht hW => ⟨⟨(0 : Int32), (L), rfl, ⟨Or.inl rfl, hw⟩, by rw [ht]; exact hP, hD⟩, hS.F ht⟩) hS.2.2 dX3_obeys_145 hlocks
    · have hw := hw.1 c12
      refine lv_aload_n hx hb dX3_obeys_131 rfl (lv_at hl 3 rfl) ?_
      refine lv_iload hx hb dX3_obeys_132 (lv_at hl 0 rfl) ?_
      have hFc := va_free (wc := w_Line cs q L) hD hS hA [0, 1, 2, 3, 4, 5, 6, 7, 8, 9] rfl
      refine va_calli (va_runS (As := [.ref (q 0), .int y2]) (rest := []) ⟨hx, hb, hml, hown, hts⟩ (c_X3_obeysPace l D cs q H.size L y2 _ hw) (va_cwS 2 hts gX3_obeys_X3_obeysPace rfl rfl rfl (by decide +kernel) ⟨Nat.le_of_ble_eq_true rfl, Nat.le_of_ble_eq_true rfl⟩) (PC_S hP hD hKK) rfl rfl hl.1 rfl (lv_room (Nat.le_of_ble_eq_true rfl)) dX3_obeys_134 ⟨Nat.le_of_ble_eq_true rfl, Nat.le_of_ble_eq_true rfl⟩) hS (fun q _ h => hFc q h) hFc (fun r13 u13 t H locs ht hvm hw hB hz1 hk1 hS => ?_)
      obtain ⟨hP1, hD1⟩ := hB
      rw [ht] at hP1
      obtain ⟨b13, hw⟩ := hw
      have hD : va_D A (w_Line cs q u13) := hD1.weaken (fun k q _ h => hFc q.1 h)
      have hP : va_P D vwCl (w_Line cs q u13) H := hP1
      refine lv_if_eq (tgt := 144) hx hb dX3_obeys_137 (by decide) (fun c14 => ?_) (fun c14 => ?_)
      · have hw := hw.1 c14
        refine lv_iconst (v := (0 : Int32)) hx hb dX3_obeys_144 (by decide) ?_
        exact W.zret (v := (0 : Int32)) hx hb hr rfl (fun t ht hW => ⟨⟨(0 : Int32), (u13), rfl, ⟨Or.inl rfl, hw⟩, by rw [ht]; exact hP, hD⟩, hS.F ht⟩) hS.2.2 dX3_obeys_145 hlocks
      · have hw := hw.2 c14
        refine lv_iconst (v := (1 : Int32)) hx hb dX3_obeys_140 (by decide) ?_
        refine lv_goto (tgt := 145) hx hb dX3_obeys_141 (by decide) ?_
        exact W.zret (v := (1 : Int32)) hx hb hr rfl (fun t ht hW => ⟨⟨(1 : Int32), (u13), rfl, ⟨Or.inr rfl, hw⟩, by rw [ht]; exact hP, hD⟩, hS.F ht⟩) hS.2.2 dX3_obeys_145 hlocks
  have hw := hw.2 c3_4
  by_cases c3_5 : (x1 / (100000 : Int32)) = 6
  · have hw := hw.1 c3_5
    refine lv_tableIn (off := 123) (tgt := 146) hx hb dX3_obeys_23 (by rw [c3_5]; decide) (by rw [c3_5]; decide) (by rw [c3_5]; rfl) (by decide) ?_
    refine lv_aload_n hx hb dX3_obeys_146 rfl (lv_at hl 3 rfl) ?_
    refine lv_iload_n hx hb dX3_obeys_147 rfl (lv_at hl 1 rfl) ?_
    refine lv_iload hx hb dX3_obeys_148 (lv_at hl 0 rfl) ?_
    have hFc := va_free (wc := w_Line cs q L) hD hS hA [0, 1, 2, 3, 4, 5, 6, 7, 8, 9] rfl
    refine va_calli (va_runS (As := [.ref (q 0), .int y1, .int y2]) (rest := []) ⟨hx, hb, hml, hown, hts⟩ (c_X3_obeysLink l D cs q H.size L y1 y2 _ hw) (va_cwS 3 hts gX3_obeys_X3_obeysLink rfl rfl rfl (by decide +kernel) ⟨Nat.le_of_ble_eq_true rfl, Nat.le_of_ble_eq_true rfl⟩) (PC_S hP hD hKK) rfl rfl hl.1 rfl (lv_room (Nat.le_of_ble_eq_true rfl)) dX3_obeys_150 ⟨Nat.le_of_ble_eq_true rfl, Nat.le_of_ble_eq_true rfl⟩) hS (fun q _ h => hFc q h) hFc (fun r15 u15 t H locs ht hvm hw hB hz1 hk1 hS => ?_)
    obtain ⟨hP1, hD1⟩ := hB
    rw [ht] at hP1
    obtain ⟨b15, hw⟩ := hw
    have hD : va_D A (w_Line cs q u15) := hD1.weaken (fun k q _ h => hFc q.1 h)
    have hP : va_P D vwCl (w_Line cs q u15) H := hP1
    exact W.zret (v := r15) hx hb hr (z_nar b15) (fun t ht hW => ⟨⟨r15, (u15), rfl, ⟨b15, hw⟩, by rw [ht]; exact hP, hD⟩, hS.F ht⟩) hS.2.2 dX3_obeys_153 hlocks
  have hw := hw.2 c3_5
  by_cases c3_6 : (x1 / (100000 : Int32)) = 7
  · have hw := hw.1 c3_6
    refine lv_tableIn (off := 131) (tgt := 154) hx hb dX3_obeys_23 (by rw [c3_6]; decide) (by rw [c3_6]; decide) (by rw [c3_6]; rfl) (by decide) ?_
    refine lv_aload_n hx hb dX3_obeys_154 rfl (lv_at hl 3 rfl) ?_
    refine lv_iload_n hx hb dX3_obeys_155 rfl (lv_at hl 1 rfl) ?_
    refine z_calli (va_runV (As := [.int y1]) (rest := []) ⟨hx, hb, hml, hown, hts⟩ (c_X1_hasCounter l D cs q H.size L y1 _ hw) (cwV 1 hts gX3_obeys_X1_hasCounter rfl rfl rfl (by decide +kernel) ⟨Nat.le_of_ble_eq_true rfl, Nat.le_of_ble_eq_true rfl⟩) (PC_V hP hD hKK 0 1 rfl rfl) rfl rfl hl.1 rfl (lv_room (Nat.le_of_ble_eq_true rfl)) dX3_obeys_156 ⟨Nat.le_of_ble_eq_true rfl, Nat.le_of_ble_eq_true rfl⟩) (fun r16 hw => ?_)
    obtain ⟨b16, hw⟩ := hw
    refine lv_if_eq (tgt := 176) hx hb dX3_obeys_159 (by decide) (fun c17 => ?_) (fun c17 => ?_)
    · have hw := hw.1 c17
      refine lv_iconst (v := (0 : Int32)) hx hb dX3_obeys_176 (by decide) ?_
      exact W.zret (v := (0 : Int32)) hx hb hr rfl (fun t ht hW => ⟨⟨(0 : Int32), (L), rfl, ⟨Or.inl rfl, hw⟩, by rw [ht]; exact hP, hD⟩, hS.F ht⟩) hS.2.2 dX3_obeys_177 hlocks
    · have hw := hw.2 c17
      refine lv_aload_n hx hb dX3_obeys_162 rfl (lv_at hl 3 rfl) ?_
      refine lv_iload_n hx hb dX3_obeys_163 rfl (lv_at hl 1 rfl) ?_
      refine z_calli (va_runV (As := [.int y1]) (rest := []) ⟨hx, hb, hml, hown, hts⟩ (c_X1_reading l D cs q H.size L y1 _ hw) (cwV 1 hts gX3_obeys_X1_reading rfl rfl rfl (by decide +kernel) ⟨Nat.le_of_ble_eq_true rfl, Nat.le_of_ble_eq_true rfl⟩) (PC_V hP hD hKK 0 1 rfl rfl) rfl rfl hl.1 rfl (lv_room (Nat.le_of_ble_eq_true rfl)) dX3_obeys_164 ⟨Nat.le_of_ble_eq_true rfl, Nat.le_of_ble_eq_true rfl⟩) (fun r18 hw => ?_)
      refine lv_iload hx hb dX3_obeys_167 (lv_at hl 0 rfl) ?_
      refine lv_icmp_ne (tgt := 176) hx hb dX3_obeys_169 (by decide) (fun c19 => ?_) (fun c19 => ?_)
      · have hw := hw.2 c19
        refine lv_iconst (v := (0 : Int32)) hx hb dX3_obeys_176 (by decide) ?_
        exact W.zret (v := (0 : Int32)) hx hb hr rfl (fun t ht hW => ⟨⟨(0 : Int32), (L), rfl, ⟨Or.inl rfl, hw⟩, by rw [ht]; exact hP, hD⟩, hS.F ht⟩) hS.2.2 dX3_obeys_177 hlocks
      · have hw := hw.1 c19
        refine lv_iconst (v := (1 : Int32)) hx hb dX3_obeys_172 (by decide) ?_
        refine lv_goto (tgt := 177) hx hb dX3_obeys_173 (by decide) ?_
        exact W.zret (v := (1 : Int32)) hx hb hr rfl (fun t ht hW => ⟨⟨(1 : Int32), (L), rfl, ⟨Or.inr rfl, hw⟩, by rw [ht]; exact hP, hD⟩, hS.F ht⟩) hS.2.2 dX3_obeys_177 hlocks
  have hw := hw.2 c3_6
  by_cases c3_7 : (x1 / (100000 : Int32)) = 8
  · have hw := hw.1 c3_7
    refine lv_tableIn (off := 155) (tgt := 178) hx hb dX3_obeys_23 (by rw [c3_7]; decide) (by rw [c3_7]; decide) (by rw [c3_7]; rfl) (by decide) ?_
    refine lv_iload hx hb dX3_obeys_178 (lv_at hl 0 rfl) ?_
    refine lv_iconst (v := (1 : Int32)) hx hb dX3_obeys_180 (by decide) ?_
    refine lv_icmp_gt (tgt := 215) hx hb dX3_obeys_181 (by decide) (fun c20 => ?_) (fun c20 => ?_)
    · have hw := hw.1 c20
      refine lv_iconst (v := (0 : Int32)) hx hb dX3_obeys_215 (by decide) ?_
      exact W.zret (v := (0 : Int32)) hx hb hr rfl (fun t ht hW => ⟨⟨(0 : Int32), (L), rfl, ⟨Or.inl rfl, hw⟩, by rw [ht]; exact hP, hD⟩, hS.F ht⟩) hS.2.2 dX3_obeys_216 hlocks
    · have hw := hw.2 c20
      refine lv_aload_n hx hb dX3_obeys_184 rfl (lv_at hl 3 rfl) ?_
      refine lv_iload_n hx hb dX3_obeys_185 rfl (lv_at hl 1 rfl) ?_
      refine z_calli (va_runV (As := [.int y1]) (rest := []) ⟨hx, hb, hml, hown, hts⟩ (c_X1_hasCounter l D cs q H.size L y1 _ hw) (cwV 1 hts gX3_obeys_X1_hasCounter rfl rfl rfl (by decide +kernel) ⟨Nat.le_of_ble_eq_true rfl, Nat.le_of_ble_eq_true rfl⟩) (PC_V hP hD hKK 0 1 rfl rfl) rfl rfl hl.1 rfl (lv_room (Nat.le_of_ble_eq_true rfl)) dX3_obeys_186 ⟨Nat.le_of_ble_eq_true rfl, Nat.le_of_ble_eq_true rfl⟩) (fun r21 hw => ?_)
      obtain ⟨b21, hw⟩ := hw
      refine lv_if_eq (tgt := 215) hx hb dX3_obeys_189 (by decide) (fun c22 => ?_) (fun c22 => ?_)
      · have hw := hw.1 c22
        refine lv_iconst (v := (0 : Int32)) hx hb dX3_obeys_215 (by decide) ?_
        exact W.zret (v := (0 : Int32)) hx hb hr rfl (fun t ht hW => ⟨⟨(0 : Int32), (L), rfl, ⟨Or.inl rfl, hw⟩, by rw [ht]; exact hP, hD⟩, hS.F ht⟩) hS.2.2 dX3_obeys_216 hlocks
      · have hw := hw.2 c22
        refine lv_aload_n hx hb dX3_obeys_192 rfl (lv_at hl 3 rfl) ?_
        refine lv_iload_n hx hb dX3_obeys_193 rfl (lv_at hl 1 rfl) ?_
        refine z_calli (va_runV (As := [.int y1]) (rest := []) ⟨hx, hb, hml, hown, hts⟩ (c_X1_isAtRest l D cs q H.size L y1 _ hw) (cwV 1 hts gX3_obeys_X1_isAtRest rfl rfl rfl (by decide +kernel) ⟨Nat.le_of_ble_eq_true rfl, Nat.le_of_ble_eq_true rfl⟩) (PC_V hP hD hKK 0 1 rfl rfl) rfl rfl hl.1 rfl (lv_room (Nat.le_of_ble_eq_true rfl)) dX3_obeys_194 ⟨Nat.le_of_ble_eq_true rfl, Nat.le_of_ble_eq_true rfl⟩) (fun r23 hw => ?_)
        obtain ⟨b23, hw⟩ := hw
        refine lv_iload hx hb dX3_obeys_197 (lv_at hl 0 rfl) ?_
        refine lv_iconst (v := (1 : Int32)) hx hb dX3_obeys_199 (by decide) ?_
        refine lv_icmp_ne (tgt := 207) hx hb dX3_obeys_200 (by decide) (fun c24 => ?_) (fun c24 => ?_)
        · have hw := hw.2 c24
          refine lv_iconst (v := (0 : Int32)) hx hb dX3_obeys_207 (by decide) ?_
          refine lv_icmp_ne (tgt := 215) hx hb dX3_obeys_208 (by decide) (fun c25 => ?_) (fun c25 => ?_)
          · have hw := hw.2 c25
            refine lv_iconst (v := (0 : Int32)) hx hb dX3_obeys_215 (by decide) ?_
            exact W.zret (v := (0 : Int32)) hx hb hr rfl (fun t ht hW => ⟨⟨(0 : Int32), (L), rfl, ⟨Or.inl rfl, hw⟩, by rw [ht]; exact hP, hD⟩, hS.F ht⟩) hS.2.2 dX3_obeys_216 hlocks
          · have hw := hw.1 c25
            refine lv_iconst (v := (1 : Int32)) hx hb dX3_obeys_211 (by decide) ?_
            refine lv_goto (tgt := 216) hx hb dX3_obeys_212 (by decide) ?_
            exact W.zret (v := (1 : Int32)) hx hb hr rfl (fun t ht hW => ⟨⟨(1 : Int32), (L), rfl, ⟨Or.inr rfl, hw⟩, by rw [ht]; exact hP, hD⟩, hS.F ht⟩) hS.2.2 dX3_obeys_216 hlocks
        · have hw := hw.1 c24
          refine lv_iconst (v := (1 : Int32)) hx hb dX3_obeys_203 (by decide) ?_
          refine lv_goto (tgt := 208) hx hb dX3_obeys_204 (by decide) ?_
          refine lv_icmp_ne (tgt := 215) hx hb dX3_obeys_208 (by decide) (fun c26 => ?_) (fun c26 => ?_)
          · have hw := hw.2 c26
            refine lv_iconst (v := (0 : Int32)) hx hb dX3_obeys_215 (by decide) ?_
            exact W.zret (v := (0 : Int32)) hx hb hr rfl (fun t ht hW => ⟨⟨(0 : Int32), (L), rfl, ⟨Or.inl rfl, hw⟩, by rw [ht]; exact hP, hD⟩, hS.F ht⟩) hS.2.2 dX3_obeys_216 hlocks
          · have hw := hw.1 c26
            refine lv_iconst (v := (1 : Int32)) hx hb dX3_obeys_211 (by decide) ?_
            refine lv_goto (tgt := 216) hx hb dX3_obeys_212 (by decide) ?_
            exact W.zret (v := (1 : Int32)) hx hb hr rfl (fun t ht hW => ⟨⟨(1 : Int32), (L), rfl, ⟨Or.inr rfl, hw⟩, by rw [ht]; exact hP, hD⟩, hS.F ht⟩) hS.2.2 dX3_obeys_216 hlocks
  have hw := hw.2 c3_7
  by_cases c3_8 : (x1 / (100000 : Int32)) = 9
  · have hw := hw.1 c3_8
    refine lv_tableIn (off := 194) (tgt := 217) hx hb dX3_obeys_23 (by rw [c3_8]; decide) (by rw [c3_8]; decide) (by rw [c3_8]; rfl) (by decide) ?_
    refine lv_iload hx hb dX3_obeys_217 (lv_at hl 0 rfl) ?_
    refine lv_sipush (v := (1000 : Int32)) hx hb dX3_obeys_219 (by decide) ?_
    refine lv_irem hx hb dX3_obeys_222 (by decide) ?_
    refine lv_if_ne (tgt := 244) hx hb dX3_obeys_223 (by decide) (fun c27 => ?_) (fun c27 => ?_)
    · have hw := hw.2 c27
      refine lv_iconst (v := (0 : Int32)) hx hb dX3_obeys_244 (by decide) ?_
      exact W.zret (v := (0 : Int32)) hx hb hr rfl (fun t ht hW => ⟨⟨(0 : Int32), (L), rfl, ⟨Or.inl rfl, hw⟩, by rw [ht]; exact hP, hD⟩, hS.F ht⟩) hS.2.2 dX3_obeys_245 hlocks
    · have hw := hw.1 c27
      refine lv_aload_n hx hb dX3_obeys_226 rfl (lv_at hl 3 rfl) ?_
      refine lv_iload_n hx hb dX3_obeys_227 rfl (lv_at hl 1 rfl) ?_
      refine lv_iload hx hb dX3_obeys_228 (lv_at hl 0 rfl) ?_
      refine lv_sipush (v := (1000 : Int32)) hx hb dX3_obeys_230 (by decide) ?_
      refine lv_idiv hx hb dX3_obeys_233 (by decide) ?_
      refine z_calli (va_runS (As := [.ref (q 0), .int y1, .int (y2 / (1000 : Int32))]) (rest := []) ⟨hx, hb, hml, hown, hts⟩ (c_X3_obeysGreater l D cs q H.size L y1 (y2 / (1000 : Int32)) _ hw) (va_cwS 3 hts gX3_obeys_X3_obeysGreater rfl rfl rfl (by decide +kernel) ⟨Nat.le_of_ble_eq_true rfl, Nat.le_of_ble_eq_true rfl⟩) (PC_S hP hD hKK) rfl rfl hl.1 rfl (lv_room (Nat.le_of_ble_eq_true rfl)) dX3_obeys_234 ⟨Nat.le_of_ble_eq_true rfl, Nat.le_of_ble_eq_true rfl⟩) (fun r28 hw => ?_)
      obtain ⟨b28, hw⟩ := hw
      refine lv_if_eq (tgt := 244) hx hb dX3_obeys_237 (by decide) (fun c29 => ?_) (fun c29 => ?_)
      · have hw := hw.1 c29
        refine lv_iconst (v := (0 : Int32)) hx hb dX3_obeys_244 (by decide) ?_
        exact W.zret (v := (0 : Int32)) hx hb hr rfl (fun t ht hW => ⟨⟨(0 : Int32), (L), rfl, ⟨Or.inl rfl, hw⟩, by rw [ht]; exact hP, hD⟩, hS.F ht⟩) hS.2.2 dX3_obeys_245 hlocks
      · have hw := hw.2 c29
        refine lv_iconst (v := (1 : Int32)) hx hb dX3_obeys_240 (by decide) ?_
        refine lv_goto (tgt := 245) hx hb dX3_obeys_241 (by decide) ?_
        exact W.zret (v := (1 : Int32)) hx hb hr rfl (fun t ht hW => ⟨⟨(1 : Int32), (L), rfl, ⟨Or.inr rfl, hw⟩, by rw [ht]; exact hP, hD⟩, hS.F ht⟩) hS.2.2 dX3_obeys_245 hlocks
  have hw := hw.2 c3_8
  have e3_0 : ¬ ((x1 / (100000 : Int32))).toInt = 1 := fun h => c3_0 (Int32.toInt_inj.mp h)
  have e3_1 : ¬ ((x1 / (100000 : Int32))).toInt = 2 := fun h => c3_1 (Int32.toInt_inj.mp h)
  have e3_2 : ¬ ((x1 / (100000 : Int32))).toInt = 3 := fun h => c3_2 (Int32.toInt_inj.mp h)
  have e3_3 : ¬ ((x1 / (100000 : Int32))).toInt = 4 := fun h => c3_3 (Int32.toInt_inj.mp h)
  have e3_4 : ¬ ((x1 / (100000 : Int32))).toInt = 5 := fun h => c3_4 (Int32.toInt_inj.mp h)
  have e3_5 : ¬ ((x1 / (100000 : Int32))).toInt = 6 := fun h => c3_5 (Int32.toInt_inj.mp h)
  have e3_6 : ¬ ((x1 / (100000 : Int32))).toInt = 7 := fun h => c3_6 (Int32.toInt_inj.mp h)
  have e3_7 : ¬ ((x1 / (100000 : Int32))).toInt = 8 := fun h => c3_7 (Int32.toInt_inj.mp h)
  have e3_8 : ¬ ((x1 / (100000 : Int32))).toInt = 9 := fun h => c3_8 (Int32.toInt_inj.mp h)
  refine lv_tableOut (tgt := 246) hx hb dX3_obeys_23 (by omega) (by decide) ?_
  refine lv_iconst (v := (0 : Int32)) hx hb dX3_obeys_246 (by decide) ?_
  exact W.zret (v := (0 : Int32)) hx hb hr rfl (fun t ht hW => ⟨⟨(0 : Int32), (L), rfl, ⟨Or.inl rfl, hw⟩, by rw [ht]; exact hP, hD⟩, hS.F ht⟩) hS.2.2 dX3_obeys_247 hlocks
set_option maxHeartbeats 4000000 in
set_option maxRecDepth 100000 in
theorem c_X3_obeys (l : Launch) (D : va_G) (cs : Nat → ClassId) (q : Nat → Nat) (sz : Nat) (L : LnS) (x1 : Int32) (Q : Int32 → LnS → Prop) (hw : wp_X3_obeys L x1 Q) : Met l yX3_obeys wsX3_obeys ({ frames := 6, cells := 0, slots := 0, locals := 136 } : Room) (va_Pc [.ref (q 0), .int x1] (PC D cs (w_Line cs q L) sz)) (va_Qi (fun r (u : LnS) => (r = 0 ∨ r = 1) ∧ Q r u) (fun (u : LnS) t => va_P D vwCl (w_Line cs q u) t.heap ∧ va_D (va_A (w_Line cs q L) sz) (w_Line cs q u)) (va_A (w_Line cs q L) sz)) 0 0 (va_A (w_Line cs q L) sz) := by
  refine Met.ofW (cc := cX3_obeys) (maxL := 5) (ret := (some .boolean)) (by decide) rfl ?_
  intro p e s m args below meth c s₁ B hml hv
  obtain ⟨rfl, hsz, hP, hKK, hD0⟩ := hv
  have hC : MAt p s m _ meth c RX3 cX3_obeys 5 (some .boolean) wsX3_obeys D cs := ⟨B.exec, B.bytes, B.returns, hml, findClass_of_methodNamed B.named, atoms_spec (ws := wsX3_obeys) B.pre, B.notSynchronized, hKK⟩
  have hl := lv_entry ([.ref (q 0), .int x1]) (n := 5) (Nat.le_of_ble_eq_true rfl)
  rw [lg_entry_eq]
  generalize (lg_sl ([.ref (q 0), .int x1]) ++ List.replicate (5 - (lg_sl ([.ref (q 0), .int x1])).length) Slot.unset).toArray = ls at hl ⊢
  subst hsz
  have hD := hD0.self (sz := s.heap.size)
  have hA : ∀ z : Nat, s.heap.size ≤ z → va_A (w_Line cs q L) s.heap.size z := fun z h => Or.inr h
  exact t_X3_obeys hC q L x1 Q hA hw s.heap [] hP hD va_S.rf ls hl
theorem h_X1_X3_takeTurn : ∀ w ∈ u_ws RX1 TX1 13, w ∈ wsX3_takeTurn := fun _ h => List.mem_cons_of_mem _ (List.mem_append_right _ h)
set_option maxHeartbeats 4000000 in
set_option maxRecDepth 100000 in
theorem t_X3_takeTurn {p : Program} {l : Launch} {e : Env} {s : State} {m : MethodId} {args : Array Value} {below : List Frame} {meth : Method} {c : Code} {D : va_G} {cs : Nat → ClassId} {A : Nat → Prop} (hC : MAt p s m args meth c RX3 cX3_takeTurn 5 none wsX3_takeTurn D cs) (q : Nat → Nat) (L : LnS) (x1 : Int32) (Q : LnS → Prop) (hA : ∀ q : Nat, s.heap.size ≤ q → A q) (hw : wp_X3_takeTurn L x1 Q) (H : Heap) (locs : List Loc) (hP : va_P D vwCl (w_Line cs q L) H) (hD : va_D A (w_Line cs q L)) (hS : va_S A s.heap H locs) (ls : Array Slot) (hl : lv_has ls 5 [(0, .ref (q 0)), (1, .int x1)]) : W p l e ({ frames := 4, cells := 0, slots := 0, locals := 89 } : Room) s m args below meth c H locs 0 0 (MQ below (va_Qv (fun (u : LnS) => Q u) (fun (u : LnS) t => va_P D vwCl (w_Line cs q u) t.heap ∧ va_D A (w_Line cs q u)) A) args s 0 0 A) (F0 m 0 ls []) := by
  obtain ⟨hx, hb, hr, hml, hown, hts, hlocks, hKK⟩ := id hC
  have hK := hKK.1
  refine lv_aload_n hx hb dX3_takeTurn_0 rfl (lv_at hl 0 rfl) ?_
  refine va_get (D := D) (ci := 1) (v := .int (L.1 0 0)) (C := RX1) (T := TX1) (N := 13) hx hb hts (h_X1_X3_takeTurn) hown hK hP 0 rfl rfl 0 (by decide) (z_w hts 1 rfl) (fun _ h9 => h9) rfl dX3_takeTurn_1 ?_
  refine lv_istore_n (lv' := [(2, .int (L.1 0 0)), (0, .ref (q 0)), (1, .int x1)]) hx hb dX3_takeTurn_4 rfl hl (by decide) rfl (fun ls hl => ?_)
  refine lv_iload_n hx hb dX3_takeTurn_5 rfl (lv_at hl 0 rfl) ?_
  refine lv_iconst (v := (1 : Int32)) hx hb dX3_takeTurn_6 (by decide) ?_
  refine lv_icmp_ge (tgt := 11) hx hb dX3_takeTurn_7 (by decide) (fun c1 => ?_) (fun c1 => ?_)
  · have hw := hw.1 c1
    refine lv_iload_n hx hb dX3_takeTurn_11 rfl (lv_at hl 2 rfl) ?_
    refine lv_bipush (v := (8 : Int32)) hx hb dX3_takeTurn_12 (by decide) ?_
    refine lv_idiv hx hb dX3_takeTurn_14 (by decide) ?_
    refine lv_iload_n hx hb dX3_takeTurn_15 rfl (lv_at hl 0 rfl) ?_
    obtain ⟨h2, hw⟩ := hw
    refine lv_irem hx hb dX3_takeTurn_16 h2 ?_
    refine lv_topi (fun y3 ey3 => ?_)
    have hw := hw y3 ey3
    refine lv_istore_n (lv' := [(3, .int y3), (2, .int (L.1 0 0)), (0, .ref (q 0)), (1, .int x1)]) hx hb dX3_takeTurn_17 rfl hl (by decide) rfl (fun ls hl => ?_)
    refine lv_iload_n hx hb dX3_takeTurn_18 rfl (lv_at hl 3 rfl) ?_
    refine lv_bipush (v := (64 : Int32)) hx hb dX3_takeTurn_19 (by decide) ?_
    refine lv_idiv hx hb dX3_takeTurn_21 (by decide) ?_
    refine lv_bipush (v := (81 : Int32)) hx hb dX3_takeTurn_22 (by decide) ?_
    refine lv_irem hx hb dX3_takeTurn_24 (by decide) ?_
    refine lv_topi (fun y4 ey4 => ?_)
    have hw := hw y4 ey4
    refine lv_istore (lv' := [(4, .int y4), (3, .int y3), (2, .int (L.1 0 0)), (0, .ref (q 0)), (1, .int x1)]) hx hb dX3_takeTurn_25 hl (by decide) rfl (fun ls hl => ?_)
    refine lv_iload_n hx hb dX3_takeTurn_27 rfl (lv_at hl 4 rfl) ?_
    refine lv_bipush (v := (8 : Int32)) hx hb dX3_takeTurn_28 (by decide) ?_
    refine lv_irem hx hb dX3_takeTurn_30 (by decide) ?_
    by_cases c5_0 : (x1 - x1 / (8 : Int32) * (8 : Int32)) = 0
    · have hw := hw.1 c5_0
      refine lv_tableIn (off := 37) (tgt := 68) hx hb dX3_takeTurn_31 (by rw [c5_0]; decide) (by rw [c5_0]; decide) (by rw [c5_0]; rfl) (by decide) ?_
      refine lv_aload_n hx hb dX3_takeTurn_68 rfl (lv_at hl 3 rfl) ?_
      refine lv_iload_n hx hb dX3_takeTurn_69 rfl (lv_at hl 1 rfl) ?_
      have hFc := va_free (wc := w_Line cs q L) hD hS hA [0, 1, 2, 3, 4, 5, 6, 7, 8, 9] rfl
      refine va_calli (va_runV (As := [.int y3]) (rest := []) ⟨hx, hb, hml, hown, hts⟩ (c_X1_tryDraw l D cs q H.size L y3 _ hw) (cwV 1 hts gX3_takeTurn_X1_tryDraw rfl rfl rfl (by decide +kernel) ⟨Nat.le_of_ble_eq_true rfl, Nat.le_of_ble_eq_true rfl⟩) (PC_V hP hD hKK 0 1 rfl rfl) rfl rfl hl.1 rfl (lv_room (Nat.le_of_ble_eq_true rfl)) dX3_takeTurn_70 ⟨Nat.le_of_ble_eq_true rfl, Nat.le_of_ble_eq_true rfl⟩) hS (fun q _ h => hFc q h) hFc (fun r6 u6 t H locs ht hvm hw hB hz1 hk1 hS => ?_)
      obtain ⟨hP1, hD1⟩ := hB
      rw [ht] at hP1
      obtain ⟨b6, hw⟩ := hw
      have hD : va_D A (w_Line cs q u6) := hD1.weaken (fun k q _ h => hFc q.1 h)
      have hP : va_P D vwCl (w_Line cs q u6) H := hP1
      refine lv_pop hx hb dX3_takeTurn_73 rfl ?_
      refine lv_goto (tgt := 113) hx hb dX3_takeTurn_74 (by decide) ?_
      exact W.vret hx hb hr (fun t ht hW => ⟨⟨(u6), rfl, hw, by rw [ht]; exact hP, hD⟩, hS.F ht⟩) hS.2.2 dX3_takeTurn_113 hlocks
    have hw := hw.2 c5_0
    by_cases c5_1 : (x1 - x1 / (8 : Int32) * (8 : Int32)) = 1
    · have hw := hw.1 c5_1
      refine lv_tableIn (off := 37) (tgt := 68) hx hb dX3_takeTurn_31 (by rw [c5_1]; decide) (by rw [c5_1]; decide) (by rw [c5_1]; rfl) (by decide) ?_
      refine lv_aload_n hx hb dX3_takeTurn_68 rfl (lv_at hl 3 rfl) ?_
      refine lv_iload_n hx hb dX3_takeTurn_69 rfl (lv_at hl 1 rfl) ?_
      have hFc := va_free (wc := w_Line cs q L) hD hS hA [0, 1, 2, 3, 4, 5, 6, 7, 8, 9] rfl
      refine va_calli (va_runV (As := [.int y3]) (rest := []) ⟨hx, hb, hml, hown, hts⟩ (c_X1_tryDraw l D cs q H.size L y3 _ hw) (cwV 1 hts gX3_takeTurn_X1_tryDraw rfl rfl rfl (by decide +kernel) ⟨Nat.le_of_ble_eq_true rfl, Nat.le_of_ble_eq_true rfl⟩) (PC_V hP hD hKK 0 1 rfl rfl) rfl rfl hl.1 rfl (lv_room (Nat.le_of_ble_eq_true rfl)) dX3_takeTurn_70 ⟨Nat.le_of_ble_eq_true rfl, Nat.le_of_ble_eq_true rfl⟩) hS (fun q _ h => hFc q h) hFc (fun r7 u7 t H locs ht hvm hw hB hz1 hk1 hS => ?_)
      obtain ⟨hP1, hD1⟩ := hB
      rw [ht] at hP1
      obtain ⟨b7, hw⟩ := hw
      have hD : va_D A (w_Line cs q u7) := hD1.weaken (fun k q _ h => hFc q.1 h)
      have hP : va_P D vwCl (w_Line cs q u7) H := hP1
      refine lv_pop hx hb dX3_takeTurn_73 rfl ?_
      refine lv_goto (tgt := 113) hx hb dX3_takeTurn_74 (by decide) ?_
      exact W.vret hx hb hr (fun t ht hW => ⟨⟨(u7), rfl, hw, by rw [ht]; exact hP, hD⟩, hS.F ht⟩) hS.2.2 dX3_takeTurn_113 hlocks
    have hw := hw.2 c5_1
    by_cases c5_2 : (x1 - x1 / (8 : Int32) * (8 : Int32)) = 2
    · have hw := hw.1 c5_2
      refine lv_tableIn (off := 37) (tgt := 68) hx hb dX3_takeTurn_31 (by rw [c5_2]; decide) (by rw [c5_2]; decide) (by rw [c5_2]; rfl) (by decide) ?_
      refine lv_aload_n hx hb dX3_takeTurn_68 rfl (lv_at hl 3 rfl) ?_
      refine lv_iload_n hx hb dX3_takeTurn_69 rfl (lv_at hl 1 rfl) ?_
      have hFc := va_free (wc := w_Line cs q L) hD hS hA [0, 1, 2, 3, 4, 5, 6, 7, 8, 9] rfl
      refine va_calli (va_runV (As := [.int y3]) (rest := []) ⟨hx, hb, hml, hown, hts⟩ (c_X1_tryDraw l D cs q H.size L y3 _ hw) (cwV 1 hts gX3_takeTurn_X1_tryDraw rfl rfl rfl (by decide +kernel) ⟨Nat.le_of_ble_eq_true rfl, Nat.le_of_ble_eq_true rfl⟩) (PC_V hP hD hKK 0 1 rfl rfl) rfl rfl hl.1 rfl (lv_room (Nat.le_of_ble_eq_true rfl)) dX3_takeTurn_70 ⟨Nat.le_of_ble_eq_true rfl, Nat.le_of_ble_eq_true rfl⟩) hS (fun q _ h => hFc q h) hFc (fun r8 u8 t H locs ht hvm hw hB hz1 hk1 hS => ?_)
      obtain ⟨hP1, hD1⟩ := hB
      rw [ht] at hP1
      obtain ⟨b8, hw⟩ := hw
      have hD : va_D A (w_Line cs q u8) := hD1.weaken (fun k q _ h => hFc q.1 h)
      have hP : va_P D vwCl (w_Line cs q u8) H := hP1
      refine lv_pop hx hb dX3_takeTurn_73 rfl ?_
      refine lv_goto (tgt := 113) hx hb dX3_takeTurn_74 (by decide) ?_
      exact W.vret hx hb hr (fun t ht hW => ⟨⟨(u8), rfl, hw, by rw [ht]; exact hP, hD⟩, hS.F ht⟩) hS.2.2 dX3_takeTurn_113 hlocks
    have hw := hw.2 c5_2
    by_cases c5_3 : (x1 - x1 / (8 : Int32) * (8 : Int32)) = 3
    · have hw := hw.1 c5_3
      refine lv_tableIn (off := 46) (tgt := 77) hx hb dX3_takeTurn_31 (by rw [c5_3]; decide) (by rw [c5_3]; decide) (by rw [c5_3]; rfl) (by decide) ?_
      refine lv_aload_n hx hb dX3_takeTurn_77 rfl (lv_at hl 3 rfl) ?_
      refine lv_iload_n hx hb dX3_takeTurn_78 rfl (lv_at hl 1 rfl) ?_
      refine lv_iload hx hb dX3_takeTurn_79 (lv_at hl 0 rfl) ?_
      have hFc := va_free (wc := w_Line cs q L) hD hS hA [0, 1, 2, 3, 4, 5, 6, 7, 8, 9] rfl
      refine va_calli (va_runV (As := [.int y3, .int y4]) (rest := []) ⟨hx, hb, hml, hown, hts⟩ (c_X1_tryPutDigits l D cs q H.size L y3 y4 _ hw) (cwV 2 hts gX3_takeTurn_X1_tryPutDigits rfl rfl rfl (by decide +kernel) ⟨Nat.le_of_ble_eq_true rfl, Nat.le_of_ble_eq_true rfl⟩) (PC_V hP hD hKK 0 1 rfl rfl) rfl rfl hl.1 rfl (lv_room (Nat.le_of_ble_eq_true rfl)) dX3_takeTurn_81 ⟨Nat.le_of_ble_eq_true rfl, Nat.le_of_ble_eq_true rfl⟩) hS (fun q _ h => hFc q h) hFc (fun r9 u9 t H locs ht hvm hw hB hz1 hk1 hS => ?_)
      obtain ⟨hP1, hD1⟩ := hB
      rw [ht] at hP1
      obtain ⟨b9, hw⟩ := hw
      have hD : va_D A (w_Line cs q u9) := hD1.weaken (fun k q _ h => hFc q.1 h)
      have hP : va_P D vwCl (w_Line cs q u9) H := hP1
      refine lv_pop hx hb dX3_takeTurn_84 rfl ?_
      refine lv_goto (tgt := 113) hx hb dX3_takeTurn_85 (by decide) ?_
      exact W.vret hx hb hr (fun t ht hW => ⟨⟨(u9), rfl, hw, by rw [ht]; exact hP, hD⟩, hS.F ht⟩) hS.2.2 dX3_takeTurn_113 hlocks
    have hw := hw.2 c5_3
    by_cases c5_4 : (x1 - x1 / (8 : Int32) * (8 : Int32)) = 4
    · have hw := hw.1 c5_4
      refine lv_tableIn (off := 57) (tgt := 88) hx hb dX3_takeTurn_31 (by rw [c5_4]; decide) (by rw [c5_4]; decide) (by rw [c5_4]; rfl) (by decide) ?_
      refine lv_aload_n hx hb dX3_takeTurn_88 rfl (lv_at hl 3 rfl) ?_
      refine lv_iload_n hx hb dX3_takeTurn_89 rfl (lv_at hl 1 rfl) ?_
      refine lv_iload hx hb dX3_takeTurn_90 (lv_at hl 0 rfl) ?_
      refine lv_ineg hx hb dX3_takeTurn_92 ?_
      have hFc := va_free (wc := w_Line cs q L) hD hS hA [0, 1, 2, 3, 4, 5, 6, 7, 8, 9] rfl
      refine va_calli (va_runV (As := [.int y3, .int (-y4)]) (rest := []) ⟨hx, hb, hml, hown, hts⟩ (c_X1_tryPutDigits l D cs q H.size L y3 (-y4) _ hw) (cwV 2 hts gX3_takeTurn_X1_tryPutDigits rfl rfl rfl (by decide +kernel) ⟨Nat.le_of_ble_eq_true rfl, Nat.le_of_ble_eq_true rfl⟩) (PC_V hP hD hKK 0 1 rfl rfl) rfl rfl hl.1 rfl (lv_room (Nat.le_of_ble_eq_true rfl)) dX3_takeTurn_93 ⟨Nat.le_of_ble_eq_true rfl, Nat.le_of_ble_eq_true rfl⟩) hS (fun q _ h => hFc q h) hFc (fun r10 u10 t H locs ht hvm hw hB hz1 hk1 hS => ?_)
      obtain ⟨hP1, hD1⟩ := hB
      rw [ht] at hP1
      obtain ⟨b10, hw⟩ := hw
      have hD : va_D A (w_Line cs q u10) := hD1.weaken (fun k q _ h => hFc q.1 h)
      have hP : va_P D vwCl (w_Line cs q u10) H := hP1
      refine lv_pop hx hb dX3_takeTurn_96 rfl ?_
      refine lv_goto (tgt := 113) hx hb dX3_takeTurn_97 (by decide) ?_
      exact W.vret hx hb hr (fun t ht hW => ⟨⟨(u10), rfl, hw, by rw [ht]; exact hP, hD⟩, hS.F ht⟩) hS.2.2 dX3_takeTurn_113 hlocks
    have hw := hw.2 c5_4
    by_cases c5_5 : (x1 - x1 / (8 : Int32) * (8 : Int32)) = 5
    · have hw := hw.1 c5_5
      refine lv_tableIn (off := 69) (tgt := 100) hx hb dX3_takeTurn_31 (by rw [c5_5]; decide) (by rw [c5_5]; decide) (by rw [c5_5]; rfl) (by decide) ?_
      refine lv_aload_n hx hb dX3_takeTurn_100 rfl (lv_at hl 3 rfl) ?_
      refine lv_iload_n hx hb dX3_takeTurn_101 rfl (lv_at hl 1 rfl) ?_
      refine lv_iload_n hx hb dX3_takeTurn_102 rfl (lv_at hl 1 rfl) ?_
      refine lv_iconst (v := (1 : Int32)) hx hb dX3_takeTurn_103 (by decide) ?_
      refine lv_iadd hx hb dX3_takeTurn_104 ?_
      refine lv_iload_n hx hb dX3_takeTurn_105 rfl (lv_at hl 2 rfl) ?_
      obtain ⟨h11, hw⟩ := hw
      refine lv_irem hx hb dX3_takeTurn_106 h11 ?_
      have hFc := va_free (wc := w_Line cs q L) hD hS hA [0, 1, 2, 3, 4, 5, 6, 7, 8, 9] rfl
      refine va_callv (va_runV (As := [.int y3, .int ((y3 + (1 : Int32)) - (y3 + (1 : Int32)) / (L.1 0 0) * (L.1 0 0))]) (rest := []) ⟨hx, hb, hml, hown, hts⟩ (c_X1_tryPour l D cs q H.size L y3 ((y3 + (1 : Int32)) - (y3 + (1 : Int32)) / (L.1 0 0) * (L.1 0 0)) _ hw) (cwV 2 hts gX3_takeTurn_X1_tryPour rfl rfl rfl (by decide +kernel) ⟨Nat.le_of_ble_eq_true rfl, Nat.le_of_ble_eq_true rfl⟩) (PC_V hP hD hKK 0 1 rfl rfl) rfl rfl hl.1 rfl (lv_room (Nat.le_of_ble_eq_true rfl)) dX3_takeTurn_107 ⟨Nat.le_of_ble_eq_true rfl, Nat.le_of_ble_eq_true rfl⟩) hS (fun q _ h => hFc q h) hFc (fun u12 t H locs ht hvm hw hB hz1 hk1 hS => ?_)
      obtain ⟨hP1, hD1⟩ := hB
      rw [ht] at hP1
      have hD : va_D A (w_Line cs q u12) := hD1.weaken (fun k q _ h => hFc q.1 h)
      have hP : va_P D vwCl (w_Line cs q u12) H := hP1
      refine lv_goto (tgt := 113) hx hb dX3_takeTurn_110 (by decide) ?_
      exact W.vret hx hb hr (fun t ht hW => ⟨⟨(u12), rfl, hw, by rw [ht]; exact hP, hD⟩, hS.F ht⟩) hS.2.2 dX3_takeTurn_113 hlocks
    have hw := hw.2 c5_5
    have e5_0 : ¬ ((x1 - x1 / (8 : Int32) * (8 : Int32))).toInt = 0 := fun h => c5_0 (Int32.toInt_inj.mp h)
    have e5_1 : ¬ ((x1 - x1 / (8 : Int32) * (8 : Int32))).toInt = 1 := fun h => c5_1 (Int32.toInt_inj.mp h)
    have e5_2 : ¬ ((x1 - x1 / (8 : Int32) * (8 : Int32))).toInt = 2 := fun h => c5_2 (Int32.toInt_inj.mp h)
    have e5_3 : ¬ ((x1 - x1 / (8 : Int32) * (8 : Int32))).toInt = 3 := fun h => c5_3 (Int32.toInt_inj.mp h)
    have e5_4 : ¬ ((x1 - x1 / (8 : Int32) * (8 : Int32))).toInt = 4 := fun h => c5_4 (Int32.toInt_inj.mp h)
    have e5_5 : ¬ ((x1 - x1 / (8 : Int32) * (8 : Int32))).toInt = 5 := fun h => c5_5 (Int32.toInt_inj.mp h)
    refine lv_tableOut (tgt := 113) hx hb dX3_takeTurn_31 (by omega) (by decide) ?_
    exact W.vret hx hb hr (fun t ht hW => ⟨⟨(L), rfl, hw, by rw [ht]; exact hP, hD⟩, hS.F ht⟩) hS.2.2 dX3_takeTurn_113 hlocks
  · have hw := hw.2 c1
    exact W.vret hx hb hr (fun t ht hW => ⟨⟨(L), rfl, hw, by rw [ht]; exact hP, hD⟩, hS.F ht⟩) hS.2.2 dX3_takeTurn_10 hlocks
set_option maxHeartbeats 4000000 in
set_option maxRecDepth 100000 in
theorem c_X3_takeTurn (l : Launch) (D : va_G) (cs : Nat → ClassId) (q : Nat → Nat) (sz : Nat) (L : LnS) (x1 : Int32) (Q : LnS → Prop) (hw : wp_X3_takeTurn L x1 Q) : Met l yX3_takeTurn wsX3_takeTurn ({ frames := 4, cells := 0, slots := 0, locals := 89 } : Room) (va_Pc [.ref (q 0), .int x1] (PC D cs (w_Line cs q L) sz)) (va_Qv (fun (u : LnS) => Q u) (fun (u : LnS) t => va_P D vwCl (w_Line cs q u) t.heap ∧ va_D (va_A (w_Line cs q L) sz) (w_Line cs q u)) (va_A (w_Line cs q L) sz)) 0 0 (va_A (w_Line cs q L) sz) := by
  refine Met.ofW (cc := cX3_takeTurn) (maxL := 5) (ret := none) (by decide) rfl ?_
  intro p e s m args below meth c s₁ B hml hv
  obtain ⟨rfl, hsz, hP, hKK, hD0⟩ := hv
  have hC : MAt p s m _ meth c RX3 cX3_takeTurn 5 none wsX3_takeTurn D cs := ⟨B.exec, B.bytes, B.returns, hml, findClass_of_methodNamed B.named, atoms_spec (ws := wsX3_takeTurn) B.pre, B.notSynchronized, hKK⟩
  have hl := lv_entry ([.ref (q 0), .int x1]) (n := 5) (Nat.le_of_ble_eq_true rfl)
  rw [lg_entry_eq]
  generalize (lg_sl ([.ref (q 0), .int x1]) ++ List.replicate (5 - (lg_sl ([.ref (q 0), .int x1])).length) Slot.unset).toArray = ls at hl ⊢
  subst hsz
  have hD := hD0.self (sz := s.heap.size)
  have hA : ∀ z : Nat, s.heap.size ≤ z → va_A (w_Line cs q L) s.heap.size z := fun z h => Or.inr h
  exact t_X3_takeTurn hC q L x1 Q hA hw s.heap [] hP hD va_S.rf ls hl
theorem h_X3_X3_splitScript : ∀ w ∈ u_ws RX3 TX3 7, w ∈ wsX3_splitScript := fun _ h => List.mem_cons_of_mem _ (List.mem_append_right _ h)
set_option maxHeartbeats 4000000 in
set_option maxRecDepth 100000 in
theorem t_X3_splitScript_8 {p : Program} {l : Launch} {e : Env} {s : State} {m : MethodId} {args : Array Value} {below : List Frame} {meth : Method} {c : Code} {D : va_G} {cs : Nat → ClassId} {A : Nat → Prop} (hC : MAt p s m args meth c RX3 cX3_splitScript 7 (some .boolean) wsX3_splitScript D cs) (x : Nat → Nat) (tq : Nat → Nat) (h : Nat → Nat) (a : Nat → Nat → Nat) (Q : Int32 → XO → TS → HS → (Nat → LnS) → Prop) (hA : ∀ q : Nat, s.heap.size ≤ q → A q) : ∀ (n : Nat) (S : XO) (tx : TS) (hs : HS) (Ls : (Nat → LnS)) (x4 : Int64) (x6 : Int32), wl_X3_splitScript_8 Q n S tx hs Ls x4 x6 → ∀ (H : Heap) (locs : List Loc), va_P D vwCl (w_Xo cs x tq h a S ++ w_Text cs tq tx ++ w_Hist cs h a hs ++ linesW cs a 18 Ls) H → va_D A (w_Xo cs x tq h a S ++ w_Text cs tq tx ++ w_Hist cs h a hs ++ linesW cs a 18 Ls) → va_S A s.heap H locs → ∀ ls : Array Slot, lv_has ls 7 [(0, .ref (x 0)), (4, .long x4), (6, .int x6)] → W p l e ({ frames := 0, cells := 0, slots := 0, locals := 0 } : Room) s m args below meth c H locs 0 0 (MQ below (va_Qi (fun r (u : XO × TS × HS × (Nat → LnS)) => (r = 0 ∨ r = 1) ∧ Q r u.1 u.2.1 u.2.2.1 u.2.2.2) (fun (u : XO × TS × HS × (Nat → LnS)) t => va_P D vwCl (w_Xo cs x tq h a u.1 ++ w_Text cs tq u.2.1 ++ w_Hist cs h a u.2.2.1 ++ linesW cs a 18 u.2.2.2) t.heap ∧ va_D A (w_Xo cs x tq h a u.1 ++ w_Text cs tq u.2.1 ++ w_Hist cs h a u.2.2.1 ++ linesW cs a 18 u.2.2.2)) A) args s 0 0 A) (F0 m 8 ls []) := by
  obtain ⟨hx, hb, hr, hml, hown, hts, hlocks, hKK⟩ := id hC
  have hK := hKK.1
  intro n
  induction n with
  | zero =>
    intro S tx hs Ls x4 x6 hw
    exact False.elim hw
  | succ n ih =>
    intro S tx hs Ls x4 x6 hw H locs hP hD hS ls hl
    refine lv_iload hx hb dX3_splitScript_8 (lv_at hl 2 rfl) ?_
    refine lv_if_lt (tgt := 41) hx hb dX3_splitScript_10 (by decide) (fun c1 => ?_) (fun c1 => ?_)
    · have hw := hw.1 c1
      refine lv_lload hx hb dX3_splitScript_41 (lv_at hl 1 rfl) ?_
      refine lv_lconst (v := (0 : Int64)) hx hb dX3_splitScript_43 (by decide) ?_
      refine W.lcmp hx hb dX3_splitScript_44 ?_
      refine lv_if_ne (tgt := 52) hx hb dX3_splitScript_45 (by decide) (fun c2 => ?_) (fun c2 => ?_)
      · have hw := hw.2 c2
        refine lv_iconst (v := (0 : Int32)) hx hb dX3_splitScript_52 (by decide) ?_
        exact W.zret (v := (0 : Int32)) hx hb hr rfl (fun t ht hW => ⟨⟨(0 : Int32), (S, tx, hs, Ls), rfl, ⟨Or.inl rfl, hw⟩, by rw [ht]; exact hP, hD⟩, hS.F ht⟩) hS.2.2 dX3_splitScript_53 hlocks
      · have hw := hw.1 c2
        refine lv_iconst (v := (1 : Int32)) hx hb dX3_splitScript_48 (by decide) ?_
        refine lv_goto (tgt := 53) hx hb dX3_splitScript_49 (by decide) ?_
        exact W.zret (v := (1 : Int32)) hx hb hr rfl (fun t ht hW => ⟨⟨(1 : Int32), (S, tx, hs, Ls), rfl, ⟨Or.inr rfl, hw⟩, by rw [ht]; exact hP, hD⟩, hS.F ht⟩) hS.2.2 dX3_splitScript_53 hlocks
    · have hw := hw.2 c1
      refine lv_aload_n hx hb dX3_splitScript_13 rfl (lv_at hl 0 rfl) ?_
      refine va_get (D := D) (ci := 3) (v := .ref (x 3)) (C := RX3) (T := TX3) (N := 7) hx hb hts (h_X3_X3_splitScript) hown hK hP 0 rfl rfl 6 (by decide) (z_w hts 1 rfl) (fun _ h9 => h9) rfl dX3_splitScript_14 ?_
      refine lv_iload hx hb dX3_splitScript_17 (lv_at hl 2 rfl) ?_
      refine lv_lload hx hb dX3_splitScript_19 (lv_at hl 1 rfl) ?_
      refine lv_ldc2 (v := (1000000 : Int64)) hx hb hown (z_w hts 2 (w := .constantLong RX3 267 (1000000)) rfl) dX3_splitScript_21 ?_
      refine lv_lrem hx hb dX3_splitScript_24 (by decide) ?_
      refine lv_l2i (v := (x4 - x4 / (1000000 : Int64) * (1000000 : Int64)).toInt32) hx hb dX3_splitScript_25 rfl ?_
      obtain ⟨h3, hw⟩ := hw
      refine va_iast hx hb hK hP hD hS 3 0 rfl rfl h3 dX3_splitScript_26 (fun H locs hP hD hS => ?_)
      have hP : va_P D vwCl (w_Xo cs x tq h a (S.1, upd S.2 x6.toNatClampNeg ((x4 - x4 / (1000000 : Int64) * (1000000 : Int64)).toInt32)) ++ w_Text cs tq tx ++ w_Hist cs h a hs ++ linesW cs a 18 Ls) H := hP
      have hD : va_D A (w_Xo cs x tq h a (S.1, upd S.2 x6.toNatClampNeg ((x4 - x4 / (1000000 : Int64) * (1000000 : Int64)).toInt32)) ++ w_Text cs tq tx ++ w_Hist cs h a hs ++ linesW cs a 18 Ls) := hD
      refine lv_lload hx hb dX3_splitScript_27 (lv_at hl 1 rfl) ?_
      refine lv_ldc2 (v := (1000000 : Int64)) hx hb hown (z_w hts 2 (w := .constantLong RX3 267 (1000000)) rfl) dX3_splitScript_29 ?_
      refine lv_ldiv hx hb dX3_splitScript_32 (by decide) ?_
      refine lv_lstore (lv' := [(4, .long (x4 / (1000000 : Int64))), (0, .ref (x 0)), (6, .int x6)]) hx hb dX3_splitScript_33 hl (by decide) rfl (fun ls hl => ?_)
      refine lv_iinc (v := x6 + (-1)) (lv' := [(6, .int (x6 + (-1))), (4, .long (x4 / (1000000 : Int64))), (0, .ref (x 0))]) hx hb dX3_splitScript_35 hl (k := 2) rfl rfl (by decide) rfl (fun ls hl => ?_)
      refine lv_goto (tgt := 8) hx hb dX3_splitScript_38 (by decide) ?_
      exact ih _ _ _ _ _ _ hw _ _ hP hD hS ls (lv_sub hl [2, 1, 0] rfl)
set_option maxHeartbeats 4000000 in
set_option maxRecDepth 100000 in
theorem t_X3_splitScript {p : Program} {l : Launch} {e : Env} {s : State} {m : MethodId} {args : Array Value} {below : List Frame} {meth : Method} {c : Code} {D : va_G} {cs : Nat → ClassId} {A : Nat → Prop} (hC : MAt p s m args meth c RX3 cX3_splitScript 7 (some .boolean) wsX3_splitScript D cs) (x : Nat → Nat) (tq : Nat → Nat) (h : Nat → Nat) (a : Nat → Nat → Nat) (S : XO) (tx : TS) (hs : HS) (Ls : (Nat → LnS)) (x1 : Int32) (x2 : Int64) (Q : Int32 → XO → TS → HS → (Nat → LnS) → Prop) (hA : ∀ q : Nat, s.heap.size ≤ q → A q) (hw : wp_X3_splitScript S tx hs Ls x1 x2 Q) (H : Heap) (locs : List Loc) (hP : va_P D vwCl (w_Xo cs x tq h a S ++ w_Text cs tq tx ++ w_Hist cs h a hs ++ linesW cs a 18 Ls) H) (hD : va_D A (w_Xo cs x tq h a S ++ w_Text cs tq tx ++ w_Hist cs h a hs ++ linesW cs a 18 Ls)) (hS : va_S A s.heap H locs) (ls : Array Slot) (hl : lv_has ls 7 [(0, .ref (x 0)), (1, .int x1), (2, .long x2)]) : W p l e ({ frames := 0, cells := 0, slots := 0, locals := 0 } : Room) s m args below meth c H locs 0 0 (MQ below (va_Qi (fun r (u : XO × TS × HS × (Nat → LnS)) => (r = 0 ∨ r = 1) ∧ Q r u.1 u.2.1 u.2.2.1 u.2.2.2) (fun (u : XO × TS × HS × (Nat → LnS)) t => va_P D vwCl (w_Xo cs x tq h a u.1 ++ w_Text cs tq u.2.1 ++ w_Hist cs h a u.2.2.1 ++ linesW cs a 18 u.2.2.2) t.heap ∧ va_D A (w_Xo cs x tq h a u.1 ++ w_Text cs tq u.2.1 ++ w_Hist cs h a u.2.2.1 ++ linesW cs a 18 u.2.2.2)) A) args s 0 0 A) (F0 m 0 ls []) := by
  obtain ⟨hx, hb, hr, hml, hown, hts, hlocks, hKK⟩ := id hC
  have hK := hKK.1
  refine lv_lload_n hx hb dX3_splitScript_0 rfl (lv_at hl 2 rfl) ?_
  refine lv_lstore (lv' := [(4, .long x2), (0, .ref (x 0)), (1, .int x1), (2, .long x2)]) hx hb dX3_splitScript_1 hl (by decide) rfl (fun ls hl => ?_)
  refine lv_iload_n hx hb dX3_splitScript_3 rfl (lv_at hl 2 rfl) ?_
  refine lv_iconst (v := (1 : Int32)) hx hb dX3_splitScript_4 (by decide) ?_
  refine lv_isub hx hb dX3_splitScript_5 ?_
  refine lv_istore (lv' := [(6, .int (x1 - (1 : Int32))), (4, .long x2), (0, .ref (x 0)), (1, .int x1), (2, .long x2)]) hx hb dX3_splitScript_6 hl (by decide) rfl (fun ls hl => ?_)
  obtain ⟨n4, hw⟩ := hw
  exact t_X3_splitScript_8 hC x tq h a _ hA n4 _ _ _ _ _ _ hw H locs hP hD hS ls (lv_sub hl [2, 1, 0] rfl)
set_option maxHeartbeats 4000000 in
set_option maxRecDepth 100000 in
theorem c_X3_splitScript (l : Launch) (D : va_G) (cs : Nat → ClassId) (x : Nat → Nat) (tq : Nat → Nat) (h : Nat → Nat) (a : Nat → Nat → Nat) (sz : Nat) (S : XO) (tx : TS) (hs : HS) (Ls : (Nat → LnS)) (x1 : Int32) (x2 : Int64) (Q : Int32 → XO → TS → HS → (Nat → LnS) → Prop) (hw : wp_X3_splitScript S tx hs Ls x1 x2 Q) : Met l yX3_splitScript wsX3_splitScript ({ frames := 0, cells := 0, slots := 0, locals := 0 } : Room) (va_Pc [.ref (x 0), .int x1, .long x2] (PC D cs (w_Xo cs x tq h a S ++ w_Text cs tq tx ++ w_Hist cs h a hs ++ linesW cs a 18 Ls) sz)) (va_Qi (fun r (u : XO × TS × HS × (Nat → LnS)) => (r = 0 ∨ r = 1) ∧ Q r u.1 u.2.1 u.2.2.1 u.2.2.2) (fun (u : XO × TS × HS × (Nat → LnS)) t => va_P D vwCl (w_Xo cs x tq h a u.1 ++ w_Text cs tq u.2.1 ++ w_Hist cs h a u.2.2.1 ++ linesW cs a 18 u.2.2.2) t.heap ∧ va_D (va_A (w_Xo cs x tq h a S ++ w_Text cs tq tx ++ w_Hist cs h a hs ++ linesW cs a 18 Ls) sz) (w_Xo cs x tq h a u.1 ++ w_Text cs tq u.2.1 ++ w_Hist cs h a u.2.2.1 ++ linesW cs a 18 u.2.2.2)) (va_A (w_Xo cs x tq h a S ++ w_Text cs tq tx ++ w_Hist cs h a hs ++ linesW cs a 18 Ls) sz)) 0 0 (va_A (w_Xo cs x tq h a S ++ w_Text cs tq tx ++ w_Hist cs h a hs ++ linesW cs a 18 Ls) sz) := by
  refine Met.ofW (cc := cX3_splitScript) (maxL := 7) (ret := (some .boolean)) (by decide) rfl ?_
  intro p e s m args below meth c s₁ B hml hv
  obtain ⟨rfl, hsz, hP, hKK, hD0⟩ := hv
  have hC : MAt p s m _ meth c RX3 cX3_splitScript 7 (some .boolean) wsX3_splitScript D cs := ⟨B.exec, B.bytes, B.returns, hml, findClass_of_methodNamed B.named, atoms_spec (ws := wsX3_splitScript) B.pre, B.notSynchronized, hKK⟩
  have hl := lv_entry ([.ref (x 0), .int x1, .long x2]) (n := 7) (Nat.le_of_ble_eq_true rfl)
  rw [lg_entry_eq]
  generalize (lg_sl ([.ref (x 0), .int x1, .long x2]) ++ List.replicate (7 - (lg_sl ([.ref (x 0), .int x1, .long x2])).length) Slot.unset).toArray = ls at hl ⊢
  subst hsz
  have hD := hD0.self (sz := s.heap.size)
  have hA : ∀ z : Nat, s.heap.size ≤ z → va_A (w_Xo cs x tq h a S ++ w_Text cs tq tx ++ w_Hist cs h a hs ++ linesW cs a 18 Ls) s.heap.size z := fun z h => Or.inr h
  exact t_X3_splitScript hC x tq h a S tx hs Ls x1 x2 Q hA hw s.heap [] hP hD va_S.rf ls hl
theorem h_X2_X3_clearText : ∀ w ∈ u_ws RX2 TX2 2, w ∈ wsX3_clearText := fun _ h => List.mem_cons_of_mem _ (List.mem_append_right _ h)
theorem h_X3_X3_clearText : ∀ w ∈ u_ws RX3 TX3 7, w ∈ wsX3_clearText := fun _ h => List.mem_cons_of_mem _ (List.mem_append_left _ (List.mem_append_right _ h))
set_option maxHeartbeats 4000000 in
set_option maxRecDepth 100000 in
theorem t_X3_clearText {p : Program} {l : Launch} {e : Env} {s : State} {m : MethodId} {args : Array Value} {below : List Frame} {meth : Method} {c : Code} {D : va_G} {cs : Nat → ClassId} {A : Nat → Prop} (hC : MAt p s m args meth c RX3 cX3_clearText 2 (some .int) wsX3_clearText D cs) (x : Nat → Nat) (tq : Nat → Nat) (h : Nat → Nat) (a : Nat → Nat → Nat) (S : XO) (tx : TS) (hs : HS) (Ls : (Nat → LnS)) (Q : Int32 → XO → TS → HS → (Nat → LnS) → Prop) (hA : ∀ q : Nat, s.heap.size ≤ q → A q) (hw : wp_X3_clearText S tx hs Ls Q) (H : Heap) (locs : List Loc) (hP : va_P D vwCl (w_Xo cs x tq h a S ++ w_Text cs tq tx ++ w_Hist cs h a hs ++ linesW cs a 18 Ls) H) (hD : va_D A (w_Xo cs x tq h a S ++ w_Text cs tq tx ++ w_Hist cs h a hs ++ linesW cs a 18 Ls)) (hS : va_S A s.heap H locs) (ls : Array Slot) (hl : lv_has ls 2 [(0, .ref (x 0))]) : W p l e ({ frames := 0, cells := 0, slots := 0, locals := 0 } : Room) s m args below meth c H locs 0 0 (MQ below (va_Qi (fun r (u : XO × TS × HS × (Nat → LnS)) => Q r u.1 u.2.1 u.2.2.1 u.2.2.2) (fun (u : XO × TS × HS × (Nat → LnS)) t => va_P D vwCl (w_Xo cs x tq h a u.1 ++ w_Text cs tq u.2.1 ++ w_Hist cs h a u.2.2.1 ++ linesW cs a 18 u.2.2.2) t.heap ∧ va_D A (w_Xo cs x tq h a u.1 ++ w_Text cs tq u.2.1 ++ w_Hist cs h a u.2.2.1 ++ linesW cs a 18 u.2.2.2)) A) args s 0 0 A) (F0 m 0 ls []) := by
  obtain ⟨hx, hb, hr, hml, hown, hts, hlocks, hKK⟩ := id hC
  have hK := hKK.1
  refine lv_aload_n hx hb dX3_clearText_0 rfl (lv_at hl 0 rfl) ?_
  refine va_get (D := D) (ci := 3) (v := .ref (tq 0)) (C := RX3) (T := TX3) (N := 7) hx hb hts (h_X3_X3_clearText) hown hK hP 0 rfl rfl 0 (by decide) (z_w hts 1 rfl) (fun _ h9 => h9) rfl dX3_clearText_1 ?_
  refine va_get (D := D) (ci := 2) (v := .int tx.1) (C := RX2) (T := TX2) (N := 2) hx hb hts (h_X2_X3_clearText) hown hK hP 4 rfl rfl 1 (by decide) (z_w hts 2 rfl) (fun _ h9 => h9) rfl dX3_clearText_4 ?_
  refine lv_istore_n (lv' := [(1, .int tx.1), (0, .ref (x 0))]) hx hb dX3_clearText_7 rfl hl (by decide) rfl (fun ls hl => ?_)
  refine lv_aload_n hx hb dX3_clearText_8 rfl (lv_at hl 1 rfl) ?_
  refine va_get (D := D) (ci := 3) (v := .ref (tq 0)) (C := RX3) (T := TX3) (N := 7) hx hb hts (h_X3_X3_clearText) hown hK hP 0 rfl rfl 0 (by decide) (z_w hts 1 rfl) (fun _ h9 => h9) rfl dX3_clearText_9 ?_
  refine lv_iconst (v := (0 : Int32)) hx hb dX3_clearText_12 (by decide) ?_
  refine va_put (D := D) (ci := 2) (v := .int (0 : Int32)) (ty := .int) (C := RX2) (T := TX2) (N := 2) hx hb hts (h_X2_X3_clearText) tyX2 tyX2_ok nmX2 hown hK hP hD hS 4 rfl rfl 1 (by decide) (z_w hts 2 rfl) (fun _ h9 => h9) rfl (by decide +kernel) rfl rfl (Nat.le_of_ble_eq_true rfl) dX3_clearText_13 (fun H locs hP hD hS => ?_)
  have hP : va_P D vwCl (w_Xo cs x tq h a S ++ w_Text cs tq (txL tx (0 : Int32)) ++ w_Hist cs h a hs ++ linesW cs a 18 Ls) H := hP
  have hD : va_D A (w_Xo cs x tq h a S ++ w_Text cs tq (txL tx (0 : Int32)) ++ w_Hist cs h a hs ++ linesW cs a 18 Ls) := hD
  refine lv_iload_n hx hb dX3_clearText_16 rfl (lv_at hl 0 rfl) ?_
  exact W.iret (v := tx.1) hx hb hr (fun t ht hW => ⟨⟨tx.1, (S, txL tx (0 : Int32), hs, Ls), rfl, hw, by rw [ht]; exact hP, hD⟩, hS.F ht⟩) hS.2.2 dX3_clearText_17 hlocks
set_option maxHeartbeats 4000000 in
set_option maxRecDepth 100000 in
theorem c_X3_clearText (l : Launch) (D : va_G) (cs : Nat → ClassId) (x : Nat → Nat) (tq : Nat → Nat) (h : Nat → Nat) (a : Nat → Nat → Nat) (sz : Nat) (S : XO) (tx : TS) (hs : HS) (Ls : (Nat → LnS)) (Q : Int32 → XO → TS → HS → (Nat → LnS) → Prop) (hw : wp_X3_clearText S tx hs Ls Q) : Met l yX3_clearText wsX3_clearText ({ frames := 0, cells := 0, slots := 0, locals := 0 } : Room) (va_Pc [.ref (x 0)] (PC D cs (w_Xo cs x tq h a S ++ w_Text cs tq tx ++ w_Hist cs h a hs ++ linesW cs a 18 Ls) sz)) (va_Qi (fun r (u : XO × TS × HS × (Nat → LnS)) => Q r u.1 u.2.1 u.2.2.1 u.2.2.2) (fun (u : XO × TS × HS × (Nat → LnS)) t => va_P D vwCl (w_Xo cs x tq h a u.1 ++ w_Text cs tq u.2.1 ++ w_Hist cs h a u.2.2.1 ++ linesW cs a 18 u.2.2.2) t.heap ∧ va_D (va_A (w_Xo cs x tq h a S ++ w_Text cs tq tx ++ w_Hist cs h a hs ++ linesW cs a 18 Ls) sz) (w_Xo cs x tq h a u.1 ++ w_Text cs tq u.2.1 ++ w_Hist cs h a u.2.2.1 ++ linesW cs a 18 u.2.2.2)) (va_A (w_Xo cs x tq h a S ++ w_Text cs tq tx ++ w_Hist cs h a hs ++ linesW cs a 18 Ls) sz)) 0 0 (va_A (w_Xo cs x tq h a S ++ w_Text cs tq tx ++ w_Hist cs h a hs ++ linesW cs a 18 Ls) sz) := by
  refine Met.ofW (cc := cX3_clearText) (maxL := 2) (ret := (some .int)) (by decide) rfl ?_
  intro p e s m args below meth c s₁ B hml hv
  obtain ⟨rfl, hsz, hP, hKK, hD0⟩ := hv
  have hC : MAt p s m _ meth c RX3 cX3_clearText 2 (some .int) wsX3_clearText D cs := ⟨B.exec, B.bytes, B.returns, hml, findClass_of_methodNamed B.named, atoms_spec (ws := wsX3_clearText) B.pre, B.notSynchronized, hKK⟩
  have hl := lv_entry ([.ref (x 0)]) (n := 2) (Nat.le_of_ble_eq_true rfl)
  rw [lg_entry_eq]
  generalize (lg_sl ([.ref (x 0)]) ++ List.replicate (2 - (lg_sl ([.ref (x 0)])).length) Slot.unset).toArray = ls at hl ⊢
  subst hsz
  have hD := hD0.self (sz := s.heap.size)
  have hA : ∀ z : Nat, s.heap.size ≤ z → va_A (w_Xo cs x tq h a S ++ w_Text cs tq tx ++ w_Hist cs h a hs ++ linesW cs a 18 Ls) s.heap.size z := fun z h => Or.inr h
  exact t_X3_clearText hC x tq h a S tx hs Ls Q hA hw s.heap [] hP hD va_S.rf ls hl
theorem h_X3_X3_errorPosition : ∀ w ∈ u_ws RX3 TX3 7, w ∈ wsX3_errorPosition := fun _ h => List.mem_cons_of_mem _ (List.mem_append_left _ (List.mem_append_right _ h))
set_option maxHeartbeats 4000000 in
set_option maxRecDepth 100000 in
theorem t_X3_errorPosition {p : Program} {l : Launch} {e : Env} {s : State} {m : MethodId} {args : Array Value} {below : List Frame} {meth : Method} {c : Code} {D : va_G} {cs : Nat → ClassId} {A : Nat → Prop} (hC : MAt p s m args meth c RX3 cX3_errorPosition 1 (some .int) wsX3_errorPosition D cs) (x : Nat → Nat) (tq : Nat → Nat) (h : Nat → Nat) (a : Nat → Nat → Nat) (S : XO) (tx : TS) (hs : HS) (Ls : (Nat → LnS)) (Q : Int32 → Prop) (hw : wp_X3_errorPosition S tx hs Ls Q) (hP : va_P D vwCl (w_Xo cs x tq h a S ++ w_Text cs tq tx ++ w_Hist cs h a hs ++ linesW cs a 18 Ls) s.heap) (hD : va_D A (w_Xo cs x tq h a S ++ w_Text cs tq tx ++ w_Hist cs h a hs ++ linesW cs a 18 Ls)) (ls : Array Slot) (hl : lv_has ls 1 [(0, .ref (x 0))]) : W p l e ({ frames := 2, cells := 0, slots := 0, locals := 46 } : Room) s m args below meth c s.heap [] 0 0 (MQ below (vp_Si Q) args s 0 0 (fun _ => False)) (F0 m 0 ls []) := by
  obtain ⟨hx, hb, hr, hml, hown, hts, hlocks, hKK⟩ := id hC
  have hK := hKK.1
  refine lv_aload_n hx hb dX3_errorPosition_0 rfl (lv_at hl 0 rfl) ?_
  refine va_get (D := D) (ci := 3) (v := .ref (tq 0)) (C := RX3) (T := TX3) (N := 7) hx hb hts (h_X3_X3_errorPosition) hown hK hP 0 rfl rfl 0 (by decide) (z_w hts 1 rfl) (fun _ h9 => h9) rfl dX3_errorPosition_1 ?_
  have hPx := z_perm_P z_mid2 hP
  have hDx := z_perm_D z_mid2 hD
  have hPc := (z_app_P hPx).1
  have hDc := (z_app_D hDx).1
  refine z_calli (va_runV (As := []) (rest := []) ⟨hx, hb, hml, hown, hts⟩ (c_X2_firstWrong l D cs tq s.heap.size tx _ hw) (cwV 0 hts gX3_errorPosition_X2_firstWrong rfl rfl rfl (by decide +kernel) ⟨Nat.le_of_ble_eq_true rfl, Nat.le_of_ble_eq_true rfl⟩) (PC_V hPc hDc hKK 0 2 rfl rfl) rfl rfl hl.1 rfl (lv_room (Nat.le_of_ble_eq_true rfl)) dX3_errorPosition_4 ⟨Nat.le_of_ble_eq_true rfl, Nat.le_of_ble_eq_true rfl⟩) (fun r1 hw => ?_)
  exact W.iret (v := r1) hx hb hr (fun t ht hW => ⟨r1, rfl, hw, ht⟩) (fun q h => nomatch h) dX3_errorPosition_7 hlocks
set_option maxHeartbeats 4000000 in
set_option maxRecDepth 100000 in
theorem c_X3_errorPosition (l : Launch) (D : va_G) (cs : Nat → ClassId) (x : Nat → Nat) (tq : Nat → Nat) (h : Nat → Nat) (a : Nat → Nat → Nat) (sz : Nat) (S : XO) (tx : TS) (hs : HS) (Ls : (Nat → LnS)) (Q : Int32 → Prop) (hw : wp_X3_errorPosition S tx hs Ls Q) : Met l yX3_errorPosition wsX3_errorPosition ({ frames := 2, cells := 0, slots := 0, locals := 46 } : Room) (va_Pc [.ref (x 0)] (PC D cs (w_Xo cs x tq h a S ++ w_Text cs tq tx ++ w_Hist cs h a hs ++ linesW cs a 18 Ls) sz)) (vp_Si Q) 0 0 (fun _ => False) := by
  refine Met.ofW (cc := cX3_errorPosition) (maxL := 1) (ret := (some .int)) (by decide) rfl ?_
  intro p e s m args below meth c s₁ B hml hv
  obtain ⟨rfl, hsz, hP, hKK, hD0⟩ := hv
  have hC : MAt p s m _ meth c RX3 cX3_errorPosition 1 (some .int) wsX3_errorPosition D cs := ⟨B.exec, B.bytes, B.returns, hml, findClass_of_methodNamed B.named, atoms_spec (ws := wsX3_errorPosition) B.pre, B.notSynchronized, hKK⟩
  have hl := lv_entry ([.ref (x 0)]) (n := 1) (Nat.le_of_ble_eq_true rfl)
  rw [lg_entry_eq]
  generalize (lg_sl ([.ref (x 0)]) ++ List.replicate (1 - (lg_sl ([.ref (x 0)])).length) Slot.unset).toArray = ls at hl ⊢
  exact t_X3_errorPosition hC x tq h a S tx hs Ls Q hw hP hD0 ls hl
set_option maxHeartbeats 4000000 in
set_option maxRecDepth 100000 in
theorem t_X3_requireRange {p : Program} {l : Launch} {e : Env} {s : State} {m : MethodId} {args : Array Value} {below : List Frame} {meth : Method} {c : Code} {D : va_G} {cs : Nat → ClassId} {A : Nat → Prop} (hC : MAt p s m args meth c RX3 cX3_requireRange 3 none wsX3_requireRange D cs) (hfl : l.stackTraces = false) (hT0 : ∀ x ∈ c.exceptionTable.toList, False) {sa : Nat → Nat} (hTW : TW sa s) (hTZ : TZ A s s.heap) (x0 : Int32) (x1 : Int32) (x2 : Int32) (Q : Prop) (QX : String → Prop) (hA : ∀ q : Nat, s.heap.size ≤ q → A q) (hw : wp_X3_requireRange x0 x1 x2 Q QX) (H : Heap) (locs : List Loc) (hP : va_P D vwCl (([] : va_W)) H) (hD : va_D A (([] : va_W))) (hS : va_S A s.heap H locs) (ls : Array Slot) (hl : lv_has ls 3 [(0, .int x0), (1, .int x1), (2, .int x2)]) : W p l e ({ frames := 6, cells := 1, slots := 6, locals := 82 } : Room) s m args below meth c H locs 0 0 (vx_MQ below (va_Qv (fun (u : Unit) => Q ) (fun (u : Unit) t => va_P D vwCl (([] : va_W)) t.heap ∧ va_D A (([] : va_W))) A) (vx_X (fun (_ : Unit) => True) (fun E (u : Unit) t => QX E  ∧ va_P D vwCl (([] : va_W)) t.heap ∧ va_D A (([] : va_W))) A) args s 1 6 A) (F0 m 0 ls []) := by
  obtain ⟨hx, hb, hr, hml, hown, hts, hlocks, hKK⟩ := id hC
  have hK := hKK.1
  refine lv_iload_n hx hb dX3_requireRange_0 rfl (lv_at hl 0 rfl) ?_
  refine lv_iload_n hx hb dX3_requireRange_1 rfl (lv_at hl 1 rfl) ?_
  refine lv_icmp_lt (tgt := 10) hx hb dX3_requireRange_2 (by decide) (fun c1 => ?_) (fun c1 => ?_)
  · have hw := hw.1 c1
    exact vx_throwSW hx hb hfl hown (by decide +kernel) (by decide +kernel) (z_w hts 1 rfl) (z_w hts 2 rfl) (show vk_R RX3 256 "an argument is out of its range" (sa 10) s from hTW.1 10 (by decide)) (vx_hat (fun w h => hts w (List.mem_cons_of_mem _ (List.mem_append_right _ h))) zb_eIAE (vx_c (va_Nw.use rfl hTW.2.2.1) (vx_c (va_Nw.use rfl hTW.2.2.2.2.2.2.2.2.2.2.1) (vx_c (va_Nw.use rfl hTW.2.2.2.2.2.2.2.2.2.2.2.1) (vx_c (va_Nw.use rfl hTW.2.2.2.2.2.2.2.2.2.2.2.2) vx_n))))) zh_eIAE hTZ.1 hTZ.2 hS (hl.1.trans hml.symm) dX3_requireRange_10 dX3_requireRange_13 dX3_requireRange_14 dX3_requireRange_17 dX3_requireRange_20 (fun x h => (hT0 x h).elim) (Nat.le_of_ble_eq_true rfl) (Nat.le_of_ble_eq_true rfl) (Nat.le_of_ble_eq_true rfl) (Nat.le_of_ble_eq_true rfl) hlocks (fun t ha hz hk => ⟨(), trivial, ⟨hw, hP.kept (fun k q hq => hk q.1 (hP k q hq).lt), hD⟩, ⟨Nat.le_trans hS.1 hz, fun q h1 h2 => (hk q (Nat.lt_of_lt_of_le h1 hS.1)).trans (hS.2.1 q h1 h2)⟩⟩) hS.2.2 (Nat.le_of_ble_eq_true rfl) (Nat.le_of_ble_eq_true rfl)
  · have hw := hw.2 c1
    refine lv_iload_n hx hb dX3_requireRange_5 rfl (lv_at hl 0 rfl) ?_
    refine lv_iload_n hx hb dX3_requireRange_6 rfl (lv_at hl 2 rfl) ?_
    refine lv_icmp_le (tgt := 21) hx hb dX3_requireRange_7 (by decide) (fun c2 => ?_) (fun c2 => ?_)
    · have hw := hw.1 c2
      refine W.widen (k := 1) (n := 6) (Nat.le_of_ble_eq_true rfl) (Nat.le_of_ble_eq_true rfl) (vx_ret ?_)
      exact W.vret hx hb hr (fun t ht hW => ⟨⟨(), rfl, hw, by rw [ht]; exact hP, hD⟩, hS.F ht⟩) hS.2.2 dX3_requireRange_21 hlocks
    · have hw := hw.2 c2
      exact vx_throwSW hx hb hfl hown (by decide +kernel) (by decide +kernel) (z_w hts 1 rfl) (z_w hts 2 rfl) (show vk_R RX3 256 "an argument is out of its range" (sa 10) s from hTW.1 10 (by decide)) (vx_hat (fun w h => hts w (List.mem_cons_of_mem _ (List.mem_append_right _ h))) zb_eIAE (vx_c (va_Nw.use rfl hTW.2.2.1) (vx_c (va_Nw.use rfl hTW.2.2.2.2.2.2.2.2.2.2.1) (vx_c (va_Nw.use rfl hTW.2.2.2.2.2.2.2.2.2.2.2.1) (vx_c (va_Nw.use rfl hTW.2.2.2.2.2.2.2.2.2.2.2.2) vx_n))))) zh_eIAE hTZ.1 hTZ.2 hS (hl.1.trans hml.symm) dX3_requireRange_10 dX3_requireRange_13 dX3_requireRange_14 dX3_requireRange_17 dX3_requireRange_20 (fun x h => (hT0 x h).elim) (Nat.le_of_ble_eq_true rfl) (Nat.le_of_ble_eq_true rfl) (Nat.le_of_ble_eq_true rfl) (Nat.le_of_ble_eq_true rfl) hlocks (fun t ha hz hk => ⟨(), trivial, ⟨hw, hP.kept (fun k q hq => hk q.1 (hP k q hq).lt), hD⟩, ⟨Nat.le_trans hS.1 hz, fun q h1 h2 => (hk q (Nat.lt_of_lt_of_le h1 hS.1)).trans (hS.2.1 q h1 h2)⟩⟩) hS.2.2 (Nat.le_of_ble_eq_true rfl) (Nat.le_of_ble_eq_true rfl)
set_option maxHeartbeats 4000000 in
set_option maxRecDepth 100000 in
theorem c_X3_requireRange (l : Launch) (hfl : l.stackTraces = false) (D : va_G) (cs : Nat → ClassId)  (sz : Nat) (sa : Nat → Nat) (x0 : Int32) (x1 : Int32) (x2 : Int32) (Q : Prop) (QX : String → Prop) (hw : wp_X3_requireRange x0 x1 x2 Q QX) : vx_Met l yX3_requireRange wsX3_requireRange ({ frames := 6, cells := 1, slots := 6, locals := 82 } : Room) (va_Pc [.int x0, .int x1, .int x2] (PX D cs (([] : va_W)) sa sz)) (va_Qv (fun (u : Unit) => Q ) (fun (u : Unit) t => va_P D vwCl (([] : va_W)) t.heap ∧ va_D (va_A (([] : va_W)) sz) (([] : va_W))) (va_A (([] : va_W)) sz)) (vx_X (fun (_ : Unit) => True) (fun E (u : Unit) t => QX E  ∧ va_P D vwCl (([] : va_W)) t.heap ∧ va_D (va_A (([] : va_W)) sz) (([] : va_W))) (va_A (([] : va_W)) sz)) 1 6 (va_A (([] : va_W)) sz) := by
  refine vx_ofW (cc := cX3_requireRange) (maxL := 3) (ret := none) (by decide) rfl ?_
  intro p e s m args below meth c s₁ B hml hT0 hv
  obtain ⟨rfl, ⟨hsz, hP, hKK, hD0⟩, hTW, hTZ⟩ := hv
  have hC : MAt p s m _ meth c RX3 cX3_requireRange 3 none wsX3_requireRange D cs := ⟨B.exec, B.bytes, B.returns, hml, findClass_of_methodNamed B.named, atoms_spec (ws := wsX3_requireRange) B.pre, B.notSynchronized, hKK⟩
  have hl := lv_entry ([.int x0, .int x1, .int x2]) (n := 3) (Nat.le_of_ble_eq_true rfl)
  rw [lg_entry_eq]
  generalize (lg_sl ([.int x0, .int x1, .int x2]) ++ List.replicate (3 - (lg_sl ([.int x0, .int x1, .int x2])).length) Slot.unset).toArray = ls at hl ⊢
  subst hsz
  have hD := hD0.self (sz := s.heap.size)
  have hA : ∀ z : Nat, s.heap.size ≤ z → va_A (([] : va_W)) s.heap.size z := fun z h => Or.inr h
  exact t_X3_requireRange hC hfl hT0 hTW hTZ  x0 x1 x2 Q QX hA hw s.heap [] hP hD va_S.rf ls hl
set_option maxHeartbeats 4000000 in
set_option maxRecDepth 100000 in
theorem t_X3_requireSlot {p : Program} {l : Launch} {e : Env} {s : State} {m : MethodId} {args : Array Value} {below : List Frame} {meth : Method} {c : Code} {D : va_G} {cs : Nat → ClassId} {A : Nat → Prop} (hC : MAt p s m args meth c RX3 cX3_requireSlot 1 none wsX3_requireSlot D cs) (hfl : l.stackTraces = false) (hT0 : ∀ x ∈ c.exceptionTable.toList, False) {sa : Nat → Nat} (hTW : TW sa s) (hTZ : TZ A s s.heap) (x0 : Int32) (Q : Prop) (QX : String → Prop) (hA : ∀ q : Nat, s.heap.size ≤ q → A q) (hw : wp_X3_requireSlot x0 Q QX) (H : Heap) (locs : List Loc) (hP : va_P D vwCl (([] : va_W)) H) (hD : va_D A (([] : va_W))) (hS : va_S A s.heap H locs) (ls : Array Slot) (hl : lv_has ls 1 [(0, .int x0)]) : W p l e ({ frames := 6, cells := 1, slots := 6, locals := 82 } : Room) s m args below meth c H locs 0 0 (vx_MQ below (va_Qv (fun (u : Unit) => Q ) (fun (u : Unit) t => va_P D vwCl (([] : va_W)) t.heap ∧ va_D A (([] : va_W))) A) (vx_X (fun (_ : Unit) => True) (fun E (u : Unit) t => QX E  ∧ va_P D vwCl (([] : va_W)) t.heap ∧ va_D A (([] : va_W))) A) args s 1 6 A) (F0 m 0 ls []) := by
  obtain ⟨hx, hb, hr, hml, hown, hts, hlocks, hKK⟩ := id hC
  have hK := hKK.1
  refine lv_iload_n hx hb dX3_requireSlot_0 rfl (lv_at hl 0 rfl) ?_
  refine lv_if_lt (tgt := 9) hx hb dX3_requireSlot_1 (by decide) (fun c1 => ?_) (fun c1 => ?_)
  · have hw := hw.1 c1
    exact vx_throwSW hx hb hfl hown (by decide +kernel) (by decide +kernel) (z_w hts 1 rfl) (z_w hts 2 rfl) (show vk_R RX3 265 "no such save slot" (sa 13) s from hTW.1 13 (by decide)) (vx_hat (fun w h => hts w (List.mem_cons_of_mem _ (List.mem_append_right _ h))) zb_eIOB (vx_c (va_Nw.use rfl hTW.2.2.2.1) (vx_c (va_Nw.use rfl hTW.2.2.2.2.2.2.2.2.2.2.1) (vx_c (va_Nw.use rfl hTW.2.2.2.2.2.2.2.2.2.2.2.1) (vx_c (va_Nw.use rfl hTW.2.2.2.2.2.2.2.2.2.2.2.2) vx_n))))) zh_eIOB hTZ.1 hTZ.2 hS (hl.1.trans hml.symm) dX3_requireSlot_9 dX3_requireSlot_12 dX3_requireSlot_13 dX3_requireSlot_16 dX3_requireSlot_19 (fun x h => (hT0 x h).elim) (Nat.le_of_ble_eq_true rfl) (Nat.le_of_ble_eq_true rfl) (Nat.le_of_ble_eq_true rfl) (Nat.le_of_ble_eq_true rfl) hlocks (fun t ha hz hk => ⟨(), trivial, ⟨hw, hP.kept (fun k q hq => hk q.1 (hP k q hq).lt), hD⟩, ⟨Nat.le_trans hS.1 hz, fun q h1 h2 => (hk q (Nat.lt_of_lt_of_le h1 hS.1)).trans (hS.2.1 q h1 h2)⟩⟩) hS.2.2 (Nat.le_of_ble_eq_true rfl) (Nat.le_of_ble_eq_true rfl)
  · have hw := hw.2 c1
    refine lv_iload_n hx hb dX3_requireSlot_4 rfl (lv_at hl 0 rfl) ?_
    refine lv_iconst (v := (2 : Int32)) hx hb dX3_requireSlot_5 (by decide) ?_
    refine lv_icmp_lt (tgt := 20) hx hb dX3_requireSlot_6 (by decide) (fun c2 => ?_) (fun c2 => ?_)
    · have hw := hw.1 c2
      refine W.widen (k := 1) (n := 6) (Nat.le_of_ble_eq_true rfl) (Nat.le_of_ble_eq_true rfl) (vx_ret ?_)
      exact W.vret hx hb hr (fun t ht hW => ⟨⟨(), rfl, hw, by rw [ht]; exact hP, hD⟩, hS.F ht⟩) hS.2.2 dX3_requireSlot_20 hlocks
    · have hw := hw.2 c2
      exact vx_throwSW hx hb hfl hown (by decide +kernel) (by decide +kernel) (z_w hts 1 rfl) (z_w hts 2 rfl) (show vk_R RX3 265 "no such save slot" (sa 13) s from hTW.1 13 (by decide)) (vx_hat (fun w h => hts w (List.mem_cons_of_mem _ (List.mem_append_right _ h))) zb_eIOB (vx_c (va_Nw.use rfl hTW.2.2.2.1) (vx_c (va_Nw.use rfl hTW.2.2.2.2.2.2.2.2.2.2.1) (vx_c (va_Nw.use rfl hTW.2.2.2.2.2.2.2.2.2.2.2.1) (vx_c (va_Nw.use rfl hTW.2.2.2.2.2.2.2.2.2.2.2.2) vx_n))))) zh_eIOB hTZ.1 hTZ.2 hS (hl.1.trans hml.symm) dX3_requireSlot_9 dX3_requireSlot_12 dX3_requireSlot_13 dX3_requireSlot_16 dX3_requireSlot_19 (fun x h => (hT0 x h).elim) (Nat.le_of_ble_eq_true rfl) (Nat.le_of_ble_eq_true rfl) (Nat.le_of_ble_eq_true rfl) (Nat.le_of_ble_eq_true rfl) hlocks (fun t ha hz hk => ⟨(), trivial, ⟨hw, hP.kept (fun k q hq => hk q.1 (hP k q hq).lt), hD⟩, ⟨Nat.le_trans hS.1 hz, fun q h1 h2 => (hk q (Nat.lt_of_lt_of_le h1 hS.1)).trans (hS.2.1 q h1 h2)⟩⟩) hS.2.2 (Nat.le_of_ble_eq_true rfl) (Nat.le_of_ble_eq_true rfl)
set_option maxHeartbeats 4000000 in
set_option maxRecDepth 100000 in
theorem c_X3_requireSlot (l : Launch) (hfl : l.stackTraces = false) (D : va_G) (cs : Nat → ClassId)  (sz : Nat) (sa : Nat → Nat) (x0 : Int32) (Q : Prop) (QX : String → Prop) (hw : wp_X3_requireSlot x0 Q QX) : vx_Met l yX3_requireSlot wsX3_requireSlot ({ frames := 6, cells := 1, slots := 6, locals := 82 } : Room) (va_Pc [.int x0] (PX D cs (([] : va_W)) sa sz)) (va_Qv (fun (u : Unit) => Q ) (fun (u : Unit) t => va_P D vwCl (([] : va_W)) t.heap ∧ va_D (va_A (([] : va_W)) sz) (([] : va_W))) (va_A (([] : va_W)) sz)) (vx_X (fun (_ : Unit) => True) (fun E (u : Unit) t => QX E  ∧ va_P D vwCl (([] : va_W)) t.heap ∧ va_D (va_A (([] : va_W)) sz) (([] : va_W))) (va_A (([] : va_W)) sz)) 1 6 (va_A (([] : va_W)) sz) := by
  refine vx_ofW (cc := cX3_requireSlot) (maxL := 1) (ret := none) (by decide) rfl ?_
  intro p e s m args below meth c s₁ B hml hT0 hv
  obtain ⟨rfl, ⟨hsz, hP, hKK, hD0⟩, hTW, hTZ⟩ := hv
  have hC : MAt p s m _ meth c RX3 cX3_requireSlot 1 none wsX3_requireSlot D cs := ⟨B.exec, B.bytes, B.returns, hml, findClass_of_methodNamed B.named, atoms_spec (ws := wsX3_requireSlot) B.pre, B.notSynchronized, hKK⟩
  have hl := lv_entry ([.int x0]) (n := 1) (Nat.le_of_ble_eq_true rfl)
  rw [lg_entry_eq]
  generalize (lg_sl ([.int x0]) ++ List.replicate (1 - (lg_sl ([.int x0])).length) Slot.unset).toArray = ls at hl ⊢
  subst hsz
  have hD := hD0.self (sz := s.heap.size)
  have hA : ∀ z : Nat, s.heap.size ≤ z → va_A (([] : va_W)) s.heap.size z := fun z h => Or.inr h
  exact t_X3_requireSlot hC hfl hT0 hTW hTZ  x0 Q QX hA hw s.heap [] hP hD va_S.rf ls hl
theorem h_X3_X3_requireCounter : ∀ w ∈ u_ws RX3 TX3 7, w ∈ wsX3_requireCounter := fun _ h => List.mem_cons_of_mem _ (List.mem_append_left _ (List.mem_append_left _ (List.mem_append_right _ h)))
set_option maxHeartbeats 4000000 in
set_option maxRecDepth 100000 in
theorem t_X3_requireCounter {p : Program} {l : Launch} {e : Env} {s : State} {m : MethodId} {args : Array Value} {below : List Frame} {meth : Method} {c : Code} {D : va_G} {cs : Nat → ClassId} {A : Nat → Prop} (hC : MAt p s m args meth c RX3 cX3_requireCounter 2 none wsX3_requireCounter D cs) (hfl : l.stackTraces = false) (hT0 : ∀ x ∈ c.exceptionTable.toList, False) {sa : Nat → Nat} (hTW : TW sa s) (hTZ : TZ A s s.heap) (x : Nat → Nat) (tq : Nat → Nat) (h : Nat → Nat) (a : Nat → Nat → Nat) (S : XO) (tx : TS) (hs : HS) (Ls : (Nat → LnS)) (x1 : Int32) (Q : XO → TS → HS → (Nat → LnS) → Prop) (QX : String → XO → TS → HS → (Nat → LnS) → Prop) (hA : ∀ q : Nat, s.heap.size ≤ q → A q) (hw : wp_X3_requireCounter S tx hs Ls x1 Q QX) (H : Heap) (locs : List Loc) (hP : va_P D vwCl (w_Xo cs x tq h a S ++ w_Text cs tq tx ++ w_Hist cs h a hs ++ linesW cs a 18 Ls) H) (hD : va_D A (w_Xo cs x tq h a S ++ w_Text cs tq tx ++ w_Hist cs h a hs ++ linesW cs a 18 Ls)) (hS : va_S A s.heap H locs) (ls : Array Slot) (hl : lv_has ls 2 [(0, .ref (x 0)), (1, .int x1)]) : W p l e ({ frames := 6, cells := 1, slots := 6, locals := 82 } : Room) s m args below meth c H locs 0 0 (vx_MQ below (va_Qv (fun (u : XO × TS × HS × (Nat → LnS)) => Q u.1 u.2.1 u.2.2.1 u.2.2.2) (fun (u : XO × TS × HS × (Nat → LnS)) t => va_P D vwCl (w_Xo cs x tq h a u.1 ++ w_Text cs tq u.2.1 ++ w_Hist cs h a u.2.2.1 ++ linesW cs a 18 u.2.2.2) t.heap ∧ va_D A (w_Xo cs x tq h a u.1 ++ w_Text cs tq u.2.1 ++ w_Hist cs h a u.2.2.1 ++ linesW cs a 18 u.2.2.2)) A) (vx_X (fun (_ : XO × TS × HS × (Nat → LnS)) => True) (fun E (u : XO × TS × HS × (Nat → LnS)) t => QX E u.1 u.2.1 u.2.2.1 u.2.2.2 ∧ va_P D vwCl (w_Xo cs x tq h a u.1 ++ w_Text cs tq u.2.1 ++ w_Hist cs h a u.2.2.1 ++ linesW cs a 18 u.2.2.2) t.heap ∧ va_D A (w_Xo cs x tq h a u.1 ++ w_Text cs tq u.2.1 ++ w_Hist cs h a u.2.2.1 ++ linesW cs a 18 u.2.2.2)) A) args s 1 6 A) (F0 m 0 ls []) := by
  obtain ⟨hx, hb, hr, hml, hown, hts, hlocks, hKK⟩ := id hC
  have hK := hKK.1
  refine lv_aload_n hx hb dX3_requireCounter_0 rfl (lv_at hl 0 rfl) ?_
  refine va_get (D := D) (ci := 3) (v := .ref (a 0 0)) (C := RX3) (T := TX3) (N := 7) hx hb hts (h_X3_X3_requireCounter) hown hK hP 0 rfl rfl 1 (by decide) (z_w hts 3 rfl) (fun _ h9 => h9) rfl dX3_requireCounter_1 ?_
  refine lv_iload_n hx hb dX3_requireCounter_4 rfl (lv_at hl 1 rfl) ?_
  have hPx := z_perm_P (lines_1 (cs := cs) (a := a) (n := 18) (i := 0) Ls (w_Xo cs x tq h a S ++ w_Text cs tq tx ++ w_Hist cs h a hs) (by decide)) hP
  have hDx := z_perm_D (lines_1 (cs := cs) (a := a) (n := 18) (i := 0) Ls (w_Xo cs x tq h a S ++ w_Text cs tq tx ++ w_Hist cs h a hs) (by decide)) hD
  have hPc := (z_app_P hPx).1
  have hDc := (z_app_D hDx).1
  refine z_calli (va_runV (As := [.int x1]) (rest := []) ⟨hx, hb, hml, hown, hts⟩ (c_X1_hasCounter l D cs (a 0) H.size (Ls 0) x1 _ hw) (cwV 1 hts gX3_requireCounter_X1_hasCounter rfl rfl rfl (by decide +kernel) ⟨Nat.le_of_ble_eq_true rfl, Nat.le_of_ble_eq_true rfl⟩) (PC_V hPc hDc hKK 0 1 rfl rfl) rfl rfl hl.1 rfl (lv_room (Nat.le_of_ble_eq_true rfl)) dX3_requireCounter_5 ⟨Nat.le_of_ble_eq_true rfl, Nat.le_of_ble_eq_true rfl⟩) (fun r1 hw => ?_)
  obtain ⟨b1, hw⟩ := hw
  refine lv_if_ne (tgt := 22) hx hb dX3_requireCounter_8 (by decide) (fun c2 => ?_) (fun c2 => ?_)
  · have hw := hw.2 c2
    refine W.widen (k := 1) (n := 6) (Nat.le_of_ble_eq_true rfl) (Nat.le_of_ble_eq_true rfl) (vx_ret ?_)
    exact W.vret hx hb hr (fun t ht hW => ⟨⟨(S, tx, hs, Ls), rfl, hw, by rw [ht]; exact hP, hD⟩, hS.F ht⟩) hS.2.2 dX3_requireCounter_22 hlocks
  · have hw := hw.1 c2
    exact vx_throwSW hx hb hfl hown (by decide +kernel) (by decide +kernel) (z_w hts 1 rfl) (z_w hts 2 rfl) (show vk_R RX3 261 "no such counter" (sa 11) s from hTW.1 11 (by decide)) (vx_hat (fun w h => hts w (List.mem_cons_of_mem _ (List.mem_append_right _ h))) zb_eIOB (vx_c (va_Nw.use rfl hTW.2.2.2.1) (vx_c (va_Nw.use rfl hTW.2.2.2.2.2.2.2.2.2.2.1) (vx_c (va_Nw.use rfl hTW.2.2.2.2.2.2.2.2.2.2.2.1) (vx_c (va_Nw.use rfl hTW.2.2.2.2.2.2.2.2.2.2.2.2) vx_n))))) zh_eIOB hTZ.1 hTZ.2 hS (hl.1.trans hml.symm) dX3_requireCounter_11 dX3_requireCounter_14 dX3_requireCounter_15 dX3_requireCounter_18 dX3_requireCounter_21 (fun x h => (hT0 x h).elim) (Nat.le_of_ble_eq_true rfl) (Nat.le_of_ble_eq_true rfl) (Nat.le_of_ble_eq_true rfl) (Nat.le_of_ble_eq_true rfl) hlocks (fun t ha hz hk => ⟨(S, tx, hs, Ls), trivial, ⟨hw, hP.kept (fun k q hq => hk q.1 (hP k q hq).lt), hD⟩, ⟨Nat.le_trans hS.1 hz, fun q h1 h2 => (hk q (Nat.lt_of_lt_of_le h1 hS.1)).trans (hS.2.1 q h1 h2)⟩⟩) hS.2.2 (Nat.le_of_ble_eq_true rfl) (Nat.le_of_ble_eq_true rfl)
set_option maxHeartbeats 4000000 in
set_option maxRecDepth 100000 in
theorem c_X3_requireCounter (l : Launch) (hfl : l.stackTraces = false) (D : va_G) (cs : Nat → ClassId) (x : Nat → Nat) (tq : Nat → Nat) (h : Nat → Nat) (a : Nat → Nat → Nat) (sz : Nat) (sa : Nat → Nat) (S : XO) (tx : TS) (hs : HS) (Ls : (Nat → LnS)) (x1 : Int32) (Q : XO → TS → HS → (Nat → LnS) → Prop) (QX : String → XO → TS → HS → (Nat → LnS) → Prop) (hw : wp_X3_requireCounter S tx hs Ls x1 Q QX) : vx_Met l yX3_requireCounter wsX3_requireCounter ({ frames := 6, cells := 1, slots := 6, locals := 82 } : Room) (va_Pc [.ref (x 0), .int x1] (PX D cs (w_Xo cs x tq h a S ++ w_Text cs tq tx ++ w_Hist cs h a hs ++ linesW cs a 18 Ls) sa sz)) (va_Qv (fun (u : XO × TS × HS × (Nat → LnS)) => Q u.1 u.2.1 u.2.2.1 u.2.2.2) (fun (u : XO × TS × HS × (Nat → LnS)) t => va_P D vwCl (w_Xo cs x tq h a u.1 ++ w_Text cs tq u.2.1 ++ w_Hist cs h a u.2.2.1 ++ linesW cs a 18 u.2.2.2) t.heap ∧ va_D (va_A (w_Xo cs x tq h a S ++ w_Text cs tq tx ++ w_Hist cs h a hs ++ linesW cs a 18 Ls) sz) (w_Xo cs x tq h a u.1 ++ w_Text cs tq u.2.1 ++ w_Hist cs h a u.2.2.1 ++ linesW cs a 18 u.2.2.2)) (va_A (w_Xo cs x tq h a S ++ w_Text cs tq tx ++ w_Hist cs h a hs ++ linesW cs a 18 Ls) sz)) (vx_X (fun (_ : XO × TS × HS × (Nat → LnS)) => True) (fun E (u : XO × TS × HS × (Nat → LnS)) t => QX E u.1 u.2.1 u.2.2.1 u.2.2.2 ∧ va_P D vwCl (w_Xo cs x tq h a u.1 ++ w_Text cs tq u.2.1 ++ w_Hist cs h a u.2.2.1 ++ linesW cs a 18 u.2.2.2) t.heap ∧ va_D (va_A (w_Xo cs x tq h a S ++ w_Text cs tq tx ++ w_Hist cs h a hs ++ linesW cs a 18 Ls) sz) (w_Xo cs x tq h a u.1 ++ w_Text cs tq u.2.1 ++ w_Hist cs h a u.2.2.1 ++ linesW cs a 18 u.2.2.2)) (va_A (w_Xo cs x tq h a S ++ w_Text cs tq tx ++ w_Hist cs h a hs ++ linesW cs a 18 Ls) sz)) 1 6 (va_A (w_Xo cs x tq h a S ++ w_Text cs tq tx ++ w_Hist cs h a hs ++ linesW cs a 18 Ls) sz) := by
  refine vx_ofW (cc := cX3_requireCounter) (maxL := 2) (ret := none) (by decide) rfl ?_
  intro p e s m args below meth c s₁ B hml hT0 hv
  obtain ⟨rfl, ⟨hsz, hP, hKK, hD0⟩, hTW, hTZ⟩ := hv
  have hC : MAt p s m _ meth c RX3 cX3_requireCounter 2 none wsX3_requireCounter D cs := ⟨B.exec, B.bytes, B.returns, hml, findClass_of_methodNamed B.named, atoms_spec (ws := wsX3_requireCounter) B.pre, B.notSynchronized, hKK⟩
  have hl := lv_entry ([.ref (x 0), .int x1]) (n := 2) (Nat.le_of_ble_eq_true rfl)
  rw [lg_entry_eq]
  generalize (lg_sl ([.ref (x 0), .int x1]) ++ List.replicate (2 - (lg_sl ([.ref (x 0), .int x1])).length) Slot.unset).toArray = ls at hl ⊢
  subst hsz
  have hD := hD0.self (sz := s.heap.size)
  have hA : ∀ z : Nat, s.heap.size ≤ z → va_A (w_Xo cs x tq h a S ++ w_Text cs tq tx ++ w_Hist cs h a hs ++ linesW cs a 18 Ls) s.heap.size z := fun z h => Or.inr h
  exact t_X3_requireCounter hC hfl hT0 hTW hTZ x tq h a S tx hs Ls x1 Q QX hA hw s.heap [] hP hD va_S.rf ls hl
theorem h_X1_X3_requireTicket : ∀ w ∈ u_ws RX1 TX1 13, w ∈ wsX3_requireTicket := fun _ h => List.mem_cons_of_mem _ (List.mem_append_left _ (List.mem_append_right _ h))
theorem h_X3_X3_requireTicket : ∀ w ∈ u_ws RX3 TX3 7, w ∈ wsX3_requireTicket := fun _ h => List.mem_cons_of_mem _ (List.mem_append_left _ (List.mem_append_left _ (List.mem_append_right _ h)))
set_option maxHeartbeats 4000000 in
set_option maxRecDepth 100000 in
theorem t_X3_requireTicket {p : Program} {l : Launch} {e : Env} {s : State} {m : MethodId} {args : Array Value} {below : List Frame} {meth : Method} {c : Code} {D : va_G} {cs : Nat → ClassId} {A : Nat → Prop} (hC : MAt p s m args meth c RX3 cX3_requireTicket 2 none wsX3_requireTicket D cs) (hfl : l.stackTraces = false) (hT0 : ∀ x ∈ c.exceptionTable.toList, False) {sa : Nat → Nat} (hTW : TW sa s) (hTZ : TZ A s s.heap) (x : Nat → Nat) (tq : Nat → Nat) (h : Nat → Nat) (a : Nat → Nat → Nat) (S : XO) (tx : TS) (hs : HS) (Ls : (Nat → LnS)) (x1 : Int32) (Q : XO → TS → HS → (Nat → LnS) → Prop) (QX : String → XO → TS → HS → (Nat → LnS) → Prop) (hA : ∀ q : Nat, s.heap.size ≤ q → A q) (hw : wp_X3_requireTicket S tx hs Ls x1 Q QX) (H : Heap) (locs : List Loc) (hP : va_P D vwCl (w_Xo cs x tq h a S ++ w_Text cs tq tx ++ w_Hist cs h a hs ++ linesW cs a 18 Ls) H) (hD : va_D A (w_Xo cs x tq h a S ++ w_Text cs tq tx ++ w_Hist cs h a hs ++ linesW cs a 18 Ls)) (hS : va_S A s.heap H locs) (ls : Array Slot) (hl : lv_has ls 2 [(0, .ref (x 0)), (1, .int x1)]) : W p l e ({ frames := 6, cells := 1, slots := 6, locals := 82 } : Room) s m args below meth c H locs 0 0 (vx_MQ below (va_Qv (fun (u : XO × TS × HS × (Nat → LnS)) => Q u.1 u.2.1 u.2.2.1 u.2.2.2) (fun (u : XO × TS × HS × (Nat → LnS)) t => va_P D vwCl (w_Xo cs x tq h a u.1 ++ w_Text cs tq u.2.1 ++ w_Hist cs h a u.2.2.1 ++ linesW cs a 18 u.2.2.2) t.heap ∧ va_D A (w_Xo cs x tq h a u.1 ++ w_Text cs tq u.2.1 ++ w_Hist cs h a u.2.2.1 ++ linesW cs a 18 u.2.2.2)) A) (vx_X (fun (_ : XO × TS × HS × (Nat → LnS)) => True) (fun E (u : XO × TS × HS × (Nat → LnS)) t => QX E u.1 u.2.1 u.2.2.1 u.2.2.2 ∧ va_P D vwCl (w_Xo cs x tq h a u.1 ++ w_Text cs tq u.2.1 ++ w_Hist cs h a u.2.2.1 ++ linesW cs a 18 u.2.2.2) t.heap ∧ va_D A (w_Xo cs x tq h a u.1 ++ w_Text cs tq u.2.1 ++ w_Hist cs h a u.2.2.1 ++ linesW cs a 18 u.2.2.2)) A) args s 1 6 A) (F0 m 0 ls []) := by
  obtain ⟨hx, hb, hr, hml, hown, hts, hlocks, hKK⟩ := id hC
  have hK := hKK.1
  refine lv_iload_n hx hb dX3_requireTicket_0 rfl (lv_at hl 1 rfl) ?_
  refine lv_if_lt (tgt := 15) hx hb dX3_requireTicket_1 (by decide) (fun c1 => ?_) (fun c1 => ?_)
  · have hw := hw.1 c1
    exact vx_throwSW hx hb hfl hown (by decide +kernel) (by decide +kernel) (z_w hts 1 rfl) (z_w hts 2 rfl) (show vk_R RX3 263 "no such ticket" (sa 12) s from hTW.1 12 (by decide)) (vx_hat (fun w h => hts w (List.mem_cons_of_mem _ (List.mem_append_right _ h))) zb_eIOB (vx_c (va_Nw.use rfl hTW.2.2.2.1) (vx_c (va_Nw.use rfl hTW.2.2.2.2.2.2.2.2.2.2.1) (vx_c (va_Nw.use rfl hTW.2.2.2.2.2.2.2.2.2.2.2.1) (vx_c (va_Nw.use rfl hTW.2.2.2.2.2.2.2.2.2.2.2.2) vx_n))))) zh_eIOB hTZ.1 hTZ.2 hS (hl.1.trans hml.symm) dX3_requireTicket_15 dX3_requireTicket_18 dX3_requireTicket_19 dX3_requireTicket_22 dX3_requireTicket_25 (fun x h => (hT0 x h).elim) (Nat.le_of_ble_eq_true rfl) (Nat.le_of_ble_eq_true rfl) (Nat.le_of_ble_eq_true rfl) (Nat.le_of_ble_eq_true rfl) hlocks (fun t ha hz hk => ⟨(S, tx, hs, Ls), trivial, ⟨hw, hP.kept (fun k q hq => hk q.1 (hP k q hq).lt), hD⟩, ⟨Nat.le_trans hS.1 hz, fun q h1 h2 => (hk q (Nat.lt_of_lt_of_le h1 hS.1)).trans (hS.2.1 q h1 h2)⟩⟩) hS.2.2 (Nat.le_of_ble_eq_true rfl) (Nat.le_of_ble_eq_true rfl)
  · have hw := hw.2 c1
    refine lv_iload_n hx hb dX3_requireTicket_4 rfl (lv_at hl 1 rfl) ?_
    refine lv_aload_n hx hb dX3_requireTicket_5 rfl (lv_at hl 0 rfl) ?_
    refine va_get (D := D) (ci := 3) (v := .ref (a 0 0)) (C := RX3) (T := TX3) (N := 7) hx hb hts (h_X3_X3_requireTicket) hown hK hP 0 rfl rfl 1 (by decide) (z_w hts 3 rfl) (fun _ h9 => h9) rfl dX3_requireTicket_6 ?_
    refine va_get (D := D) (ci := 1) (v := .int ((Ls 0).1 0 3)) (C := RX1) (T := TX1) (N := 13) hx hb hts (h_X1_X3_requireTicket) hown hK hP 8 rfl rfl 3 (by decide) (z_w hts 4 rfl) (fun _ h9 => h9) rfl dX3_requireTicket_9 ?_
    refine lv_icmp_lt (tgt := 26) hx hb dX3_requireTicket_12 (by decide) (fun c2 => ?_) (fun c2 => ?_)
    · have hw := hw.1 c2
      refine W.widen (k := 1) (n := 6) (Nat.le_of_ble_eq_true rfl) (Nat.le_of_ble_eq_true rfl) (vx_ret ?_)
      exact W.vret hx hb hr (fun t ht hW => ⟨⟨(S, tx, hs, Ls), rfl, hw, by rw [ht]; exact hP, hD⟩, hS.F ht⟩) hS.2.2 dX3_requireTicket_26 hlocks
    · have hw := hw.2 c2
      exact vx_throwSW hx hb hfl hown (by decide +kernel) (by decide +kernel) (z_w hts 1 rfl) (z_w hts 2 rfl) (show vk_R RX3 263 "no such ticket" (sa 12) s from hTW.1 12 (by decide)) (vx_hat (fun w h => hts w (List.mem_cons_of_mem _ (List.mem_append_right _ h))) zb_eIOB (vx_c (va_Nw.use rfl hTW.2.2.2.1) (vx_c (va_Nw.use rfl hTW.2.2.2.2.2.2.2.2.2.2.1) (vx_c (va_Nw.use rfl hTW.2.2.2.2.2.2.2.2.2.2.2.1) (vx_c (va_Nw.use rfl hTW.2.2.2.2.2.2.2.2.2.2.2.2) vx_n))))) zh_eIOB hTZ.1 hTZ.2 hS (hl.1.trans hml.symm) dX3_requireTicket_15 dX3_requireTicket_18 dX3_requireTicket_19 dX3_requireTicket_22 dX3_requireTicket_25 (fun x h => (hT0 x h).elim) (Nat.le_of_ble_eq_true rfl) (Nat.le_of_ble_eq_true rfl) (Nat.le_of_ble_eq_true rfl) (Nat.le_of_ble_eq_true rfl) hlocks (fun t ha hz hk => ⟨(S, tx, hs, Ls), trivial, ⟨hw, hP.kept (fun k q hq => hk q.1 (hP k q hq).lt), hD⟩, ⟨Nat.le_trans hS.1 hz, fun q h1 h2 => (hk q (Nat.lt_of_lt_of_le h1 hS.1)).trans (hS.2.1 q h1 h2)⟩⟩) hS.2.2 (Nat.le_of_ble_eq_true rfl) (Nat.le_of_ble_eq_true rfl)
set_option maxHeartbeats 4000000 in
set_option maxRecDepth 100000 in
theorem c_X3_requireTicket (l : Launch) (hfl : l.stackTraces = false) (D : va_G) (cs : Nat → ClassId) (x : Nat → Nat) (tq : Nat → Nat) (h : Nat → Nat) (a : Nat → Nat → Nat) (sz : Nat) (sa : Nat → Nat) (S : XO) (tx : TS) (hs : HS) (Ls : (Nat → LnS)) (x1 : Int32) (Q : XO → TS → HS → (Nat → LnS) → Prop) (QX : String → XO → TS → HS → (Nat → LnS) → Prop) (hw : wp_X3_requireTicket S tx hs Ls x1 Q QX) : vx_Met l yX3_requireTicket wsX3_requireTicket ({ frames := 6, cells := 1, slots := 6, locals := 82 } : Room) (va_Pc [.ref (x 0), .int x1] (PX D cs (w_Xo cs x tq h a S ++ w_Text cs tq tx ++ w_Hist cs h a hs ++ linesW cs a 18 Ls) sa sz)) (va_Qv (fun (u : XO × TS × HS × (Nat → LnS)) => Q u.1 u.2.1 u.2.2.1 u.2.2.2) (fun (u : XO × TS × HS × (Nat → LnS)) t => va_P D vwCl (w_Xo cs x tq h a u.1 ++ w_Text cs tq u.2.1 ++ w_Hist cs h a u.2.2.1 ++ linesW cs a 18 u.2.2.2) t.heap ∧ va_D (va_A (w_Xo cs x tq h a S ++ w_Text cs tq tx ++ w_Hist cs h a hs ++ linesW cs a 18 Ls) sz) (w_Xo cs x tq h a u.1 ++ w_Text cs tq u.2.1 ++ w_Hist cs h a u.2.2.1 ++ linesW cs a 18 u.2.2.2)) (va_A (w_Xo cs x tq h a S ++ w_Text cs tq tx ++ w_Hist cs h a hs ++ linesW cs a 18 Ls) sz)) (vx_X (fun (_ : XO × TS × HS × (Nat → LnS)) => True) (fun E (u : XO × TS × HS × (Nat → LnS)) t => QX E u.1 u.2.1 u.2.2.1 u.2.2.2 ∧ va_P D vwCl (w_Xo cs x tq h a u.1 ++ w_Text cs tq u.2.1 ++ w_Hist cs h a u.2.2.1 ++ linesW cs a 18 u.2.2.2) t.heap ∧ va_D (va_A (w_Xo cs x tq h a S ++ w_Text cs tq tx ++ w_Hist cs h a hs ++ linesW cs a 18 Ls) sz) (w_Xo cs x tq h a u.1 ++ w_Text cs tq u.2.1 ++ w_Hist cs h a u.2.2.1 ++ linesW cs a 18 u.2.2.2)) (va_A (w_Xo cs x tq h a S ++ w_Text cs tq tx ++ w_Hist cs h a hs ++ linesW cs a 18 Ls) sz)) 1 6 (va_A (w_Xo cs x tq h a S ++ w_Text cs tq tx ++ w_Hist cs h a hs ++ linesW cs a 18 Ls) sz) := by
  refine vx_ofW (cc := cX3_requireTicket) (maxL := 2) (ret := none) (by decide) rfl ?_
  intro p e s m args below meth c s₁ B hml hT0 hv
  obtain ⟨rfl, ⟨hsz, hP, hKK, hD0⟩, hTW, hTZ⟩ := hv
  have hC : MAt p s m _ meth c RX3 cX3_requireTicket 2 none wsX3_requireTicket D cs := ⟨B.exec, B.bytes, B.returns, hml, findClass_of_methodNamed B.named, atoms_spec (ws := wsX3_requireTicket) B.pre, B.notSynchronized, hKK⟩
  have hl := lv_entry ([.ref (x 0), .int x1]) (n := 2) (Nat.le_of_ble_eq_true rfl)
  rw [lg_entry_eq]
  generalize (lg_sl ([.ref (x 0), .int x1]) ++ List.replicate (2 - (lg_sl ([.ref (x 0), .int x1])).length) Slot.unset).toArray = ls at hl ⊢
  subst hsz
  have hD := hD0.self (sz := s.heap.size)
  have hA : ∀ z : Nat, s.heap.size ≤ z → va_A (w_Xo cs x tq h a S ++ w_Text cs tq tx ++ w_Hist cs h a hs ++ linesW cs a 18 Ls) s.heap.size z := fun z h => Or.inr h
  exact t_X3_requireTicket hC hfl hT0 hTW hTZ x tq h a S tx hs Ls x1 Q QX hA hw s.heap [] hP hD va_S.rf ls hl

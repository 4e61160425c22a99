set_option maxHeartbeats 4000000 in
set_option maxRecDepth 100000 in
theorem t_X4_in {p : Program} {l : Launch} {e : Env} {s : State} {m : MethodId} {args : Array Value} {below : List Frame} {meth : Method} {c : Code} {D : va_G} {cs : Nat → ClassId} {A : Nat → Prop} (hC : MAt p s m args meth c RX4 cX4_in 6 (some .boolean) wsX4_in D cs) (x0 : Int64) (x2 : Int64) (x4 : Int64) (Q : Int32 → Prop) (hw : wp_X4_in x0 x2 x4 Q) (hP : va_P D vwCl (([] : va_W)) s.heap) (hD : va_D A (([] : va_W))) (ls : Array Slot) (hl : lv_has ls 6 [(0, .long x0), (2, .long x2), (4, .long x4)]) : W p l e ({ frames := 0, cells := 0, slots := 0, locals := 0 } : Room) s m args below meth c s.heap [] 0 0 (MQ below (vp_Si (fun r => (r = 0 ∨ r = 1) ∧ Q r)) args s 0 0 (fun _ => False)) (F0 m 0 ls []) := by
  obtain ⟨hx, hb, hr, hml, hown, hts, hlocks, hKK⟩ := id hC
  have hK := hKK.1
  refine lv_lload_n hx hb dX4_in_0 rfl (lv_at hl 0 rfl) ?_
  refine lv_lload_n hx hb dX4_in_1 rfl (lv_at hl 1 rfl) ?_
  refine W.lcmp hx hb dX4_in_2 ?_
  refine lv_if_lt (tgt := 17) hx hb dX4_in_3 (by decide) (fun c1 => ?_) (fun c1 => ?_)
  · have hw := hw.1 c1
    refine lv_iconst (v := (0 : Int32)) hx hb dX4_in_17 (by decide) ?_
    exact W.zret (v := (0 : Int32)) hx hb hr rfl (fun t ht hW => ⟨(0 : Int32), rfl, ⟨Or.inl rfl, hw⟩, ht⟩) (fun q h => nomatch h) dX4_in_18 hlocks
  · have hw := hw.2 c1
    refine lv_lload_n hx hb dX4_in_6 rfl (lv_at hl 0 rfl) ?_
    refine lv_lload hx hb dX4_in_7 (lv_at hl 2 rfl) ?_
    refine W.lcmp hx hb dX4_in_9 ?_
    refine lv_if_gt (tgt := 17) hx hb dX4_in_10 (by decide) (fun c2 => ?_) (fun c2 => ?_)
    · have hw := hw.1 c2
      refine lv_iconst (v := (0 : Int32)) hx hb dX4_in_17 (by decide) ?_
      exact W.zret (v := (0 : Int32)) hx hb hr rfl (fun t ht hW => ⟨(0 : Int32), rfl, ⟨Or.inl rfl, hw⟩, ht⟩) (fun q h => nomatch h) dX4_in_18 hlocks
    · have hw := hw.2 c2
      refine lv_iconst (v := (1 : Int32)) hx hb dX4_in_13 (by decide) ?_
      refine lv_goto (tgt := 18) hx hb dX4_in_14 (by decide) ?_
      exact W.zret (v := (1 : Int32)) hx hb hr rfl (fun t ht hW => ⟨(1 : Int32), rfl, ⟨Or.inr rfl, hw⟩, ht⟩) (fun q h => nomatch h) dX4_in_18 hlocks
set_option maxHeartbeats 4000000 in
set_option maxRecDepth 100000 in
theorem c_X4_in (l : Launch) (D : va_G) (cs : Nat → ClassId)  (sz : Nat) (x0 : Int64) (x2 : Int64) (x4 : Int64) (Q : Int32 → Prop) (hw : wp_X4_in x0 x2 x4 Q) : Met l yX4_in wsX4_in ({ frames := 0, cells := 0, slots := 0, locals := 0 } : Room) (va_Pc [.long x0, .long x2, .long x4] (PC D cs (([] : va_W)) sz)) (vp_Si (fun r => (r = 0 ∨ r = 1) ∧ Q r)) 0 0 (fun _ => False) := by
  refine Met.ofW (cc := cX4_in) (maxL := 6) (ret := (some .boolean)) (by decide) rfl ?_
  intro p e s m args below meth c s₁ B hml hv
  obtain ⟨rfl, hsz, hP, hKK, hD0⟩ := hv
  have hC : MAt p s m _ meth c RX4 cX4_in 6 (some .boolean) wsX4_in D cs := ⟨B.exec, B.bytes, B.returns, hml, findClass_of_methodNamed B.named, atoms_spec (ws := wsX4_in) B.pre, B.notSynchronized, hKK⟩
  have hl := lv_entry ([.long x0, .long x2, .long x4]) (n := 6) (Nat.le_of_ble_eq_true rfl)
  rw [lg_entry_eq]
  generalize (lg_sl ([.long x0, .long x2, .long x4]) ++ List.replicate (6 - (lg_sl ([.long x0, .long x2, .long x4])).length) Slot.unset).toArray = ls at hl ⊢
  exact t_X4_in hC  x0 x2 x4 Q hw hP hD0 ls hl
set_option maxHeartbeats 4000000 in
set_option maxRecDepth 100000 in
theorem t_X4_at {p : Program} {l : Launch} {e : Env} {s : State} {m : MethodId} {args : Array Value} {below : List Frame} {meth : Method} {c : Code} {D : va_G} {cs : Nat → ClassId} {A : Nat → Prop} (hC : MAt p s m args meth c RX4 cX4_at 1 (some .int) wsX4_at D cs) (x0 : Int32) (Q : Int32 → Prop) (hw : wp_X4_at x0 Q) (hP : va_P D vwCl (([] : va_W)) s.heap) (hD : va_D A (([] : va_W))) (ls : Array Slot) (hl : lv_has ls 1 [(0, .int x0)]) : W p l e ({ frames := 0, cells := 0, slots := 0, locals := 0 } : Room) s m args below meth c s.heap [] 0 0 (MQ below (vp_Si Q) args s 0 0 (fun _ => False)) (F0 m 0 ls []) := by
  obtain ⟨hx, hb, hr, hml, hown, hts, hlocks, hKK⟩ := id hC
  have hK := hKK.1
  refine lv_iconst (v := (4 : Int32)) hx hb dX4_at_0 (by decide) ?_
  refine lv_bipush (v := (22 : Int32)) hx hb dX4_at_1 (by decide) ?_
  refine lv_iload_n hx hb dX4_at_3 rfl (lv_at hl 0 rfl) ?_
  refine lv_imul hx hb dX4_at_4 ?_
  refine lv_iadd hx hb dX4_at_5 ?_
  exact W.iret (v := (4 : Int32) + ((22 : Int32) * x0)) hx hb hr (fun t ht hW => ⟨(4 : Int32) + ((22 : Int32) * x0), rfl, hw, ht⟩) (fun q h => nomatch h) dX4_at_6 hlocks
set_option maxHeartbeats 4000000 in
set_option maxRecDepth 100000 in
theorem c_X4_at (l : Launch) (D : va_G) (cs : Nat → ClassId)  (sz : Nat) (x0 : Int32) (Q : Int32 → Prop) (hw : wp_X4_at x0 Q) : Met l yX4_at wsX4_at ({ frames := 0, cells := 0, slots := 0, locals := 0 } : Room) (va_Pc [.int x0] (PC D cs (([] : va_W)) sz)) (vp_Si Q) 0 0 (fun _ => False) := by
  refine Met.ofW (cc := cX4_at) (maxL := 1) (ret := (some .int)) (by decide) rfl ?_
  intro p e s m args below meth c s₁ B hml hv
  obtain ⟨rfl, hsz, hP, hKK, hD0⟩ := hv
  have hC : MAt p s m _ meth c RX4 cX4_at 1 (some .int) wsX4_at D cs := ⟨B.exec, B.bytes, B.returns, hml, findClass_of_methodNamed B.named, atoms_spec (ws := wsX4_at) B.pre, B.notSynchronized, hKK⟩
  have hl := lv_entry ([.int x0]) (n := 1) (Nat.le_of_ble_eq_true rfl)
  rw [lg_entry_eq]
  generalize (lg_sl ([.int x0]) ++ List.replicate (1 - (lg_sl ([.int x0])).length) Slot.unset).toArray = ls at hl ⊢
  exact t_X4_at hC  x0 Q hw hP hD0 ls hl
set_option maxHeartbeats 4000000 in
set_option maxRecDepth 100000 in
theorem t_X4_floor {p : Program} {l : Launch} {e : Env} {s : State} {m : MethodId} {args : Array Value} {below : List Frame} {meth : Method} {c : Code} {D : va_G} {cs : Nat → ClassId} {A : Nat → Prop} (hC : MAt p s m args meth c RX4 cX4_floor 1 (some .int) wsX4_floor D cs) (x0 : Int32) (Q : Int32 → Prop) (hw : wp_X4_floor x0 Q) (hP : va_P D vwCl (([] : va_W)) s.heap) (hD : va_D A (([] : va_W))) (ls : Array Slot) (hl : lv_has ls 1 [(0, .int x0)]) : W p l e ({ frames := 0, cells := 0, slots := 0, locals := 0 } : Room) s m args below meth c s.heap [] 0 0 (MQ below (vp_Si Q) args s 0 0 (fun _ => False)) (F0 m 0 ls []) := by
  obtain ⟨hx, hb, hr, hml, hown, hts, hlocks, hKK⟩ := id hC
  have hK := hKK.1
  refine lv_iload_n hx hb dX4_floor_0 rfl (lv_at hl 0 rfl) ?_
  refine lv_if_lt (tgt := 10) hx hb dX4_floor_1 (by decide) (fun c1 => ?_) (fun c1 => ?_)
  · have hw := hw.1 c1
    refine lv_iconst (v := (2 : Int32)) hx hb dX4_floor_10 (by decide) ?_
    refine lv_iload_n hx hb dX4_floor_11 rfl (lv_at hl 0 rfl) ?_
    refine lv_isub hx hb dX4_floor_12 ?_
    refine lv_iconst (v := (3 : Int32)) hx hb dX4_floor_13 (by decide) ?_
    refine lv_idiv hx hb dX4_floor_14 (by decide) ?_
    refine lv_ineg hx hb dX4_floor_15 ?_
    exact W.iret (v := -(((2 : Int32) - x0) / (3 : Int32))) hx hb hr (fun t ht hW => ⟨-(((2 : Int32) - x0) / (3 : Int32)), rfl, hw, ht⟩) (fun q h => nomatch h) dX4_floor_16 hlocks
  · have hw := hw.2 c1
    refine lv_iload_n hx hb dX4_floor_4 rfl (lv_at hl 0 rfl) ?_
    refine lv_iconst (v := (3 : Int32)) hx hb dX4_floor_5 (by decide) ?_
    refine lv_idiv hx hb dX4_floor_6 (by decide) ?_
    refine lv_goto (tgt := 16) hx hb dX4_floor_7 (by decide) ?_
    exact W.iret (v := x0 / (3 : Int32)) hx hb hr (fun t ht hW => ⟨x0 / (3 : Int32), rfl, hw, ht⟩) (fun q h => nomatch h) dX4_floor_16 hlocks
set_option maxHeartbeats 4000000 in
set_option maxRecDepth 100000 in
theorem c_X4_floor (l : Launch) (D : va_G) (cs : Nat → ClassId)  (sz : Nat) (x0 : Int32) (Q : Int32 → Prop) (hw : wp_X4_floor x0 Q) : Met l yX4_floor wsX4_floor ({ frames := 0, cells := 0, slots := 0, locals := 0 } : Room) (va_Pc [.int x0] (PC D cs (([] : va_W)) sz)) (vp_Si Q) 0 0 (fun _ => False) := by
  refine Met.ofW (cc := cX4_floor) (maxL := 1) (ret := (some .int)) (by decide) rfl ?_
  intro p e s m args below meth c s₁ B hml hv
  obtain ⟨rfl, hsz, hP, hKK, hD0⟩ := hv
  have hC : MAt p s m _ meth c RX4 cX4_floor 1 (some .int) wsX4_floor D cs := ⟨B.exec, B.bytes, B.returns, hml, findClass_of_methodNamed B.named, atoms_spec (ws := wsX4_floor) B.pre, B.notSynchronized, hKK⟩
  have hl := lv_entry ([.int x0]) (n := 1) (Nat.le_of_ble_eq_true rfl)
  rw [lg_entry_eq]
  generalize (lg_sl ([.int x0]) ++ List.replicate (1 - (lg_sl ([.int x0])).length) Slot.unset).toArray = ls at hl ⊢
  exact t_X4_floor hC  x0 Q hw hP hD0 ls hl
set_option maxHeartbeats 4000000 in
set_option maxRecDepth 100000 in
theorem t_X4_isCounter {p : Program} {l : Launch} {e : Env} {s : State} {m : MethodId} {args : Array Value} {below : List Frame} {meth : Method} {c : Code} {D : va_G} {cs : Nat → ClassId} {A : Nat → Prop} (hC : MAt p s m args meth c RX4 cX4_isCounter 2 (some .boolean) wsX4_isCounter D cs) (q : Nat) (F : (Nat → Int32)) (x1 : Int32) (Q : Int32 → Prop) (hw : wp_X4_isCounter F x1 Q) (hP : va_P D vwCl (w_Row cs q 336 F) s.heap) (hD : va_D A (w_Row cs q 336 F)) (ls : Array Slot) (hl : lv_has ls 2 [(0, .ref q), (1, .int x1)]) : W p l e ({ frames := 1, cells := 0, slots := 0, locals := 25 } : Room) s m args below meth c s.heap [] 0 0 (MQ below (vp_Si (fun r => (r = 0 ∨ r = 1) ∧ Q r)) args s 0 0 (fun _ => False)) (F0 m 0 ls []) := by
  obtain ⟨hx, hb, hr, hml, hown, hts, hlocks, hKK⟩ := id hC
  have hK := hKK.1
  refine lv_iload_n hx hb dX4_isCounter_0 rfl (lv_at hl 1 rfl) ?_
  refine lv_i2l (v := x1.toInt64) hx hb dX4_isCounter_1 rfl ?_
  refine lv_lconst (v := (0 : Int64)) hx hb dX4_isCounter_2 (by decide) ?_
  refine lv_aload_n hx hb dX4_isCounter_3 rfl (lv_at hl 0 rfl) ?_
  refine lv_iconst (v := (0 : Int32)) hx hb dX4_isCounter_4 (by decide) ?_
  refine va_iald hx hb hK hP 0 0 rfl rfl (show vp_in (0 : Int32) 336 by unfold vp_in; decide) dX4_isCounter_5 ?_
  refine lv_iconst (v := (1 : Int32)) hx hb dX4_isCounter_6 (by decide) ?_
  refine lv_isub hx hb dX4_isCounter_7 ?_
  refine lv_i2l (v := ((F (0 : Int32).toNatClampNeg) - (1 : Int32)).toInt64) hx hb dX4_isCounter_8 rfl ?_
  have hPc := hP.sub (ws' := ([] : va_W)) [] rfl
  have hDc := hD.sub (ws' := ([] : va_W)) [] (by decide) rfl
  refine z_calli (va_runS (As := [.long x1.toInt64, .long (0 : Int64), .long (((F (0 : Int32).toNatClampNeg) - (1 : Int32)).toInt64)]) (rest := []) ⟨hx, hb, hml, hown, hts⟩ (c_X4_in l D cs  s.heap.size x1.toInt64 (0 : Int64) (((F (0 : Int32).toNatClampNeg) - (1 : Int32)).toInt64) _ hw) (va_cwS 3 hts gX4_isCounter_X4_in rfl rfl rfl (by decide +kernel) ⟨Nat.le_of_ble_eq_true rfl, Nat.le_of_ble_eq_true rfl⟩) (PC_S hPc hDc hKK) rfl rfl hl.1 rfl (lv_room (Nat.le_of_ble_eq_true rfl)) dX4_isCounter_9 ⟨Nat.le_of_ble_eq_true rfl, Nat.le_of_ble_eq_true rfl⟩) (fun r1 hw => ?_)
  obtain ⟨b1, hw⟩ := hw
  exact W.zret (v := r1) hx hb hr (z_nar b1) (fun t ht hW => ⟨r1, rfl, ⟨b1, hw⟩, ht⟩) (fun q h => nomatch h) dX4_isCounter_12 hlocks
set_option maxHeartbeats 4000000 in
set_option maxRecDepth 100000 in
theorem c_X4_isCounter (l : Launch) (D : va_G) (cs : Nat → ClassId) (q : Nat) (sz : Nat) (F : (Nat → Int32)) (x1 : Int32) (Q : Int32 → Prop) (hw : wp_X4_isCounter F x1 Q) : Met l yX4_isCounter wsX4_isCounter ({ frames := 1, cells := 0, slots := 0, locals := 25 } : Room) (va_Pc [.ref q, .int x1] (PC D cs (w_Row cs q 336 F) sz)) (vp_Si (fun r => (r = 0 ∨ r = 1) ∧ Q r)) 0 0 (fun _ => False) := by
  refine Met.ofW (cc := cX4_isCounter) (maxL := 2) (ret := (some .boolean)) (by decide) rfl ?_
  intro p e s m args below meth c s₁ B hml hv
  obtain ⟨rfl, hsz, hP, hKK, hD0⟩ := hv
  have hC : MAt p s m _ meth c RX4 cX4_isCounter 2 (some .boolean) wsX4_isCounter D cs := ⟨B.exec, B.bytes, B.returns, hml, findClass_of_methodNamed B.named, atoms_spec (ws := wsX4_isCounter) B.pre, B.notSynchronized, hKK⟩
  have hl := lv_entry ([.ref q, .int x1]) (n := 2) (Nat.le_of_ble_eq_true rfl)
  rw [lg_entry_eq]
  generalize (lg_sl ([.ref q, .int x1]) ++ List.replicate (2 - (lg_sl ([.ref q, .int x1])).length) Slot.unset).toArray = ls at hl ⊢
  exact t_X4_isCounter hC q F x1 Q hw hP hD0 ls hl
set_option maxHeartbeats 4000000 in
set_option maxRecDepth 100000 in
theorem t_X4_shownOn_13 {p : Program} {l : Launch} {e : Env} {s : State} {m : MethodId} {args : Array Value} {below : List Frame} {meth : Method} {c : Code} {D : va_G} {cs : Nat → ClassId} {A : Nat → Prop} (hC : MAt p s m args meth c RX4 cX4_shownOn 4 (some .int) wsX4_shownOn D cs) (q : Nat) (F : (Nat → Int32)) (x1 : Int32) (Q : Int32 → Prop) (hP : va_P D vwCl (w_Row cs q 336 F) s.heap) (hD : va_D A (w_Row cs q 336 F)) : ∀ (n : Nat) (x2 : Int32) (x3 : Int32), wl_X4_shownOn_13 F x1 Q n x2 x3 → ∀ ls : Array Slot, lv_has ls 4 [(0, .ref q), (1, .int x1), (2, .int x2), (3, .int x3)] → W p l e ({ frames := 1, cells := 0, slots := 0, locals := 20 } : Room) s m args below meth c s.heap [] 0 0 (MQ below (vp_Si Q) args s 0 0 (fun _ => False)) (F0 m 13 ls []) := by
  obtain ⟨hx, hb, hr, hml, hown, hts, hlocks, hKK⟩ := id hC
  have hK := hKK.1
  intro n
  induction n with
  | zero =>
    intro x2 x3 hw
    exact False.elim hw
  | succ n ih =>
    intro x2 x3 hw ls hl
    refine lv_iload_n hx hb dX4_shownOn_13 rfl (lv_at hl 3 rfl) ?_
    refine lv_if_lt (tgt := 38) hx hb dX4_shownOn_14 (by decide) (fun c4 => ?_) (fun c4 => ?_)
    · have hw := hw.1 c4
      refine lv_iload_n hx hb dX4_shownOn_38 rfl (lv_at hl 2 rfl) ?_
      exact W.iret (v := x2) hx hb hr (fun t ht hW => ⟨x2, rfl, hw, ht⟩) (fun q h => nomatch h) dX4_shownOn_39 hlocks
    · have hw := hw.2 c4
      refine lv_iconst (v := (3 : Int32)) hx hb dX4_shownOn_17 (by decide) ?_
      refine lv_iload_n hx hb dX4_shownOn_18 rfl (lv_at hl 2 rfl) ?_
      refine lv_imul hx hb dX4_shownOn_19 ?_
      refine lv_aload_n hx hb dX4_shownOn_20 rfl (lv_at hl 0 rfl) ?_
      refine lv_iload_n hx hb dX4_shownOn_21 rfl (lv_at hl 1 rfl) ?_
      have hPc := hP.sub (ws' := ([] : va_W)) [] rfl
      have hDc := hD.sub (ws' := ([] : va_W)) [] (by decide) rfl
      refine z_calli (va_runS (As := [.int x1]) (rest := [.ref q, .int ((3 : Int32) * x2)]) ⟨hx, hb, hml, hown, hts⟩ (c_X4_at l D cs  s.heap.size x1 _ hw) (va_cwS 1 hts gX4_shownOn_X4_at rfl rfl rfl (by decide +kernel) ⟨Nat.le_of_ble_eq_true rfl, Nat.le_of_ble_eq_true rfl⟩) (PC_S hPc hDc hKK) rfl rfl hl.1 rfl (lv_room (Nat.le_of_ble_eq_true rfl)) dX4_shownOn_22 ⟨Nat.le_of_ble_eq_true rfl, Nat.le_of_ble_eq_true rfl⟩) (fun r5 hw => ?_)
      refine lv_iconst (v := (4 : Int32)) hx hb dX4_shownOn_25 (by decide) ?_
      refine lv_iadd hx hb dX4_shownOn_26 ?_
      refine lv_iload_n hx hb dX4_shownOn_27 rfl (lv_at hl 3 rfl) ?_
      refine lv_iadd hx hb dX4_shownOn_28 ?_
      obtain ⟨h6, hw⟩ := hw
      refine va_iald hx hb hK hP 0 0 rfl rfl h6 dX4_shownOn_29 ?_
      refine lv_iadd hx hb dX4_shownOn_30 ?_
      refine lv_topi (fun y7 ey7 => ?_)
      have hw := hw y7 ey7
      refine lv_istore_n (lv' := [(2, .int y7), (0, .ref q), (1, .int x1), (3, .int x3)]) hx hb dX4_shownOn_31 rfl hl (by decide) rfl (fun ls hl => ?_)
      refine lv_iinc (v := x3 + (-1)) (lv' := [(3, .int (x3 + (-1))), (2, .int y7), (0, .ref q), (1, .int x1)]) hx hb dX4_shownOn_32 hl (k := 3) rfl rfl (by decide) rfl (fun ls hl => ?_)
      refine lv_goto (tgt := 13) hx hb dX4_shownOn_35 (by decide) ?_
      exact ih _ _ hw ls (lv_sub hl [2, 3, 1, 0] rfl)
set_option maxHeartbeats 4000000 in
set_option maxRecDepth 100000 in
theorem t_X4_shownOn {p : Program} {l : Launch} {e : Env} {s : State} {m : MethodId} {args : Array Value} {below : List Frame} {meth : Method} {c : Code} {D : va_G} {cs : Nat → ClassId} {A : Nat → Prop} (hC : MAt p s m args meth c RX4 cX4_shownOn 4 (some .int) wsX4_shownOn D cs) (q : Nat) (F : (Nat → Int32)) (x1 : Int32) (Q : Int32 → Prop) (hw : wp_X4_shownOn F x1 Q) (hP : va_P D vwCl (w_Row cs q 336 F) s.heap) (hD : va_D A (w_Row cs q 336 F)) (ls : Array Slot) (hl : lv_has ls 4 [(0, .ref q), (1, .int x1)]) : W p l e ({ frames := 1, cells := 0, slots := 0, locals := 20 } : Room) s m args below meth c s.heap [] 0 0 (MQ below (vp_Si Q) args s 0 0 (fun _ => False)) (F0 m 0 ls []) := by
  obtain ⟨hx, hb, hr, hml, hown, hts, hlocks, hKK⟩ := id hC
  have hK := hKK.1
  refine lv_iconst (v := (0 : Int32)) hx hb dX4_shownOn_0 (by decide) ?_
  refine lv_istore_n (lv' := [(2, .int (0 : Int32)), (0, .ref q), (1, .int x1)]) hx hb dX4_shownOn_1 rfl hl (by decide) rfl (fun ls hl => ?_)
  refine lv_aload_n hx hb dX4_shownOn_2 rfl (lv_at hl 1 rfl) ?_
  refine lv_iload_n hx hb dX4_shownOn_3 rfl (lv_at hl 2 rfl) ?_
  have hPc := hP.sub (ws' := ([] : va_W)) [] rfl
  have hDc := hD.sub (ws' := ([] : va_W)) [] (by decide) rfl
  refine z_calli (va_runS (As := [.int x1]) (rest := [.ref q]) ⟨hx, hb, hml, hown, hts⟩ (c_X4_at l D cs  s.heap.size x1 _ hw) (va_cwS 1 hts gX4_shownOn_X4_at rfl rfl rfl (by decide +kernel) ⟨Nat.le_of_ble_eq_true rfl, Nat.le_of_ble_eq_true rfl⟩) (PC_S hPc hDc hKK) rfl rfl hl.1 rfl (lv_room (Nat.le_of_ble_eq_true rfl)) dX4_shownOn_4 ⟨Nat.le_of_ble_eq_true rfl, Nat.le_of_ble_eq_true rfl⟩) (fun r1 hw => ?_)
  refine lv_iconst (v := (0 : Int32)) hx hb dX4_shownOn_7 (by decide) ?_
  refine lv_iadd hx hb dX4_shownOn_8 ?_
  obtain ⟨h2, hw⟩ := hw
  refine va_iald hx hb hK hP 0 0 rfl rfl h2 dX4_shownOn_9 ?_
  refine lv_iconst (v := (1 : Int32)) hx hb dX4_shownOn_10 (by decide) ?_
  refine lv_isub hx hb dX4_shownOn_11 ?_
  refine lv_topi (fun y3 ey3 => ?_)
  have hw := hw y3 ey3
  refine lv_istore_n (lv' := [(3, .int y3), (2, .int (0 : Int32)), (0, .ref q), (1, .int x1)]) hx hb dX4_shownOn_12 rfl hl (by decide) rfl (fun ls hl => ?_)
  obtain ⟨n8, hw⟩ := hw
  exact t_X4_shownOn_13 hC q _ _ _ hP hD n8 _ _ hw ls (lv_sub hl [2, 3, 1, 0] rfl)
set_option maxHeartbeats 4000000 in
set_option maxRecDepth 100000 in
theorem c_X4_shownOn (l : Launch) (D : va_G) (cs : Nat → ClassId) (q : Nat) (sz : Nat) (F : (Nat → Int32)) (x1 : Int32) (Q : Int32 → Prop) (hw : wp_X4_shownOn F x1 Q) : Met l yX4_shownOn wsX4_shownOn ({ frames := 1, cells := 0, slots := 0, locals := 20 } : Room) (va_Pc [.ref q, .int x1] (PC D cs (w_Row cs q 336 F) sz)) (vp_Si Q) 0 0 (fun _ => False) := by
  refine Met.ofW (cc := cX4_shownOn) (maxL := 4) (ret := (some .int)) (by decide) rfl ?_
  intro p e s m args below meth c s₁ B hml hv
  obtain ⟨rfl, hsz, hP, hKK, hD0⟩ := hv
  have hC : MAt p s m _ meth c RX4 cX4_shownOn 4 (some .int) wsX4_shownOn D cs := ⟨B.exec, B.bytes, B.returns, hml, findClass_of_methodNamed B.named, atoms_spec (ws := wsX4_shownOn) B.pre, B.notSynchronized, hKK⟩
  have hl := lv_entry ([.ref q, .int x1]) (n := 4) (Nat.le_of_ble_eq_true rfl)
  rw [lg_entry_eq]
  generalize (lg_sl ([.ref q, .int x1]) ++ List.replicate (4 - (lg_sl ([.ref q, .int x1])).length) Slot.unset).toArray = ls at hl ⊢
  exact t_X4_shownOn hC q F x1 Q hw hP hD0 ls hl
set_option maxHeartbeats 4000000 in
set_option maxRecDepth 100000 in
theorem t_X4_worthOn_14 {p : Program} {l : Launch} {e : Env} {s : State} {m : MethodId} {args : Array Value} {below : List Frame} {meth : Method} {c : Code} {D : va_G} {cs : Nat → ClassId} {A : Nat → Prop} (hC : MAt p s m args meth c RX4 cX4_worthOn 5 (some .long) wsX4_worthOn D cs) (q : Nat) (F : (Nat → Int32)) (x1 : Int32) (Q : Int64 → Prop) (hP : va_P D vwCl (w_Row cs q 336 F) s.heap) (hD : va_D A (w_Row cs q 336 F)) : ∀ (n : Nat) (x2 : Int64) (x4 : Int32), wl_X4_worthOn_14 F x1 Q n x2 x4 → ∀ ls : Array Slot, lv_has ls 5 [(0, .ref q), (1, .int x1), (2, .long x2), (4, .int x4)] → W p l e ({ frames := 1, cells := 0, slots := 0, locals := 20 } : Room) s m args below meth c s.heap [] 0 0 (MQ below (vp_Sl Q) args s 0 0 (fun _ => False)) (F0 m 14 ls []) := by
  obtain ⟨hx, hb, hr, hml, hown, hts, hlocks, hKK⟩ := id hC
  have hK := hKK.1
  intro n
  induction n with
  | zero =>
    intro x2 x4 hw
    exact False.elim hw
  | succ n ih =>
    intro x2 x4 hw ls hl
    refine lv_iload hx hb dX4_worthOn_14 (lv_at hl 3 rfl) ?_
    refine lv_if_lt (tgt := 58) hx hb dX4_worthOn_16 (by decide) (fun c4 => ?_) (fun c4 => ?_)
    · have hw := hw.1 c4
      refine lv_lload_n hx hb dX4_worthOn_58 rfl (lv_at hl 2 rfl) ?_
      exact W.lret (v := x2) hx hb hr (fun t ht hW => ⟨x2, rfl, hw, ht⟩) (fun q h => nomatch h) dX4_worthOn_59 hlocks
    · have hw := hw.2 c4
      refine lv_ldc2 (v := (3 : Int64)) hx hb hown (z_w hts 1 (w := .constantLong RX4 51 (3)) rfl) dX4_worthOn_19 ?_
      refine lv_lload_n hx hb dX4_worthOn_22 rfl (lv_at hl 2 rfl) ?_
      refine lv_lmul hx hb dX4_worthOn_23 ?_
      refine lv_aload_n hx hb dX4_worthOn_24 rfl (lv_at hl 0 rfl) ?_
      refine lv_iload_n hx hb dX4_worthOn_25 rfl (lv_at hl 1 rfl) ?_
      have hPc := hP.sub (ws' := ([] : va_W)) [] rfl
      have hDc := hD.sub (ws' := ([] : va_W)) [] (by decide) rfl
      refine z_calli (va_runS (As := [.int x1]) (rest := [.ref q, .long ((3 : Int64) * x2)]) ⟨hx, hb, hml, hown, hts⟩ (c_X4_at l D cs  s.heap.size x1 _ hw) (va_cwS 1 hts gX4_worthOn_X4_at rfl rfl rfl (by decide +kernel) ⟨Nat.le_of_ble_eq_true rfl, Nat.le_of_ble_eq_true rfl⟩) (PC_S hPc hDc hKK) rfl rfl hl.1 rfl (lv_room (Nat.le_of_ble_eq_true rfl)) dX4_worthOn_26 ⟨Nat.le_of_ble_eq_true rfl, Nat.le_of_ble_eq_true rfl⟩) (fun r5 hw => ?_)
      refine lv_iconst (v := (4 : Int32)) hx hb dX4_worthOn_29 (by decide) ?_
      refine lv_iadd hx hb dX4_worthOn_30 ?_
      refine lv_iload hx hb dX4_worthOn_31 (lv_at hl 3 rfl) ?_
      refine lv_iadd hx hb dX4_worthOn_33 ?_
      obtain ⟨h6, hw⟩ := hw
      refine va_iald hx hb hK hP 0 0 rfl rfl h6 dX4_worthOn_34 ?_
      refine lv_i2l (v := (F ((r5 + (4 : Int32)) + x4).toNatClampNeg).toInt64) hx hb dX4_worthOn_35 rfl ?_
      refine lv_ladd hx hb dX4_worthOn_36 ?_
      refine lv_aload_n hx hb dX4_worthOn_37 rfl (lv_at hl 0 rfl) ?_
      refine lv_iload_n hx hb dX4_worthOn_38 rfl (lv_at hl 1 rfl) ?_
      have hPc := hP.sub (ws' := ([] : va_W)) [] rfl
      have hDc := hD.sub (ws' := ([] : va_W)) [] (by decide) rfl
      refine z_calli (va_runS (As := [.int x1]) (rest := [.ref q, .long (((3 : Int64) * x2) + ((F ((r5 + (4 : Int32)) + x4).toNatClampNeg).toInt64))]) ⟨hx, hb, hml, hown, hts⟩ (c_X4_at l D cs  s.heap.size x1 _ hw) (va_cwS 1 hts gX4_worthOn_X4_at rfl rfl rfl (by decide +kernel) ⟨Nat.le_of_ble_eq_true rfl, Nat.le_of_ble_eq_true rfl⟩) (PC_S hPc hDc hKK) rfl rfl hl.1 rfl (lv_room (Nat.le_of_ble_eq_true rfl)) dX4_worthOn_39 ⟨Nat.le_of_ble_eq_true rfl, Nat.le_of_ble_eq_true rfl⟩) (fun r7 hw => ?_)
      refine lv_bipush (v := (13 : Int32)) hx hb dX4_worthOn_42 (by decide) ?_
      refine lv_iadd hx hb dX4_worthOn_44 ?_
      refine lv_iload hx hb dX4_worthOn_45 (lv_at hl 3 rfl) ?_
      refine lv_iadd hx hb dX4_worthOn_47 ?_
      obtain ⟨h8, hw⟩ := hw
      refine va_iald hx hb hK hP 0 0 rfl rfl h8 dX4_worthOn_48 ?_
      refine lv_i2l (v := (F ((r7 + (13 : Int32)) + x4).toNatClampNeg).toInt64) hx hb dX4_worthOn_49 rfl ?_
      refine lv_ladd hx hb dX4_worthOn_50 ?_
      refine lv_topl (fun y9 ey9 => ?_)
      have hw := hw y9 ey9
      refine lv_lstore_n (lv' := [(2, .long y9), (0, .ref q), (1, .int x1), (4, .int x4)]) hx hb dX4_worthOn_51 rfl hl (by decide) rfl (fun ls hl => ?_)
      refine lv_iinc (v := x4 + (-1)) (lv' := [(4, .int (x4 + (-1))), (2, .long y9), (0, .ref q), (1, .int x1)]) hx hb dX4_worthOn_52 hl (k := 3) rfl rfl (by decide) rfl (fun ls hl => ?_)
      refine lv_goto (tgt := 14) hx hb dX4_worthOn_55 (by decide) ?_
      exact ih _ _ hw ls (lv_sub hl [2, 3, 1, 0] rfl)
set_option maxHeartbeats 4000000 in
set_option maxRecDepth 100000 in
theorem t_X4_worthOn {p : Program} {l : Launch} {e : Env} {s : State} {m : MethodId} {args : Array Value} {below : List Frame} {meth : Method} {c : Code} {D : va_G} {cs : Nat → ClassId} {A : Nat → Prop} (hC : MAt p s m args meth c RX4 cX4_worthOn 5 (some .long) wsX4_worthOn D cs) (q : Nat) (F : (Nat → Int32)) (x1 : Int32) (Q : Int64 → Prop) (hw : wp_X4_worthOn F x1 Q) (hP : va_P D vwCl (w_Row cs q 336 F) s.heap) (hD : va_D A (w_Row cs q 336 F)) (ls : Array Slot) (hl : lv_has ls 5 [(0, .ref q), (1, .int x1)]) : W p l e ({ frames := 1, cells := 0, slots := 0, locals := 20 } : Room) s m args below meth c s.heap [] 0 0 (MQ below (vp_Sl Q) args s 0 0 (fun _ => False)) (F0 m 0 ls []) := by
  obtain ⟨hx, hb, hr, hml, hown, hts, hlocks, hKK⟩ := id hC
  have hK := hKK.1
  refine lv_lconst (v := (0 : Int64)) hx hb dX4_worthOn_0 (by decide) ?_
  refine lv_lstore_n (lv' := [(2, .long (0 : Int64)), (0, .ref q), (1, .int x1)]) hx hb dX4_worthOn_1 rfl hl (by decide) rfl (fun ls hl => ?_)
  refine lv_aload_n hx hb dX4_worthOn_2 rfl (lv_at hl 1 rfl) ?_
  refine lv_iload_n hx hb dX4_worthOn_3 rfl (lv_at hl 2 rfl) ?_
  have hPc := hP.sub (ws' := ([] : va_W)) [] rfl
  have hDc := hD.sub (ws' := ([] : va_W)) [] (by decide) rfl
  refine z_calli (va_runS (As := [.int x1]) (rest := [.ref q]) ⟨hx, hb, hml, hown, hts⟩ (c_X4_at l D cs  s.heap.size x1 _ hw) (va_cwS 1 hts gX4_worthOn_X4_at rfl rfl rfl (by decide +kernel) ⟨Nat.le_of_ble_eq_true rfl, Nat.le_of_ble_eq_true rfl⟩) (PC_S hPc hDc hKK) rfl rfl hl.1 rfl (lv_room (Nat.le_of_ble_eq_true rfl)) dX4_worthOn_4 ⟨Nat.le_of_ble_eq_true rfl, Nat.le_of_ble_eq_true rfl⟩) (fun r1 hw => ?_)
  refine lv_iconst (v := (0 : Int32)) hx hb dX4_worthOn_7 (by decide) ?_
  refine lv_iadd hx hb dX4_worthOn_8 ?_
  obtain ⟨h2, hw⟩ := hw
  refine va_iald hx hb hK hP 0 0 rfl rfl h2 dX4_worthOn_9 ?_
  refine lv_iconst (v := (1 : Int32)) hx hb dX4_worthOn_10 (by decide) ?_
  refine lv_isub hx hb dX4_worthOn_11 ?_
  refine lv_topi (fun y3 ey3 => ?_)
  have hw := hw y3 ey3
  refine lv_istore (lv' := [(4, .int y3), (2, .long (0 : Int64)), (0, .ref q), (1, .int x1)]) hx hb dX4_worthOn_12 hl (by decide) rfl (fun ls hl => ?_)
  obtain ⟨n10, hw⟩ := hw
  exact t_X4_worthOn_14 hC q _ _ _ hP hD n10 _ _ hw ls (lv_sub hl [2, 3, 1, 0] rfl)
set_option maxHeartbeats 4000000 in
set_option maxRecDepth 100000 in
theorem c_X4_worthOn (l : Launch) (D : va_G) (cs : Nat → ClassId) (q : Nat) (sz : Nat) (F : (Nat → Int32)) (x1 : Int32) (Q : Int64 → Prop) (hw : wp_X4_worthOn F x1 Q) : Met l yX4_worthOn wsX4_worthOn ({ frames := 1, cells := 0, slots := 0, locals := 20 } : Room) (va_Pc [.ref q, .int x1] (PC D cs (w_Row cs q 336 F) sz)) (vp_Sl Q) 0 0 (fun _ => False) := by
  refine Met.ofW (cc := cX4_worthOn) (maxL := 5) (ret := (some .long)) (by decide) rfl ?_
  intro p e s m args below meth c s₁ B hml hv
  obtain ⟨rfl, hsz, hP, hKK, hD0⟩ := hv
  have hC : MAt p s m _ meth c RX4 cX4_worthOn 5 (some .long) wsX4_worthOn D cs := ⟨B.exec, B.bytes, B.returns, hml, findClass_of_methodNamed B.named, atoms_spec (ws := wsX4_worthOn) B.pre, B.notSynchronized, hKK⟩
  have hl := lv_entry ([.ref q, .int x1]) (n := 5) (Nat.le_of_ble_eq_true rfl)
  rw [lg_entry_eq]
  generalize (lg_sl ([.ref q, .int x1]) ++ List.replicate (5 - (lg_sl ([.ref q, .int x1])).length) Slot.unset).toArray = ls at hl ⊢
  exact t_X4_worthOn hC q F x1 Q hw hP hD0 ls hl
set_option maxHeartbeats 4000000 in
set_option maxRecDepth 100000 in
theorem t_X4_waitsOn_4 {p : Program} {l : Launch} {e : Env} {s : State} {m : MethodId} {args : Array Value} {below : List Frame} {meth : Method} {c : Code} {D : va_G} {cs : Nat → ClassId} {A : Nat → Prop} (hC : MAt p s m args meth c RX4 cX4_waitsOn 4 (some .int) wsX4_waitsOn D cs) (q : Nat) (F : (Nat → Int32)) (x1 : Int32) (Q : Int32 → Prop) (hP : va_P D vwCl (w_Row cs q 336 F) s.heap) (hD : va_D A (w_Row cs q 336 F)) : ∀ (n : Nat) (x2 : Int32) (x3 : Int32), wl_X4_waitsOn_4 F x1 Q n x2 x3 → ∀ ls : Array Slot, lv_has ls 4 [(0, .ref q), (1, .int x1), (2, .int x2), (3, .int x3)] → W p l e ({ frames := 1, cells := 0, slots := 0, locals := 20 } : Room) s m args below meth c s.heap [] 0 0 (MQ below (vp_Si Q) args s 0 0 (fun _ => False)) (F0 m 4 ls []) := by
  obtain ⟨hx, hb, hr, hml, hown, hts, hlocks, hKK⟩ := id hC
  have hK := hKK.1
  intro n
  induction n with
  | zero =>
    intro x2 x3 hw
    exact False.elim hw
  | succ n ih =>
    intro x2 x3 hw ls hl
    refine lv_iload_n hx hb dX4_waitsOn_4 rfl (lv_at hl 3 rfl) ?_
    refine lv_aload_n hx hb dX4_waitsOn_5 rfl (lv_at hl 0 rfl) ?_
    refine lv_iload_n hx hb dX4_waitsOn_6 rfl (lv_at hl 1 rfl) ?_
    have hPc := hP.sub (ws' := ([] : va_W)) [] rfl
    have hDc := hD.sub (ws' := ([] : va_W)) [] (by decide) rfl
    refine z_calli (va_runS (As := [.int x1]) (rest := [.ref q, .int x3]) ⟨hx, hb, hml, hown, hts⟩ (c_X4_at l D cs  s.heap.size x1 _ hw) (va_cwS 1 hts gX4_waitsOn_X4_at rfl rfl rfl (by decide +kernel) ⟨Nat.le_of_ble_eq_true rfl, Nat.le_of_ble_eq_true rfl⟩) (PC_S hPc hDc hKK) rfl rfl hl.1 rfl (lv_room (Nat.le_of_ble_eq_true rfl)) dX4_waitsOn_7 ⟨Nat.le_of_ble_eq_true rfl, Nat.le_of_ble_eq_true rfl⟩) (fun r1 hw => ?_)
    refine lv_iconst (v := (0 : Int32)) hx hb dX4_waitsOn_10 (by decide) ?_
    refine lv_iadd hx hb dX4_waitsOn_11 ?_
    obtain ⟨h2, hw⟩ := hw
    refine va_iald hx hb hK hP 0 0 rfl rfl h2 dX4_waitsOn_12 ?_
    refine lv_icmp_ge (tgt := 44) hx hb dX4_waitsOn_13 (by decide) (fun c3 => ?_) (fun c3 => ?_)
    · have hw := hw.1 c3
      refine lv_iload_n hx hb dX4_waitsOn_44 rfl (lv_at hl 2 rfl) ?_
      exact W.iret (v := x2) hx hb hr (fun t ht hW => ⟨x2, rfl, hw, ht⟩) (fun q h => nomatch h) dX4_waitsOn_45 hlocks
    · have hw := hw.2 c3
      refine lv_iload_n hx hb dX4_waitsOn_16 rfl (lv_at hl 2 rfl) ?_
      refine lv_aload_n hx hb dX4_waitsOn_17 rfl (lv_at hl 0 rfl) ?_
      refine lv_iload_n hx hb dX4_waitsOn_18 rfl (lv_at hl 1 rfl) ?_
      have hPc := hP.sub (ws' := ([] : va_W)) [] rfl
      have hDc := hD.sub (ws' := ([] : va_W)) [] (by decide) rfl
      refine z_calli (va_runS (As := [.int x1]) (rest := [.ref q, .int x2]) ⟨hx, hb, hml, hown, hts⟩ (c_X4_at l D cs  s.heap.size x1 _ hw) (va_cwS 1 hts gX4_waitsOn_X4_at rfl rfl rfl (by decide +kernel) ⟨Nat.le_of_ble_eq_true rfl, Nat.le_of_ble_eq_true rfl⟩) (PC_S hPc hDc hKK) rfl rfl hl.1 rfl (lv_room (Nat.le_of_ble_eq_true rfl)) dX4_waitsOn_19 ⟨Nat.le_of_ble_eq_true rfl, Nat.le_of_ble_eq_true rfl⟩) (fun r4 hw => ?_)
      refine lv_bipush (v := (13 : Int32)) hx hb dX4_waitsOn_22 (by decide) ?_
      refine lv_iadd hx hb dX4_waitsOn_24 ?_
      refine lv_iload_n hx hb dX4_waitsOn_25 rfl (lv_at hl 3 rfl) ?_
      refine lv_iadd hx hb dX4_waitsOn_26 ?_
      obtain ⟨h5, hw⟩ := hw
      refine va_iald hx hb hK hP 0 0 rfl rfl h5 dX4_waitsOn_27 ?_
      refine lv_if_ne (tgt := 35) hx hb dX4_waitsOn_28 (by decide) (fun c6 => ?_) (fun c6 => ?_)
      · have hw := hw.2 c6
        refine lv_iconst (v := (1 : Int32)) hx hb dX4_waitsOn_35 (by decide) ?_
        refine lv_iadd hx hb dX4_waitsOn_36 ?_
        refine lv_istore_n (lv' := [(2, .int (x2 + (1 : Int32))), (0, .ref q), (1, .int x1), (3, .int x3)]) hx hb dX4_waitsOn_37 rfl hl (by decide) rfl (fun ls hl => ?_)
        refine lv_iinc (v := x3 + 1) (lv' := [(3, .int (x3 + 1)), (2, .int (x2 + (1 : Int32))), (0, .ref q), (1, .int x1)]) hx hb dX4_waitsOn_38 hl (k := 3) rfl rfl (by decide) rfl (fun ls hl => ?_)
        refine lv_goto (tgt := 4) hx hb dX4_waitsOn_41 (by decide) ?_
        exact ih _ _ hw ls (lv_sub hl [2, 3, 1, 0] rfl)
      · have hw := hw.1 c6
        refine lv_iconst (v := (0 : Int32)) hx hb dX4_waitsOn_31 (by decide) ?_
        refine lv_goto (tgt := 36) hx hb dX4_waitsOn_32 (by decide) ?_
        refine lv_iadd hx hb dX4_waitsOn_36 ?_
        refine lv_istore_n (lv' := [(2, .int (x2 + (0 : Int32))), (0, .ref q), (1, .int x1), (3, .int x3)]) hx hb dX4_waitsOn_37 rfl hl (by decide) rfl (fun ls hl => ?_)
        refine lv_iinc (v := x3 + 1) (lv' := [(3, .int (x3 + 1)), (2, .int (x2 + (0 : Int32))), (0, .ref q), (1, .int x1)]) hx hb dX4_waitsOn_38 hl (k := 3) rfl rfl (by decide) rfl (fun ls hl => ?_)
        refine lv_goto (tgt := 4) hx hb dX4_waitsOn_41 (by decide) ?_
        exact ih _ _ hw ls (lv_sub hl [2, 3, 1, 0] rfl)
set_option maxHeartbeats 4000000 in
set_option maxRecDepth 100000 in
theorem t_X4_waitsOn {p : Program} {l : Launch} {e : Env} {s : State} {m : MethodId} {args : Array Value} {below : List Frame} {meth : Method} {c : Code} {D : va_G} {cs : Nat → ClassId} {A : Nat → Prop} (hC : MAt p s m args meth c RX4 cX4_waitsOn 4 (some .int) wsX4_waitsOn D cs) (q : Nat) (F : (Nat → Int32)) (x1 : Int32) (Q : Int32 → Prop) (hw : wp_X4_waitsOn F x1 Q) (hP : va_P D vwCl (w_Row cs q 336 F) s.heap) (hD : va_D A (w_Row cs q 336 F)) (ls : Array Slot) (hl : lv_has ls 4 [(0, .ref q), (1, .int x1)]) : W p l e ({ frames := 1, cells := 0, slots := 0, locals := 20 } : Room) s m args below meth c s.heap [] 0 0 (MQ below (vp_Si Q) args s 0 0 (fun _ => False)) (F0 m 0 ls []) := by
  obtain ⟨hx, hb, hr, hml, hown, hts, hlocks, hKK⟩ := id hC
  have hK := hKK.1
  refine lv_iconst (v := (0 : Int32)) hx hb dX4_waitsOn_0 (by decide) ?_
  refine lv_istore_n (lv' := [(2, .int (0 : Int32)), (0, .ref q), (1, .int x1)]) hx hb dX4_waitsOn_1 rfl hl (by decide) rfl (fun ls hl => ?_)
  refine lv_iconst (v := (0 : Int32)) hx hb dX4_waitsOn_2 (by decide) ?_
  refine lv_istore_n (lv' := [(3, .int (0 : Int32)), (2, .int (0 : Int32)), (0, .ref q), (1, .int x1)]) hx hb dX4_waitsOn_3 rfl hl (by decide) rfl (fun ls hl => ?_)
  obtain ⟨n7, hw⟩ := hw
  exact t_X4_waitsOn_4 hC q _ _ _ hP hD n7 _ _ hw ls (lv_sub hl [2, 3, 1, 0] rfl)
set_option maxHeartbeats 4000000 in
set_option maxRecDepth 100000 in
theorem c_X4_waitsOn (l : Launch) (D : va_G) (cs : Nat → ClassId) (q : Nat) (sz : Nat) (F : (Nat → Int32)) (x1 : Int32) (Q : Int32 → Prop) (hw : wp_X4_waitsOn F x1 Q) : Met l yX4_waitsOn wsX4_waitsOn ({ frames := 1, cells := 0, slots := 0, locals := 20 } : Room) (va_Pc [.ref q, .int x1] (PC D cs (w_Row cs q 336 F) sz)) (vp_Si Q) 0 0 (fun _ => False) := by
  refine Met.ofW (cc := cX4_waitsOn) (maxL := 4) (ret := (some .int)) (by decide) rfl ?_
  intro p e s m args below meth c s₁ B hml hv
  obtain ⟨rfl, hsz, hP, hKK, hD0⟩ := hv
  have hC : MAt p s m _ meth c RX4 cX4_waitsOn 4 (some .int) wsX4_waitsOn D cs := ⟨B.exec, B.bytes, B.returns, hml, findClass_of_methodNamed B.named, atoms_spec (ws := wsX4_waitsOn) B.pre, B.notSynchronized, hKK⟩
  have hl := lv_entry ([.ref q, .int x1]) (n := 4) (Nat.le_of_ble_eq_true rfl)
  rw [lg_entry_eq]
  generalize (lg_sl ([.ref q, .int x1]) ++ List.replicate (4 - (lg_sl ([.ref q, .int x1])).length) Slot.unset).toArray = ls at hl ⊢
  exact t_X4_waitsOn hC q F x1 Q hw hP hD0 ls hl
set_option maxHeartbeats 4000000 in
set_option maxRecDepth 100000 in
theorem t_X4_waitsInAll_4 {p : Program} {l : Launch} {e : Env} {s : State} {m : MethodId} {args : Array Value} {below : List Frame} {meth : Method} {c : Code} {D : va_G} {cs : Nat → ClassId} {A : Nat → Prop} (hC : MAt p s m args meth c RX4 cX4_waitsInAll 3 (some .int) wsX4_waitsInAll D cs) (q : Nat) (F : (Nat → Int32)) (Q : Int32 → Prop) (hP : va_P D vwCl (w_Row cs q 336 F) s.heap) (hD : va_D A (w_Row cs q 336 F)) : ∀ (n : Nat) (x1 : Int32) (x2 : Int32), wl_X4_waitsInAll_4 F Q n x1 x2 → ∀ ls : Array Slot, lv_has ls 3 [(0, .ref q), (1, .int x1), (2, .int x2)] → W p l e ({ frames := 2, cells := 0, slots := 0, locals := 43 } : Room) s m args below meth c s.heap [] 0 0 (MQ below (vp_Si Q) args s 0 0 (fun _ => False)) (F0 m 4 ls []) := by
  obtain ⟨hx, hb, hr, hml, hown, hts, hlocks, hKK⟩ := id hC
  have hK := hKK.1
  intro n
  induction n with
  | zero =>
    intro x1 x2 hw
    exact False.elim hw
  | succ n ih =>
    intro x1 x2 hw ls hl
    refine lv_iload_n hx hb dX4_waitsInAll_4 rfl (lv_at hl 2 rfl) ?_
    refine lv_aload_n hx hb dX4_waitsInAll_5 rfl (lv_at hl 0 rfl) ?_
    refine lv_iconst (v := (0 : Int32)) hx hb dX4_waitsInAll_6 (by decide) ?_
    refine va_iald hx hb hK hP 0 0 rfl rfl (show vp_in (0 : Int32) 336 by unfold vp_in; decide) dX4_waitsInAll_7 ?_
    refine lv_icmp_ge (tgt := 25) hx hb dX4_waitsInAll_8 (by decide) (fun c1 => ?_) (fun c1 => ?_)
    · have hw := hw.1 c1
      refine lv_iload_n hx hb dX4_waitsInAll_25 rfl (lv_at hl 1 rfl) ?_
      exact W.iret (v := x1) hx hb hr (fun t ht hW => ⟨x1, rfl, hw, ht⟩) (fun q h => nomatch h) dX4_waitsInAll_26 hlocks
    · have hw := hw.2 c1
      refine lv_iload_n hx hb dX4_waitsInAll_11 rfl (lv_at hl 1 rfl) ?_
      refine lv_aload_n hx hb dX4_waitsInAll_12 rfl (lv_at hl 0 rfl) ?_
      refine lv_iload_n hx hb dX4_waitsInAll_13 rfl (lv_at hl 2 rfl) ?_
      refine z_calli (va_runS (As := [.ref q, .int x2]) (rest := [.int x1]) ⟨hx, hb, hml, hown, hts⟩ (c_X4_waitsOn l D cs q s.heap.size F x2 _ hw) (va_cwS 2 hts gX4_waitsInAll_X4_waitsOn rfl rfl rfl (by decide +kernel) ⟨Nat.le_of_ble_eq_true rfl, Nat.le_of_ble_eq_true rfl⟩) (PC_S hP hD hKK) rfl rfl hl.1 rfl (lv_room (Nat.le_of_ble_eq_true rfl)) dX4_waitsInAll_14 ⟨Nat.le_of_ble_eq_true rfl, Nat.le_of_ble_eq_true rfl⟩) (fun r2 hw => ?_)
      refine lv_iadd hx hb dX4_waitsInAll_17 ?_
      refine lv_istore_n (lv' := [(1, .int (x1 + r2)), (0, .ref q), (2, .int x2)]) hx hb dX4_waitsInAll_18 rfl hl (by decide) rfl (fun ls hl => ?_)
      refine lv_iinc (v := x2 + 1) (lv' := [(2, .int (x2 + 1)), (1, .int (x1 + r2)), (0, .ref q)]) hx hb dX4_waitsInAll_19 hl (k := 2) rfl rfl (by decide) rfl (fun ls hl => ?_)
      refine lv_goto (tgt := 4) hx hb dX4_waitsInAll_22 (by decide) ?_
      exact ih _ _ hw ls (lv_sub hl [2, 1, 0] rfl)
set_option maxHeartbeats 4000000 in
set_option maxRecDepth 100000 in
theorem t_X4_waitsInAll {p : Program} {l : Launch} {e : Env} {s : State} {m : MethodId} {args : Array Value} {below : List Frame} {meth : Method} {c : Code} {D : va_G} {cs : Nat → ClassId} {A : Nat → Prop} (hC : MAt p s m args meth c RX4 cX4_waitsInAll 3 (some .int) wsX4_waitsInAll D cs) (q : Nat) (F : (Nat → Int32)) (Q : Int32 → Prop) (hw : wp_X4_waitsInAll F Q) (hP : va_P D vwCl (w_Row cs q 336 F) s.heap) (hD : va_D A (w_Row cs q 336 F)) (ls : Array Slot) (hl : lv_has ls 3 [(0, .ref q)]) : W p l e ({ frames := 2, cells := 0, slots := 0, locals := 43 } : Room) s m args below meth c s.heap [] 0 0 (MQ below (vp_Si Q) args s 0 0 (fun _ => False)) (F0 m 0 ls []) := by
  obtain ⟨hx, hb, hr, hml, hown, hts, hlocks, hKK⟩ := id hC
  have hK := hKK.1
  refine lv_iconst (v := (0 : Int32)) hx hb dX4_waitsInAll_0 (by decide) ?_
  refine lv_istore_n (lv' := [(1, .int (0 : Int32)), (0, .ref q)]) hx hb dX4_waitsInAll_1 rfl hl (by decide) rfl (fun ls hl => ?_)
  refine lv_iconst (v := (0 : Int32)) hx hb dX4_waitsInAll_2 (by decide) ?_
  refine lv_istore_n (lv' := [(2, .int (0 : Int32)), (1, .int (0 : Int32)), (0, .ref q)]) hx hb dX4_waitsInAll_3 rfl hl (by decide) rfl (fun ls hl => ?_)
  obtain ⟨n3, hw⟩ := hw
  exact t_X4_waitsInAll_4 hC q _ _ hP hD n3 _ _ hw ls (lv_sub hl [2, 1, 0] rfl)
set_option maxHeartbeats 4000000 in
set_option maxRecDepth 100000 in
theorem c_X4_waitsInAll (l : Launch) (D : va_G) (cs : Nat → ClassId) (q : Nat) (sz : Nat) (F : (Nat → Int32)) (Q : Int32 → Prop) (hw : wp_X4_waitsInAll F Q) : Met l yX4_waitsInAll wsX4_waitsInAll ({ frames := 2, cells := 0, slots := 0, locals := 43 } : Room) (va_Pc [.ref q] (PC D cs (w_Row cs q 336 F) sz)) (vp_Si Q) 0 0 (fun _ => False) := by
  refine Met.ofW (cc := cX4_waitsInAll) (maxL := 3) (ret := (some .int)) (by decide) rfl ?_
  intro p e s m args below meth c s₁ B hml hv
  obtain ⟨rfl, hsz, hP, hKK, hD0⟩ := hv
  have hC : MAt p s m _ meth c RX4 cX4_waitsInAll 3 (some .int) wsX4_waitsInAll D cs := ⟨B.exec, B.bytes, B.returns, hml, findClass_of_methodNamed B.named, atoms_spec (ws := wsX4_waitsInAll) B.pre, B.notSynchronized, hKK⟩
  have hl := lv_entry ([.ref q]) (n := 3) (Nat.le_of_ble_eq_true rfl)
  rw [lg_entry_eq]
  generalize (lg_sl ([.ref q]) ++ List.replicate (3 - (lg_sl ([.ref q])).length) Slot.unset).toArray = ls at hl ⊢
  exact t_X4_waitsInAll hC q F Q hw hP hD0 ls hl
set_option maxHeartbeats 4000000 in
set_option maxRecDepth 100000 in
theorem t_X4_settledOn_4 {p : Program} {l : Launch} {e : Env} {s : State} {m : MethodId} {args : Array Value} {below : List Frame} {meth : Method} {c : Code} {D : va_G} {cs : Nat → ClassId} {A : Nat → Prop} (hC : MAt p s m args meth c RX4 cX4_settledOn 3 (some .int) wsX4_settledOn D cs) (q : Nat) (F : (Nat → Int32)) (Q : Int32 → Prop) (hP : va_P D vwCl (w_Row cs q 336 F) s.heap) (hD : va_D A (w_Row cs q 336 F)) : ∀ (n : Nat) (x1 : Int32) (x2 : Int32), wl_X4_settledOn_4 F Q n x1 x2 → ∀ ls : Array Slot, lv_has ls 3 [(0, .ref q), (1, .int x1), (2, .int x2)] → W p l e ({ frames := 2, cells := 0, slots := 0, locals := 43 } : Room) s m args below meth c s.heap [] 0 0 (MQ below (vp_Si Q) args s 0 0 (fun _ => False)) (F0 m 4 ls []) := by
  obtain ⟨hx, hb, hr, hml, hown, hts, hlocks, hKK⟩ := id hC
  have hK := hKK.1
  intro n
  induction n with
  | zero =>
    intro x1 x2 hw
    exact False.elim hw
  | succ n ih =>
    intro x1 x2 hw ls hl
    refine lv_iload_n hx hb dX4_settledOn_4 rfl (lv_at hl 2 rfl) ?_
    refine lv_aload_n hx hb dX4_settledOn_5 rfl (lv_at hl 0 rfl) ?_
    refine lv_iconst (v := (0 : Int32)) hx hb dX4_settledOn_6 (by decide) ?_
    refine va_iald hx hb hK hP 0 0 rfl rfl (show vp_in (0 : Int32) 336 by unfold vp_in; decide) dX4_settledOn_7 ?_
    refine lv_icmp_ge (tgt := 33) hx hb dX4_settledOn_8 (by decide) (fun c1 => ?_) (fun c1 => ?_)
    · have hw := hw.1 c1
      refine lv_iload_n hx hb dX4_settledOn_33 rfl (lv_at hl 1 rfl) ?_
      exact W.iret (v := x1) hx hb hr (fun t ht hW => ⟨x1, rfl, hw, ht⟩) (fun q h => nomatch h) dX4_settledOn_34 hlocks
    · have hw := hw.2 c1
      refine lv_iload_n hx hb dX4_settledOn_11 rfl (lv_at hl 1 rfl) ?_
      refine lv_aload_n hx hb dX4_settledOn_12 rfl (lv_at hl 0 rfl) ?_
      refine lv_iload_n hx hb dX4_settledOn_13 rfl (lv_at hl 2 rfl) ?_
      refine z_calli (va_runS (As := [.ref q, .int x2]) (rest := [.int x1]) ⟨hx, hb, hml, hown, hts⟩ (c_X4_waitsOn l D cs q s.heap.size F x2 _ hw) (va_cwS 2 hts gX4_settledOn_X4_waitsOn rfl rfl rfl (by decide +kernel) ⟨Nat.le_of_ble_eq_true rfl, Nat.le_of_ble_eq_true rfl⟩) (PC_S hP hD hKK) rfl rfl hl.1 rfl (lv_room (Nat.le_of_ble_eq_true rfl)) dX4_settledOn_14 ⟨Nat.le_of_ble_eq_true rfl, Nat.le_of_ble_eq_true rfl⟩) (fun r2 hw => ?_)
      refine lv_if_ne (tgt := 24) hx hb dX4_settledOn_17 (by decide) (fun c3 => ?_) (fun c3 => ?_)
      · have hw := hw.2 c3
        refine lv_iconst (v := (0 : Int32)) hx hb dX4_settledOn_24 (by decide) ?_
        refine lv_iadd hx hb dX4_settledOn_25 ?_
        refine lv_istore_n (lv' := [(1, .int (x1 + (0 : Int32))), (0, .ref q), (2, .int x2)]) hx hb dX4_settledOn_26 rfl hl (by decide) rfl (fun ls hl => ?_)
        refine lv_iinc (v := x2 + 1) (lv' := [(2, .int (x2 + 1)), (1, .int (x1 + (0 : Int32))), (0, .ref q)]) hx hb dX4_settledOn_27 hl (k := 2) rfl rfl (by decide) rfl (fun ls hl => ?_)
        refine lv_goto (tgt := 4) hx hb dX4_settledOn_30 (by decide) ?_
        exact ih _ _ hw ls (lv_sub hl [2, 1, 0] rfl)
      · have hw := hw.1 c3
        refine lv_iconst (v := (1 : Int32)) hx hb dX4_settledOn_20 (by decide) ?_
        refine lv_goto (tgt := 25) hx hb dX4_settledOn_21 (by decide) ?_
        refine lv_iadd hx hb dX4_settledOn_25 ?_
        refine lv_istore_n (lv' := [(1, .int (x1 + (1 : Int32))), (0, .ref q), (2, .int x2)]) hx hb dX4_settledOn_26 rfl hl (by decide) rfl (fun ls hl => ?_)
        refine lv_iinc (v := x2 + 1) (lv' := [(2, .int (x2 + 1)), (1, .int (x1 + (1 : Int32))), (0, .ref q)]) hx hb dX4_settledOn_27 hl (k := 2) rfl rfl (by decide) rfl (fun ls hl => ?_)
        refine lv_goto (tgt := 4) hx hb dX4_settledOn_30 (by decide) ?_
        exact ih _ _ hw ls (lv_sub hl [2, 1, 0] rfl)
set_option maxHeartbeats 4000000 in
set_option maxRecDepth 100000 in
theorem t_X4_settledOn {p : Program} {l : Launch} {e : Env} {s : State} {m : MethodId} {args : Array Value} {below : List Frame} {meth : Method} {c : Code} {D : va_G} {cs : Nat → ClassId} {A : Nat → Prop} (hC : MAt p s m args meth c RX4 cX4_settledOn 3 (some .int) wsX4_settledOn D cs) (q : Nat) (F : (Nat → Int32)) (Q : Int32 → Prop) (hw : wp_X4_settledOn F Q) (hP : va_P D vwCl (w_Row cs q 336 F) s.heap) (hD : va_D A (w_Row cs q 336 F)) (ls : Array Slot) (hl : lv_has ls 3 [(0, .ref q)]) : W p l e ({ frames := 2, cells := 0, slots := 0, locals := 43 } : Room) s m args below meth c s.heap [] 0 0 (MQ below (vp_Si Q) args s 0 0 (fun _ => False)) (F0 m 0 ls []) := by
  obtain ⟨hx, hb, hr, hml, hown, hts, hlocks, hKK⟩ := id hC
  have hK := hKK.1
  refine lv_iconst (v := (0 : Int32)) hx hb dX4_settledOn_0 (by decide) ?_
  refine lv_istore_n (lv' := [(1, .int (0 : Int32)), (0, .ref q)]) hx hb dX4_settledOn_1 rfl hl (by decide) rfl (fun ls hl => ?_)
  refine lv_iconst (v := (0 : Int32)) hx hb dX4_settledOn_2 (by decide) ?_
  refine lv_istore_n (lv' := [(2, .int (0 : Int32)), (1, .int (0 : Int32)), (0, .ref q)]) hx hb dX4_settledOn_3 rfl hl (by decide) rfl (fun ls hl => ?_)
  obtain ⟨n4, hw⟩ := hw
  exact t_X4_settledOn_4 hC q _ _ hP hD n4 _ _ hw ls (lv_sub hl [2, 1, 0] rfl)
set_option maxHeartbeats 4000000 in
set_option maxRecDepth 100000 in
theorem c_X4_settledOn (l : Launch) (D : va_G) (cs : Nat → ClassId) (q : Nat) (sz : Nat) (F : (Nat → Int32)) (Q : Int32 → Prop) (hw : wp_X4_settledOn F Q) : Met l yX4_settledOn wsX4_settledOn ({ frames := 2, cells := 0, slots := 0, locals := 43 } : Room) (va_Pc [.ref q] (PC D cs (w_Row cs q 336 F) sz)) (vp_Si Q) 0 0 (fun _ => False) := by
  refine Met.ofW (cc := cX4_settledOn) (maxL := 3) (ret := (some .int)) (by decide) rfl ?_
  intro p e s m args below meth c s₁ B hml hv
  obtain ⟨rfl, hsz, hP, hKK, hD0⟩ := hv
  have hC : MAt p s m _ meth c RX4 cX4_settledOn 3 (some .int) wsX4_settledOn D cs := ⟨B.exec, B.bytes, B.returns, hml, findClass_of_methodNamed B.named, atoms_spec (ws := wsX4_settledOn) B.pre, B.notSynchronized, hKK⟩
  have hl := lv_entry ([.ref q]) (n := 3) (Nat.le_of_ble_eq_true rfl)
  rw [lg_entry_eq]
  generalize (lg_sl ([.ref q]) ++ List.replicate (3 - (lg_sl ([.ref q])).length) Slot.unset).toArray = ls at hl ⊢
  exact t_X4_settledOn hC q F Q hw hP hD0 ls hl
set_option maxHeartbeats 4000000 in
set_option maxRecDepth 100000 in
theorem t_X4_allSettled {p : Program} {l : Launch} {e : Env} {s : State} {m : MethodId} {args : Array Value} {below : List Frame} {meth : Method} {c : Code} {D : va_G} {cs : Nat → ClassId} {A : Nat → Prop} (hC : MAt p s m args meth c RX4 cX4_allSettled 1 (some .boolean) wsX4_allSettled D cs) (q : Nat) (F : (Nat → Int32)) (Q : Int32 → Prop) (hw : wp_X4_allSettled F Q) (hP : va_P D vwCl (w_Row cs q 336 F) s.heap) (hD : va_D A (w_Row cs q 336 F)) (ls : Array Slot) (hl : lv_has ls 1 [(0, .ref q)]) : W p l e ({ frames := 3, cells := 0, slots := 0, locals := 65 } : Room) s m args below meth c s.heap [] 0 0 (MQ below (vp_Si (fun r => (r = 0 ∨ r = 1) ∧ Q r)) args s 0 0 (fun _ => False)) (F0 m 0 ls []) := by
  obtain ⟨hx, hb, hr, hml, hown, hts, hlocks, hKK⟩ := id hC
  have hK := hKK.1
  refine lv_aload_n hx hb dX4_allSettled_0 rfl (lv_at hl 0 rfl) ?_
  refine z_calli (va_runS (As := [.ref q]) (rest := []) ⟨hx, hb, hml, hown, hts⟩ (c_X4_settledOn l D cs q s.heap.size F _ hw) (va_cwS 1 hts gX4_allSettled_X4_settledOn rfl rfl rfl (by decide +kernel) ⟨Nat.le_of_ble_eq_true rfl, Nat.le_of_ble_eq_true rfl⟩) (PC_S hP hD hKK) rfl rfl hl.1 rfl (lv_room (Nat.le_of_ble_eq_true rfl)) dX4_allSettled_1 ⟨Nat.le_of_ble_eq_true rfl, Nat.le_of_ble_eq_true rfl⟩) (fun r1 hw => ?_)
  refine lv_aload_n hx hb dX4_allSettled_4 rfl (lv_at hl 0 rfl) ?_
  refine lv_iconst (v := (0 : Int32)) hx hb dX4_allSettled_5 (by decide) ?_
  refine va_iald hx hb hK hP 0 0 rfl rfl (show vp_in (0 : Int32) 336 by unfold vp_in; decide) dX4_allSettled_6 ?_
  refine lv_icmp_ne (tgt := 14) hx hb dX4_allSettled_7 (by decide) (fun c2 => ?_) (fun c2 => ?_)
  · have hw := hw.2 c2
    refine lv_iconst (v := (0 : Int32)) hx hb dX4_allSettled_14 (by decide) ?_
    exact W.zret (v := (0 : Int32)) hx hb hr rfl (fun t ht hW => ⟨(0 : Int32), rfl, ⟨Or.inl rfl, hw⟩, ht⟩) (fun q h => nomatch h) dX4_allSettled_15 hlocks
  · have hw := hw.1 c2
    refine lv_iconst (v := (1 : Int32)) hx hb dX4_allSettled_10 (by decide) ?_
    refine lv_goto (tgt := 15) hx hb dX4_allSettled_11 (by decide) ?_
    exact W.zret (v := (1 : Int32)) hx hb hr rfl (fun t ht hW => ⟨(1 : Int32), rfl, ⟨Or.inr rfl, hw⟩, ht⟩) (fun q h => nomatch h) dX4_allSettled_15 hlocks
set_option maxHeartbeats 4000000 in
set_option maxRecDepth 100000 in
theorem c_X4_allSettled (l : Launch) (D : va_G) (cs : Nat → ClassId) (q : Nat) (sz : Nat) (F : (Nat → Int32)) (Q : Int32 → Prop) (hw : wp_X4_allSettled F Q) : Met l yX4_allSettled wsX4_allSettled ({ frames := 3, cells := 0, slots := 0, locals := 65 } : Room) (va_Pc [.ref q] (PC D cs (w_Row cs q 336 F) sz)) (vp_Si (fun r => (r = 0 ∨ r = 1) ∧ Q r)) 0 0 (fun _ => False) := by
  refine Met.ofW (cc := cX4_allSettled) (maxL := 1) (ret := (some .boolean)) (by decide) rfl ?_
  intro p e s m args below meth c s₁ B hml hv
  obtain ⟨rfl, hsz, hP, hKK, hD0⟩ := hv
  have hC : MAt p s m _ meth c RX4 cX4_allSettled 1 (some .boolean) wsX4_allSettled D cs := ⟨B.exec, B.bytes, B.returns, hml, findClass_of_methodNamed B.named, atoms_spec (ws := wsX4_allSettled) B.pre, B.notSynchronized, hKK⟩
  have hl := lv_entry ([.ref q]) (n := 1) (Nat.le_of_ble_eq_true rfl)
  rw [lg_entry_eq]
  generalize (lg_sl ([.ref q]) ++ List.replicate (1 - (lg_sl ([.ref q])).length) Slot.unset).toArray = ls at hl ⊢
  exact t_X4_allSettled hC q F Q hw hP hD0 ls hl
set_option maxHeartbeats 4000000 in
set_option maxRecDepth 100000 in
theorem t_X4_areDouble {p : Program} {l : Launch} {e : Env} {s : State} {m : MethodId} {args : Array Value} {below : List Frame} {meth : Method} {c : Code} {D : va_G} {cs : Nat → ClassId} {A : Nat → Prop} (hC : MAt p s m args meth c RX4 cX4_areDouble 3 (some .boolean) wsX4_areDouble D cs) (q : Nat) (F : (Nat → Int32)) (x1 : Int32) (x2 : Int32) (Q : Int32 → Prop) (hw : wp_X4_areDouble F x1 x2 Q) (hP : va_P D vwCl (w_Row cs q 336 F) s.heap) (hD : va_D A (w_Row cs q 336 F)) (ls : Array Slot) (hl : lv_has ls 3 [(0, .ref q), (1, .int x1), (2, .int x2)]) : W p l e ({ frames := 0, cells := 0, slots := 0, locals := 0 } : Room) s m args below meth c s.heap [] 0 0 (MQ below (vp_Si (fun r => (r = 0 ∨ r = 1) ∧ Q r)) args s 0 0 (fun _ => False)) (F0 m 0 ls []) := by
  obtain ⟨hx, hb, hr, hml, hown, hts, hlocks, hKK⟩ := id hC
  have hK := hKK.1
  refine lv_aload_n hx hb dX4_areDouble_0 rfl (lv_at hl 0 rfl) ?_
  refine lv_sipush (v := (136 : Int32)) hx hb dX4_areDouble_1 (by decide) ?_
  refine lv_iconst (v := (4 : Int32)) hx hb dX4_areDouble_4 (by decide) ?_
  refine lv_iload_n hx hb dX4_areDouble_5 rfl (lv_at hl 1 rfl) ?_
  refine lv_imul hx hb dX4_areDouble_6 ?_
  refine lv_iadd hx hb dX4_areDouble_7 ?_
  obtain ⟨h1, hw⟩ := hw
  refine va_iald hx hb hK hP 0 0 rfl rfl h1 dX4_areDouble_8 ?_
  refine lv_aload_n hx hb dX4_areDouble_9 rfl (lv_at hl 0 rfl) ?_
  refine lv_sipush (v := (136 : Int32)) hx hb dX4_areDouble_10 (by decide) ?_
  refine lv_iconst (v := (4 : Int32)) hx hb dX4_areDouble_13 (by decide) ?_
  refine lv_iload_n hx hb dX4_areDouble_14 rfl (lv_at hl 2 rfl) ?_
  refine lv_imul hx hb dX4_areDouble_15 ?_
  refine lv_iadd hx hb dX4_areDouble_16 ?_
  obtain ⟨h2, hw⟩ := hw
  refine va_iald hx hb hK hP 0 0 rfl rfl h2 dX4_areDouble_17 ?_
  refine lv_icmp_ne (tgt := 50) hx hb dX4_areDouble_18 (by decide) (fun c3 => ?_) (fun c3 => ?_)
  · have hw := hw.2 c3
    refine lv_iconst (v := (0 : Int32)) hx hb dX4_areDouble_50 (by decide) ?_
    exact W.zret (v := (0 : Int32)) hx hb hr rfl (fun t ht hW => ⟨(0 : Int32), rfl, ⟨Or.inl rfl, hw⟩, ht⟩) (fun q h => nomatch h) dX4_areDouble_51 hlocks
  · have hw := hw.1 c3
    refine lv_aload_n hx hb dX4_areDouble_21 rfl (lv_at hl 0 rfl) ?_
    refine lv_sipush (v := (136 : Int32)) hx hb dX4_areDouble_22 (by decide) ?_
    refine lv_iconst (v := (4 : Int32)) hx hb dX4_areDouble_25 (by decide) ?_
    refine lv_iload_n hx hb dX4_areDouble_26 rfl (lv_at hl 1 rfl) ?_
    refine lv_imul hx hb dX4_areDouble_27 ?_
    refine lv_iadd hx hb dX4_areDouble_28 ?_
    refine lv_iconst (v := (1 : Int32)) hx hb dX4_areDouble_29 (by decide) ?_
    refine lv_iadd hx hb dX4_areDouble_30 ?_
    obtain ⟨h4, hw⟩ := hw
    refine va_iald hx hb hK hP 0 0 rfl rfl h4 dX4_areDouble_31 ?_
    refine lv_aload_n hx hb dX4_areDouble_32 rfl (lv_at hl 0 rfl) ?_
    refine lv_sipush (v := (136 : Int32)) hx hb dX4_areDouble_33 (by decide) ?_
    refine lv_iconst (v := (4 : Int32)) hx hb dX4_areDouble_36 (by decide) ?_
    refine lv_iload_n hx hb dX4_areDouble_37 rfl (lv_at hl 2 rfl) ?_
    refine lv_imul hx hb dX4_areDouble_38 ?_
    refine lv_iadd hx hb dX4_areDouble_39 ?_
    refine lv_iconst (v := (1 : Int32)) hx hb dX4_areDouble_40 (by decide) ?_
    refine lv_iadd hx hb dX4_areDouble_41 ?_
    obtain ⟨h5, hw⟩ := hw
    refine va_iald hx hb hK hP 0 0 rfl rfl h5 dX4_areDouble_42 ?_
    refine lv_icmp_ne (tgt := 50) hx hb dX4_areDouble_43 (by decide) (fun c6 => ?_) (fun c6 => ?_)
    · have hw := hw.2 c6
      refine lv_iconst (v := (0 : Int32)) hx hb dX4_areDouble_50 (by decide) ?_
      exact W.zret (v := (0 : Int32)) hx hb hr rfl (fun t ht hW => ⟨(0 : Int32), rfl, ⟨Or.inl rfl, hw⟩, ht⟩) (fun q h => nomatch h) dX4_areDouble_51 hlocks
    · have hw := hw.1 c6
      refine lv_iconst (v := (1 : Int32)) hx hb dX4_areDouble_46 (by decide) ?_
      refine lv_goto (tgt := 51) hx hb dX4_areDouble_47 (by decide) ?_
      exact W.zret (v := (1 : Int32)) hx hb hr rfl (fun t ht hW => ⟨(1 : Int32), rfl, ⟨Or.inr rfl, hw⟩, ht⟩) (fun q h => nomatch h) dX4_areDouble_51 hlocks
set_option maxHeartbeats 4000000 in
set_option maxRecDepth 100000 in
theorem c_X4_areDouble (l : Launch) (D : va_G) (cs : Nat → ClassId) (q : Nat) (sz : Nat) (F : (Nat → Int32)) (x1 : Int32) (x2 : Int32) (Q : Int32 → Prop) (hw : wp_X4_areDouble F x1 x2 Q) : Met l yX4_areDouble wsX4_areDouble ({ frames := 0, cells := 0, slots := 0, locals := 0 } : Room) (va_Pc [.ref q, .int x1, .int x2] (PC D cs (w_Row cs q 336 F) sz)) (vp_Si (fun r => (r = 0 ∨ r = 1) ∧ Q r)) 0 0 (fun _ => False) := by
  refine Met.ofW (cc := cX4_areDouble) (maxL := 3) (ret := (some .boolean)) (by decide) rfl ?_
  intro p e s m args below meth c s₁ B hml hv
  obtain ⟨rfl, hsz, hP, hKK, hD0⟩ := hv
  have hC : MAt p s m _ meth c RX4 cX4_areDouble 3 (some .boolean) wsX4_areDouble D cs := ⟨B.exec, B.bytes, B.returns, hml, findClass_of_methodNamed B.named, atoms_spec (ws := wsX4_areDouble) B.pre, B.notSynchronized, hKK⟩
  have hl := lv_entry ([.ref q, .int x1, .int x2]) (n := 3) (Nat.le_of_ble_eq_true rfl)
  rw [lg_entry_eq]
  generalize (lg_sl ([.ref q, .int x1, .int x2]) ++ List.replicate (3 - (lg_sl ([.ref q, .int x1, .int x2])).length) Slot.unset).toArray = ls at hl ⊢
  exact t_X4_areDouble hC q F x1 x2 Q hw hP hD0 ls hl
set_option maxHeartbeats 4000000 in
set_option maxRecDepth 100000 in
theorem t_X4_doublesOf_4 {p : Program} {l : Launch} {e : Env} {s : State} {m : MethodId} {args : Array Value} {below : List Frame} {meth : Method} {c : Code} {D : va_G} {cs : Nat → ClassId} {A : Nat → Prop} (hC : MAt p s m args meth c RX4 cX4_doublesOf 4 (some .int) wsX4_doublesOf D cs) (q : Nat) (F : (Nat → Int32)) (x1 : Int32) (Q : Int32 → Prop) (hP : va_P D vwCl (w_Row cs q 336 F) s.heap) (hD : va_D A (w_Row cs q 336 F)) : ∀ (n : Nat) (x2 : Int32) (x3 : Int32), wl_X4_doublesOf_4 F x1 Q n x2 x3 → ∀ ls : Array Slot, lv_has ls 4 [(0, .ref q), (1, .int x1), (2, .int x2), (3, .int x3)] → W p l e ({ frames := 1, cells := 0, slots := 0, locals := 22 } : Room) s m args below meth c s.heap [] 0 0 (MQ below (vp_Si Q) args s 0 0 (fun _ => False)) (F0 m 4 ls []) := by
  obtain ⟨hx, hb, hr, hml, hown, hts, hlocks, hKK⟩ := id hC
  have hK := hKK.1
  intro n
  induction n with
  | zero =>
    intro x2 x3 hw
    exact False.elim hw
  | succ n ih =>
    intro x2 x3 hw ls hl
    refine lv_iload_n hx hb dX4_doublesOf_4 rfl (lv_at hl 3 rfl) ?_
    refine lv_aload_n hx hb dX4_doublesOf_5 rfl (lv_at hl 0 rfl) ?_
    refine lv_iconst (v := (3 : Int32)) hx hb dX4_doublesOf_6 (by decide) ?_
    refine va_iald hx hb hK hP 0 0 rfl rfl (show vp_in (3 : Int32) 336 by unfold vp_in; decide) dX4_doublesOf_7 ?_
    refine lv_icmp_ge (tgt := 39) hx hb dX4_doublesOf_8 (by decide) (fun c1 => ?_) (fun c1 => ?_)
    · have hw := hw.1 c1
      refine lv_iload_n hx hb dX4_doublesOf_39 rfl (lv_at hl 2 rfl) ?_
      exact W.iret (v := x2) hx hb hr (fun t ht hW => ⟨x2, rfl, hw, ht⟩) (fun q h => nomatch h) dX4_doublesOf_40 hlocks
    · have hw := hw.2 c1
      refine lv_iload_n hx hb dX4_doublesOf_11 rfl (lv_at hl 2 rfl) ?_
      refine lv_iload_n hx hb dX4_doublesOf_12 rfl (lv_at hl 3 rfl) ?_
      refine lv_iload_n hx hb dX4_doublesOf_13 rfl (lv_at hl 1 rfl) ?_
      refine lv_icmp_eq (tgt := 30) hx hb dX4_doublesOf_14 (by decide) (fun c2 => ?_) (fun c2 => ?_)
      · have hw := hw.1 c2
        refine lv_iconst (v := (0 : Int32)) hx hb dX4_doublesOf_30 (by decide) ?_
        refine lv_iadd hx hb dX4_doublesOf_31 ?_
        refine lv_istore_n (lv' := [(2, .int (x2 + (0 : Int32))), (0, .ref q), (1, .int x1), (3, .int x3)]) hx hb dX4_doublesOf_32 rfl hl (by decide) rfl (fun ls hl => ?_)
        refine lv_iinc (v := x3 + 1) (lv' := [(3, .int (x3 + 1)), (2, .int (x2 + (0 : Int32))), (0, .ref q), (1, .int x1)]) hx hb dX4_doublesOf_33 hl (k := 3) rfl rfl (by decide) rfl (fun ls hl => ?_)
        refine lv_goto (tgt := 4) hx hb dX4_doublesOf_36 (by decide) ?_
        exact ih _ _ hw ls (lv_sub hl [2, 3, 1, 0] rfl)
      · have hw := hw.2 c2
        refine lv_aload_n hx hb dX4_doublesOf_17 rfl (lv_at hl 0 rfl) ?_
        refine lv_iload_n hx hb dX4_doublesOf_18 rfl (lv_at hl 1 rfl) ?_
        refine lv_iload_n hx hb dX4_doublesOf_19 rfl (lv_at hl 3 rfl) ?_
        refine z_calli (va_runS (As := [.ref q, .int x1, .int x3]) (rest := [.int x2]) ⟨hx, hb, hml, hown, hts⟩ (c_X4_areDouble l D cs q s.heap.size F x1 x3 _ hw) (va_cwS 3 hts gX4_doublesOf_X4_areDouble rfl rfl rfl (by decide +kernel) ⟨Nat.le_of_ble_eq_true rfl, Nat.le_of_ble_eq_true rfl⟩) (PC_S hP hD hKK) rfl rfl hl.1 rfl (lv_room (Nat.le_of_ble_eq_true rfl)) dX4_doublesOf_20 ⟨Nat.le_of_ble_eq_true rfl, Nat.le_of_ble_eq_true rfl⟩) (fun r3 hw => ?_)
        obtain ⟨b3, hw⟩ := hw
        refine lv_if_eq (tgt := 30) hx hb dX4_doublesOf_23 (by decide) (fun c4 => ?_) (fun c4 => ?_)
        · have hw := hw.1 c4
          refine lv_iconst (v := (0 : Int32)) hx hb dX4_doublesOf_30 (by decide) ?_
          refine lv_iadd hx hb dX4_doublesOf_31 ?_
          refine lv_istore_n (lv' := [(2, .int (x2 + (0 : Int32))), (0, .ref q), (1, .int x1), (3, .int x3)]) hx hb dX4_doublesOf_32 rfl hl (by decide) rfl (fun ls hl => ?_)
          refine lv_iinc (v := x3 + 1) (lv' := [(3, .int (x3 + 1)), (2, .int (x2 + (0 : Int32))), (0, .ref q), (1, .int x1)]) hx hb dX4_doublesOf_33 hl (k := 3) rfl rfl (by decide) rfl (fun ls hl => ?_)
          refine lv_goto (tgt := 4) hx hb dX4_doublesOf_36 (by decide) ?_
          exact ih _ _ hw ls (lv_sub hl [2, 3, 1, 0] rfl)
        · have hw := hw.2 c4
          refine lv_iconst (v := (1 : Int32)) hx hb dX4_doublesOf_26 (by decide) ?_
          refine lv_goto (tgt := 31) hx hb dX4_doublesOf_27 (by decide) ?_
          refine lv_iadd hx hb dX4_doublesOf_31 ?_
          refine lv_istore_n (lv' := [(2, .int (x2 + (1 : Int32))), (0, .ref q), (1, .int x1), (3, .int x3)]) hx hb dX4_doublesOf_32 rfl hl (by decide) rfl (fun ls hl => ?_)
          refine lv_iinc (v := x3 + 1) (lv' := [(3, .int (x3 + 1)), (2, .int (x2 + (1 : Int32))), (0, .ref q), (1, .int x1)]) hx hb dX4_doublesOf_33 hl (k := 3) rfl rfl (by decide) rfl (fun ls hl => ?_)
          refine lv_goto (tgt := 4) hx hb dX4_doublesOf_36 (by decide) ?_
          exact ih _ _ hw ls (lv_sub hl [2, 3, 1, 0] rfl)
set_option maxHeartbeats 4000000 in
set_option maxRecDepth 100000 in
theorem t_X4_doublesOf {p : Program} {l : Launch} {e : Env} {s : State} {m : MethodId} {args : Array Value} {below : List Frame} {meth : Method} {c : Code} {D : va_G} {cs : Nat → ClassId} {A : Nat → Prop} (hC : MAt p s m args meth c RX4 cX4_doublesOf 4 (some .int) wsX4_doublesOf D cs) (q : Nat) (F : (Nat → Int32)) (x1 : Int32) (Q : Int32 → Prop) (hw : wp_X4_doublesOf F x1 Q) (hP : va_P D vwCl (w_Row cs q 336 F) s.heap) (hD : va_D A (w_Row cs q 336 F)) (ls : Array Slot) (hl : lv_has ls 4 [(0, .ref q), (1, .int x1)]) : W p l e ({ frames := 1, cells := 0, slots := 0, locals := 22 } : Room) s m args below meth c s.heap [] 0 0 (MQ below (vp_Si Q) args s 0 0 (fun _ => False)) (F0 m 0 ls []) := by
  obtain ⟨hx, hb, hr, hml, hown, hts, hlocks, hKK⟩ := id hC
  have hK := hKK.1
  refine lv_iconst (v := (0 : Int32)) hx hb dX4_doublesOf_0 (by decide) ?_
  refine lv_istore_n (lv' := [(2, .int (0 : Int32)), (0, .ref q), (1, .int x1)]) hx hb dX4_doublesOf_1 rfl hl (by decide) rfl (fun ls hl => ?_)
  refine lv_iconst (v := (0 : Int32)) hx hb dX4_doublesOf_2 (by decide) ?_
  refine lv_istore_n (lv' := [(3, .int (0 : Int32)), (2, .int (0 : Int32)), (0, .ref q), (1, .int x1)]) hx hb dX4_doublesOf_3 rfl hl (by decide) rfl (fun ls hl => ?_)
  obtain ⟨n5, hw⟩ := hw
  exact t_X4_doublesOf_4 hC q _ _ _ hP hD n5 _ _ hw ls (lv_sub hl [2, 3, 1, 0] rfl)
set_option maxHeartbeats 4000000 in
set_option maxRecDepth 100000 in
theorem c_X4_doublesOf (l : Launch) (D : va_G) (cs : Nat → ClassId) (q : Nat) (sz : Nat) (F : (Nat → Int32)) (x1 : Int32) (Q : Int32 → Prop) (hw : wp_X4_doublesOf F x1 Q) : Met l yX4_doublesOf wsX4_doublesOf ({ frames := 1, cells := 0, slots := 0, locals := 22 } : Room) (va_Pc [.ref q, .int x1] (PC D cs (w_Row cs q 336 F) sz)) (vp_Si Q) 0 0 (fun _ => False) := by
  refine Met.ofW (cc := cX4_doublesOf) (maxL := 4) (ret := (some .int)) (by decide) rfl ?_
  intro p e s m args below meth c s₁ B hml hv
  obtain ⟨rfl, hsz, hP, hKK, hD0⟩ := hv
  have hC : MAt p s m _ meth c RX4 cX4_doublesOf 4 (some .int) wsX4_doublesOf D cs := ⟨B.exec, B.bytes, B.returns, hml, findClass_of_methodNamed B.named, atoms_spec (ws := wsX4_doublesOf) B.pre, B.notSynchronized, hKK⟩
  have hl := lv_entry ([.ref q, .int x1]) (n := 4) (Nat.le_of_ble_eq_true rfl)
  rw [lg_entry_eq]
  generalize (lg_sl ([.ref q, .int x1]) ++ List.replicate (4 - (lg_sl ([.ref q, .int x1])).length) Slot.unset).toArray = ls at hl ⊢
  exact t_X4_doublesOf hC q F x1 Q hw hP hD0 ls hl
set_option maxHeartbeats 4000000 in
set_option maxRecDepth 100000 in
theorem t_X4_doublesOn_4 {p : Program} {l : Launch} {e : Env} {s : State} {m : MethodId} {args : Array Value} {below : List Frame} {meth : Method} {c : Code} {D : va_G} {cs : Nat → ClassId} {A : Nat → Prop} (hC : MAt p s m args meth c RX4 cX4_doublesOn 3 (some .int) wsX4_doublesOn D cs) (q : Nat) (F : (Nat → Int32)) (Q : Int32 → Prop) (hP : va_P D vwCl (w_Row cs q 336 F) s.heap) (hD : va_D A (w_Row cs q 336 F)) : ∀ (n : Nat) (x1 : Int32) (x2 : Int32), wl_X4_doublesOn_4 F Q n x1 x2 → ∀ ls : Array Slot, lv_has ls 3 [(0, .ref q), (1, .int x1), (2, .int x2)] → W p l e ({ frames := 2, cells := 0, slots := 0, locals := 45 } : Room) s m args below meth c s.heap [] 0 0 (MQ below (vp_Si Q) args s 0 0 (fun _ => False)) (F0 m 4 ls []) := by
  obtain ⟨hx, hb, hr, hml, hown, hts, hlocks, hKK⟩ := id hC
  have hK := hKK.1
  intro n
  induction n with
  | zero =>
    intro x1 x2 hw
    exact False.elim hw
  | succ n ih =>
    intro x1 x2 hw ls hl
    refine lv_iload_n hx hb dX4_doublesOn_4 rfl (lv_at hl 2 rfl) ?_
    refine lv_aload_n hx hb dX4_doublesOn_5 rfl (lv_at hl 0 rfl) ?_
    refine lv_iconst (v := (3 : Int32)) hx hb dX4_doublesOn_6 (by decide) ?_
    refine va_iald hx hb hK hP 0 0 rfl rfl (show vp_in (3 : Int32) 336 by unfold vp_in; decide) dX4_doublesOn_7 ?_
    refine lv_icmp_ge (tgt := 25) hx hb dX4_doublesOn_8 (by decide) (fun c1 => ?_) (fun c1 => ?_)
    · have hw := hw.1 c1
      refine lv_iload_n hx hb dX4_doublesOn_25 rfl (lv_at hl 1 rfl) ?_
      refine lv_iconst (v := (2 : Int32)) hx hb dX4_doublesOn_26 (by decide) ?_
      refine lv_idiv hx hb dX4_doublesOn_27 (by decide) ?_
      exact W.iret (v := x1 / (2 : Int32)) hx hb hr (fun t ht hW => ⟨x1 / (2 : Int32), rfl, hw, ht⟩) (fun q h => nomatch h) dX4_doublesOn_28 hlocks
    · have hw := hw.2 c1
      refine lv_iload_n hx hb dX4_doublesOn_11 rfl (lv_at hl 1 rfl) ?_
      refine lv_aload_n hx hb dX4_doublesOn_12 rfl (lv_at hl 0 rfl) ?_
      refine lv_iload_n hx hb dX4_doublesOn_13 rfl (lv_at hl 2 rfl) ?_
      refine z_calli (va_runS (As := [.ref q, .int x2]) (rest := [.int x1]) ⟨hx, hb, hml, hown, hts⟩ (c_X4_doublesOf l D cs q s.heap.size F x2 _ hw) (va_cwS 2 hts gX4_doublesOn_X4_doublesOf rfl rfl rfl (by decide +kernel) ⟨Nat.le_of_ble_eq_true rfl, Nat.le_of_ble_eq_true rfl⟩) (PC_S hP hD hKK) rfl rfl hl.1 rfl (lv_room (Nat.le_of_ble_eq_true rfl)) dX4_doublesOn_14 ⟨Nat.le_of_ble_eq_true rfl, Nat.le_of_ble_eq_true rfl⟩) (fun r2 hw => ?_)
      refine lv_iadd hx hb dX4_doublesOn_17 ?_
      refine lv_istore_n (lv' := [(1, .int (x1 + r2)), (0, .ref q), (2, .int x2)]) hx hb dX4_doublesOn_18 rfl hl (by decide) rfl (fun ls hl => ?_)
      refine lv_iinc (v := x2 + 1) (lv' := [(2, .int (x2 + 1)), (1, .int (x1 + r2)), (0, .ref q)]) hx hb dX4_doublesOn_19 hl (k := 2) rfl rfl (by decide) rfl (fun ls hl => ?_)
      refine lv_goto (tgt := 4) hx hb dX4_doublesOn_22 (by decide) ?_
      exact ih _ _ hw ls (lv_sub hl [2, 1, 0] rfl)
set_option maxHeartbeats 4000000 in
set_option maxRecDepth 100000 in
theorem t_X4_doublesOn {p : Program} {l : Launch} {e : Env} {s : State} {m : MethodId} {args : Array Value} {below : List Frame} {meth : Method} {c : Code} {D : va_G} {cs : Nat → ClassId} {A : Nat → Prop} (hC : MAt p s m args meth c RX4 cX4_doublesOn 3 (some .int) wsX4_doublesOn D cs) (q : Nat) (F : (Nat → Int32)) (Q : Int32 → Prop) (hw : wp_X4_doublesOn F Q) (hP : va_P D vwCl (w_Row cs q 336 F) s.heap) (hD : va_D A (w_Row cs q 336 F)) (ls : Array Slot) (hl : lv_has ls 3 [(0, .ref q)]) : W p l e ({ frames := 2, cells := 0, slots := 0, locals := 45 } : Room) s m args below meth c s.heap [] 0 0 (MQ below (vp_Si Q) args s 0 0 (fun _ => False)) (F0 m 0 ls []) := by
  obtain ⟨hx, hb, hr, hml, hown, hts, hlocks, hKK⟩ := id hC
  have hK := hKK.1
  refine lv_iconst (v := (0 : Int32)) hx hb dX4_doublesOn_0 (by decide) ?_
  refine lv_istore_n (lv' := [(1, .int (0 : Int32)), (0, .ref q)]) hx hb dX4_doublesOn_1 rfl hl (by decide) rfl (fun ls hl => ?_)
  refine lv_iconst (v := (0 : Int32)) hx hb dX4_doublesOn_2 (by decide) ?_
  refine lv_istore_n (lv' := [(2, .int (0 : Int32)), (1, .int (0 : Int32)), (0, .ref q)]) hx hb dX4_doublesOn_3 rfl hl (by decide) rfl (fun ls hl => ?_)
  obtain ⟨n3, hw⟩ := hw
  exact t_X4_doublesOn_4 hC q _ _ hP hD n3 _ _ hw ls (lv_sub hl [2, 1, 0] rfl)
set_option maxHeartbeats 4000000 in
set_option maxRecDepth 100000 in
theorem c_X4_doublesOn (l : Launch) (D : va_G) (cs : Nat → ClassId) (q : Nat) (sz : Nat) (F : (Nat → Int32)) (Q : Int32 → Prop) (hw : wp_X4_doublesOn F Q) : Met l yX4_doublesOn wsX4_doublesOn ({ frames := 2, cells := 0, slots := 0, locals := 45 } : Room) (va_Pc [.ref q] (PC D cs (w_Row cs q 336 F) sz)) (vp_Si Q) 0 0 (fun _ => False) := by
  refine Met.ofW (cc := cX4_doublesOn) (maxL := 3) (ret := (some .int)) (by decide) rfl ?_
  intro p e s m args below meth c s₁ B hml hv
  obtain ⟨rfl, hsz, hP, hKK, hD0⟩ := hv
  have hC : MAt p s m _ meth c RX4 cX4_doublesOn 3 (some .int) wsX4_doublesOn D cs := ⟨B.exec, B.bytes, B.returns, hml, findClass_of_methodNamed B.named, atoms_spec (ws := wsX4_doublesOn) B.pre, B.notSynchronized, hKK⟩
  have hl := lv_entry ([.ref q]) (n := 3) (Nat.le_of_ble_eq_true rfl)
  rw [lg_entry_eq]
  generalize (lg_sl ([.ref q]) ++ List.replicate (3 - (lg_sl ([.ref q])).length) Slot.unset).toArray = ls at hl ⊢
  exact t_X4_doublesOn hC q F Q hw hP hD0 ls hl
set_option maxHeartbeats 4000000 in
set_option maxRecDepth 100000 in
theorem t_X4_reading {p : Program} {l : Launch} {e : Env} {s : State} {m : MethodId} {args : Array Value} {below : List Frame} {meth : Method} {c : Code} {D : va_G} {cs : Nat → ClassId} {A : Nat → Prop} (hC : MAt p s m args meth c RX4 cX4_reading 3 (some .long) wsX4_reading D cs) (q : Nat) (F : (Nat → Int32)) (x1 : Int32) (x2 : Int32) (Q : Int64 → Prop) (hw : wp_X4_reading F x1 x2 Q) (hP : va_P D vwCl (w_Row cs q 336 F) s.heap) (hD : va_D A (w_Row cs q 336 F)) (ls : Array Slot) (hl : lv_has ls 3 [(0, .ref q), (1, .int x1), (2, .int x2)]) : W p l e ({ frames := 2, cells := 0, slots := 0, locals := 44 } : Room) s m args below meth c s.heap [] 0 0 (MQ below (vp_Sl Q) args s 0 0 (fun _ => False)) (F0 m 0 ls []) := by
  obtain ⟨hx, hb, hr, hml, hown, hts, hlocks, hKK⟩ := id hC
  have hK := hKK.1
  refine lv_iload_n hx hb dX4_reading_0 rfl (lv_at hl 2 rfl) ?_
  refine lv_if_eq (tgt := 12) hx hb dX4_reading_1 (by decide) (fun c1 => ?_) (fun c1 => ?_)
  · have hw := hw.1 c1
    refine lv_aload_n hx hb dX4_reading_12 rfl (lv_at hl 0 rfl) ?_
    refine lv_iload_n hx hb dX4_reading_13 rfl (lv_at hl 1 rfl) ?_
    refine z_calli (va_runS (As := [.ref q, .int x1]) (rest := []) ⟨hx, hb, hml, hown, hts⟩ (c_X4_shownOn l D cs q s.heap.size F x1 _ hw) (va_cwS 2 hts gX4_reading_X4_shownOn rfl rfl rfl (by decide +kernel) ⟨Nat.le_of_ble_eq_true rfl, Nat.le_of_ble_eq_true rfl⟩) (PC_S hP hD hKK) rfl rfl hl.1 rfl (lv_room (Nat.le_of_ble_eq_true rfl)) dX4_reading_14 ⟨Nat.le_of_ble_eq_true rfl, Nat.le_of_ble_eq_true rfl⟩) (fun r2 hw => ?_)
    refine lv_i2l (v := r2.toInt64) hx hb dX4_reading_17 rfl ?_
    exact W.lret (v := r2.toInt64) hx hb hr (fun t ht hW => ⟨r2.toInt64, rfl, hw, ht⟩) (fun q h => nomatch h) dX4_reading_18 hlocks
  · have hw := hw.2 c1
    refine lv_aload_n hx hb dX4_reading_4 rfl (lv_at hl 0 rfl) ?_
    refine lv_iload_n hx hb dX4_reading_5 rfl (lv_at hl 1 rfl) ?_
    refine z_calll (va_runS (As := [.ref q, .int x1]) (rest := []) ⟨hx, hb, hml, hown, hts⟩ (c_X4_worthOn l D cs q s.heap.size F x1 _ hw) (va_cwS 2 hts gX4_reading_X4_worthOn rfl rfl rfl (by decide +kernel) ⟨Nat.le_of_ble_eq_true rfl, Nat.le_of_ble_eq_true rfl⟩) (PC_S hP hD hKK) rfl rfl hl.1 rfl (lv_room (Nat.le_of_ble_eq_true rfl)) dX4_reading_6 ⟨Nat.le_of_ble_eq_true rfl, Nat.le_of_ble_eq_true rfl⟩) (fun r3 hw => ?_)
    refine lv_goto (tgt := 18) hx hb dX4_reading_9 (by decide) ?_
    exact W.lret (v := r3) hx hb hr (fun t ht hW => ⟨r3, rfl, hw, ht⟩) (fun q h => nomatch h) dX4_reading_18 hlocks
set_option maxHeartbeats 4000000 in
set_option maxRecDepth 100000 in
theorem c_X4_reading (l : Launch) (D : va_G) (cs : Nat → ClassId) (q : Nat) (sz : Nat) (F : (Nat → Int32)) (x1 : Int32) (x2 : Int32) (Q : Int64 → Prop) (hw : wp_X4_reading F x1 x2 Q) : Met l yX4_reading wsX4_reading ({ frames := 2, cells := 0, slots := 0, locals := 44 } : Room) (va_Pc [.ref q, .int x1, .int x2] (PC D cs (w_Row cs q 336 F) sz)) (vp_Sl Q) 0 0 (fun _ => False) := by
  refine Met.ofW (cc := cX4_reading) (maxL := 3) (ret := (some .long)) (by decide) rfl ?_
  intro p e s m args below meth c s₁ B hml hv
  obtain ⟨rfl, hsz, hP, hKK, hD0⟩ := hv
  have hC : MAt p s m _ meth c RX4 cX4_reading 3 (some .long) wsX4_reading D cs := ⟨B.exec, B.bytes, B.returns, hml, findClass_of_methodNamed B.named, atoms_spec (ws := wsX4_reading) B.pre, B.notSynchronized, hKK⟩
  have hl := lv_entry ([.ref q, .int x1, .int x2]) (n := 3) (Nat.le_of_ble_eq_true rfl)
  rw [lg_entry_eq]
  generalize (lg_sl ([.ref q, .int x1, .int x2]) ++ List.replicate (3 - (lg_sl ([.ref q, .int x1, .int x2])).length) Slot.unset).toArray = ls at hl ⊢
  exact t_X4_reading hC q F x1 x2 Q hw hP hD0 ls hl
set_option maxHeartbeats 4000000 in
set_option maxRecDepth 100000 in
theorem t_X4_fits_14 {p : Program} {l : Launch} {e : Env} {s : State} {m : MethodId} {args : Array Value} {below : List Frame} {meth : Method} {c : Code} {D : va_G} {cs : Nat → ClassId} {A : Nat → Prop} (hC : MAt p s m args meth c RX4 cX4_fits 5 (some .boolean) wsX4_fits D cs) (q : Nat) (F : (Nat → Int32)) (x1 : Int32) (Q : Int32 → Prop) (hP : va_P D vwCl (w_Row cs q 336 F) s.heap) (hD : va_D A (w_Row cs q 336 F)) : ∀ (n : Nat) (x3 : Int32) (x4 : Int32), wl_X4_fits_14 F x1 Q n x3 x4 → ∀ ls : Array Slot, lv_has ls 5 [(0, .ref q), (1, .int x1), (3, .int x3), (4, .int x4)] → W p l e ({ frames := 1, cells := 0, slots := 0, locals := 20 } : Room) s m args below meth c s.heap [] 0 0 (MQ below (vp_Si (fun r => (r = 0 ∨ r = 1) ∧ Q r)) args s 0 0 (fun _ => False)) (F0 m 14 ls []) := by
  obtain ⟨hx, hb, hr, hml, hown, hts, hlocks, hKK⟩ := id hC
  have hK := hKK.1
  intro n
  induction n with
  | zero =>
    intro x3 x4 hw
    exact False.elim hw
  | succ n ih =>
    intro x3 x4 hw ls hl
    refine lv_iload hx hb dX4_fits_14 (lv_at hl 3 rfl) ?_
    refine lv_aload_n hx hb dX4_fits_16 rfl (lv_at hl 0 rfl) ?_
    refine lv_iload_n hx hb dX4_fits_17 rfl (lv_at hl 1 rfl) ?_
    have hPc := hP.sub (ws' := ([] : va_W)) [] rfl
    have hDc := hD.sub (ws' := ([] : va_W)) [] (by decide) rfl
    refine z_calli (va_runS (As := [.int x1]) (rest := [.ref q, .int x4]) ⟨hx, hb, hml, hown, hts⟩ (c_X4_at l D cs  s.heap.size x1 _ hw) (va_cwS 1 hts gX4_fits_X4_at rfl rfl rfl (by decide +kernel) ⟨Nat.le_of_ble_eq_true rfl, Nat.le_of_ble_eq_true rfl⟩) (PC_S hPc hDc hKK) rfl rfl hl.1 rfl (lv_room (Nat.le_of_ble_eq_true rfl)) dX4_fits_18 ⟨Nat.le_of_ble_eq_true rfl, Nat.le_of_ble_eq_true rfl⟩) (fun r2 hw => ?_)
    refine lv_iconst (v := (0 : Int32)) hx hb dX4_fits_21 (by decide) ?_
    refine lv_iadd hx hb dX4_fits_22 ?_
    obtain ⟨h3, hw⟩ := hw
    refine va_iald hx hb hK hP 0 0 rfl rfl h3 dX4_fits_23 ?_
    refine lv_icmp_ge (tgt := 37) hx hb dX4_fits_24 (by decide) (fun c4 => ?_) (fun c4 => ?_)
    · have hw := hw.1 c4
      refine lv_iload_n hx hb dX4_fits_37 rfl (lv_at hl 2 rfl) ?_
      refine lv_if_ne (tgt := 45) hx hb dX4_fits_38 (by decide) (fun c5 => ?_) (fun c5 => ?_)
      · have hw := hw.2 c5
        refine lv_iconst (v := (0 : Int32)) hx hb dX4_fits_45 (by decide) ?_
        exact W.zret (v := (0 : Int32)) hx hb hr rfl (fun t ht hW => ⟨(0 : Int32), rfl, ⟨Or.inl rfl, hw⟩, ht⟩) (fun q h => nomatch h) dX4_fits_46 hlocks
      · have hw := hw.1 c5
        refine lv_iconst (v := (1 : Int32)) hx hb dX4_fits_41 (by decide) ?_
        refine lv_goto (tgt := 46) hx hb dX4_fits_42 (by decide) ?_
        exact W.zret (v := (1 : Int32)) hx hb hr rfl (fun t ht hW => ⟨(1 : Int32), rfl, ⟨Or.inr rfl, hw⟩, ht⟩) (fun q h => nomatch h) dX4_fits_46 hlocks
    · have hw := hw.2 c4
      refine lv_iload_n hx hb dX4_fits_27 rfl (lv_at hl 2 rfl) ?_
      refine lv_iconst (v := (3 : Int32)) hx hb dX4_fits_28 (by decide) ?_
      refine lv_idiv hx hb dX4_fits_29 (by decide) ?_
      refine lv_istore_n (lv' := [(3, .int (x3 / (3 : Int32))), (0, .ref q), (1, .int x1), (4, .int x4)]) hx hb dX4_fits_30 rfl hl (by decide) rfl (fun ls hl => ?_)
      refine lv_iinc (v := x4 + 1) (lv' := [(4, .int (x4 + 1)), (3, .int (x3 / (3 : Int32))), (0, .ref q), (1, .int x1)]) hx hb dX4_fits_31 hl (k := 3) rfl rfl (by decide) rfl (fun ls hl => ?_)
      refine lv_goto (tgt := 14) hx hb dX4_fits_34 (by decide) ?_
      exact ih _ _ hw ls (lv_sub hl [2, 3, 1, 0] rfl)
set_option maxHeartbeats 4000000 in
set_option maxRecDepth 100000 in
theorem t_X4_fits {p : Program} {l : Launch} {e : Env} {s : State} {m : MethodId} {args : Array Value} {below : List Frame} {meth : Method} {c : Code} {D : va_G} {cs : Nat → ClassId} {A : Nat → Prop} (hC : MAt p s m args meth c RX4 cX4_fits 5 (some .boolean) wsX4_fits D cs) (q : Nat) (F : (Nat → Int32)) (x1 : Int32) (x2 : Int32) (Q : Int32 → Prop) (hw : wp_X4_fits F x1 x2 Q) (hP : va_P D vwCl (w_Row cs q 336 F) s.heap) (hD : va_D A (w_Row cs q 336 F)) (ls : Array Slot) (hl : lv_has ls 5 [(0, .ref q), (1, .int x1), (2, .int x2)]) : W p l e ({ frames := 1, cells := 0, slots := 0, locals := 20 } : Room) s m args below meth c s.heap [] 0 0 (MQ below (vp_Si (fun r => (r = 0 ∨ r = 1) ∧ Q r)) args s 0 0 (fun _ => False)) (F0 m 0 ls []) := by
  obtain ⟨hx, hb, hr, hml, hown, hts, hlocks, hKK⟩ := id hC
  have hK := hKK.1
  refine lv_iload_n hx hb dX4_fits_0 rfl (lv_at hl 2 rfl) ?_
  refine lv_if_ge (tgt := 9) hx hb dX4_fits_1 (by decide) (fun c1 => ?_) (fun c1 => ?_)
  · have hw := hw.1 c1
    refine lv_iload_n hx hb dX4_fits_9 rfl (lv_at hl 2 rfl) ?_
    refine lv_istore_n (lv' := [(3, .int x2), (0, .ref q), (1, .int x1), (2, .int x2)]) hx hb dX4_fits_10 rfl hl (by decide) rfl (fun ls hl => ?_)
    refine lv_iconst (v := (0 : Int32)) hx hb dX4_fits_11 (by decide) ?_
    refine lv_istore (lv' := [(4, .int (0 : Int32)), (3, .int x2), (0, .ref q), (1, .int x1), (2, .int x2)]) hx hb dX4_fits_12 hl (by decide) rfl (fun ls hl => ?_)
    obtain ⟨n6, hw⟩ := hw
    exact t_X4_fits_14 hC q _ _ _ hP hD n6 _ _ hw ls (lv_sub hl [2, 3, 1, 0] rfl)
  · have hw := hw.2 c1
    refine lv_iload_n hx hb dX4_fits_4 rfl (lv_at hl 2 rfl) ?_
    refine lv_ineg hx hb dX4_fits_5 ?_
    refine lv_goto (tgt := 10) hx hb dX4_fits_6 (by decide) ?_
    refine lv_istore_n (lv' := [(3, .int (-x2)), (0, .ref q), (1, .int x1), (2, .int x2)]) hx hb dX4_fits_10 rfl hl (by decide) rfl (fun ls hl => ?_)
    refine lv_iconst (v := (0 : Int32)) hx hb dX4_fits_11 (by decide) ?_
    refine lv_istore (lv' := [(4, .int (0 : Int32)), (3, .int (-x2)), (0, .ref q), (1, .int x1), (2, .int x2)]) hx hb dX4_fits_12 hl (by decide) rfl (fun ls hl => ?_)
    obtain ⟨n7, hw⟩ := hw
    exact t_X4_fits_14 hC q _ _ _ hP hD n7 _ _ hw ls (lv_sub hl [2, 3, 1, 0] rfl)
set_option maxHeartbeats 4000000 in
set_option maxRecDepth 100000 in
theorem c_X4_fits (l : Launch) (D : va_G) (cs : Nat → ClassId) (q : Nat) (sz : Nat) (F : (Nat → Int32)) (x1 : Int32) (x2 : Int32) (Q : Int32 → Prop) (hw : wp_X4_fits F x1 x2 Q) : Met l yX4_fits wsX4_fits ({ frames := 1, cells := 0, slots := 0, locals := 20 } : Room) (va_Pc [.ref q, .int x1, .int x2] (PC D cs (w_Row cs q 336 F) sz)) (vp_Si (fun r => (r = 0 ∨ r = 1) ∧ Q r)) 0 0 (fun _ => False) := by
  refine Met.ofW (cc := cX4_fits) (maxL := 5) (ret := (some .boolean)) (by decide) rfl ?_
  intro p e s m args below meth c s₁ B hml hv
  obtain ⟨rfl, hsz, hP, hKK, hD0⟩ := hv
  have hC : MAt p s m _ meth c RX4 cX4_fits 5 (some .boolean) wsX4_fits D cs := ⟨B.exec, B.bytes, B.returns, hml, findClass_of_methodNamed B.named, atoms_spec (ws := wsX4_fits) B.pre, B.notSynchronized, hKK⟩
  have hl := lv_entry ([.ref q, .int x1, .int x2]) (n := 5) (Nat.le_of_ble_eq_true rfl)
  rw [lg_entry_eq]
  generalize (lg_sl ([.ref q, .int x1, .int x2]) ++ List.replicate (5 - (lg_sl ([.ref q, .int x1, .int x2])).length) Slot.unset).toArray = ls at hl ⊢
  exact t_X4_fits hC q F x1 x2 Q hw hP hD0 ls hl
set_option maxHeartbeats 4000000 in
set_option maxRecDepth 100000 in
theorem t_X4_firstOfChain_2 {p : Program} {l : Launch} {e : Env} {s : State} {m : MethodId} {args : Array Value} {below : List Frame} {meth : Method} {c : Code} {D : va_G} {cs : Nat → ClassId} {A : Nat → Prop} (hC : MAt p s m args meth c RX4 cX4_firstOfChain 3 (some .int) wsX4_firstOfChain D cs) (q : Nat) (F : (Nat → Int32)) (Q : Int32 → Prop) (hP : va_P D vwCl (w_Row cs q 336 F) s.heap) (hD : va_D A (w_Row cs q 336 F)) : ∀ (n : Nat) (x2 : Int32), wl_X4_firstOfChain_2 F Q n x2 → ∀ ls : Array Slot, lv_has ls 3 [(0, .ref q), (2, .int x2)] → W p l e ({ frames := 1, cells := 0, slots := 0, locals := 20 } : Room) s m args below meth c s.heap [] 0 0 (MQ below (vp_Si Q) args s 0 0 (fun _ => False)) (F0 m 2 ls []) := by
  obtain ⟨hx, hb, hr, hml, hown, hts, hlocks, hKK⟩ := id hC
  have hK := hKK.1
  intro n
  induction n with
  | zero =>
    intro x2 hw
    exact False.elim hw
  | succ n ih =>
    intro x2 hw ls hl
    refine lv_iload_n hx hb dX4_firstOfChain_2 rfl (lv_at hl 1 rfl) ?_
    refine lv_if_le (tgt := 26) hx hb dX4_firstOfChain_3 (by decide) (fun c1 => ?_) (fun c1 => ?_)
    · have hw := hw.1 c1
      refine lv_iload_n hx hb dX4_firstOfChain_26 rfl (lv_at hl 1 rfl) ?_
      exact W.iret (v := x2) hx hb hr (fun t ht hW => ⟨x2, rfl, hw, ht⟩) (fun q h => nomatch h) dX4_firstOfChain_27 hlocks
    · have hw := hw.2 c1
      refine lv_aload_n hx hb dX4_firstOfChain_6 rfl (lv_at hl 0 rfl) ?_
      refine lv_iload_n hx hb dX4_firstOfChain_7 rfl (lv_at hl 1 rfl) ?_
      refine lv_iconst (v := (1 : Int32)) hx hb dX4_firstOfChain_8 (by decide) ?_
      refine lv_isub hx hb dX4_firstOfChain_9 ?_
      have hPc := hP.sub (ws' := ([] : va_W)) [] rfl
      have hDc := hD.sub (ws' := ([] : va_W)) [] (by decide) rfl
      refine z_calli (va_runS (As := [.int (x2 - (1 : Int32))]) (rest := [.ref q]) ⟨hx, hb, hml, hown, hts⟩ (c_X4_at l D cs  s.heap.size (x2 - (1 : Int32)) _ hw) (va_cwS 1 hts gX4_firstOfChain_X4_at rfl rfl rfl (by decide +kernel) ⟨Nat.le_of_ble_eq_true rfl, Nat.le_of_ble_eq_true rfl⟩) (PC_S hPc hDc hKK) rfl rfl hl.1 rfl (lv_room (Nat.le_of_ble_eq_true rfl)) dX4_firstOfChain_10 ⟨Nat.le_of_ble_eq_true rfl, Nat.le_of_ble_eq_true rfl⟩) (fun r2 hw => ?_)
      refine lv_iconst (v := (1 : Int32)) hx hb dX4_firstOfChain_13 (by decide) ?_
      refine lv_iadd hx hb dX4_firstOfChain_14 ?_
      obtain ⟨h3, hw⟩ := hw
      refine va_iald hx hb hK hP 0 0 rfl rfl h3 dX4_firstOfChain_15 ?_
      refine lv_iconst (v := (1 : Int32)) hx hb dX4_firstOfChain_16 (by decide) ?_
      refine lv_icmp_ne (tgt := 26) hx hb dX4_firstOfChain_17 (by decide) (fun c4 => ?_) (fun c4 => ?_)
      · have hw := hw.2 c4
        refine lv_iload_n hx hb dX4_firstOfChain_26 rfl (lv_at hl 1 rfl) ?_
        exact W.iret (v := x2) hx hb hr (fun t ht hW => ⟨x2, rfl, hw, ht⟩) (fun q h => nomatch h) dX4_firstOfChain_27 hlocks
      · have hw := hw.1 c4
        refine lv_iinc (v := x2 + (-1)) (lv' := [(2, .int (x2 + (-1))), (0, .ref q)]) hx hb dX4_firstOfChain_20 hl (k := 1) rfl rfl (by decide) rfl (fun ls hl => ?_)
        refine lv_goto (tgt := 2) hx hb dX4_firstOfChain_23 (by decide) ?_
        exact ih _ hw ls (lv_sub hl [1, 0] rfl)
set_option maxHeartbeats 4000000 in
set_option maxRecDepth 100000 in
theorem t_X4_firstOfChain {p : Program} {l : Launch} {e : Env} {s : State} {m : MethodId} {args : Array Value} {below : List Frame} {meth : Method} {c : Code} {D : va_G} {cs : Nat → ClassId} {A : Nat → Prop} (hC : MAt p s m args meth c RX4 cX4_firstOfChain 3 (some .int) wsX4_firstOfChain D cs) (q : Nat) (F : (Nat → Int32)) (x1 : Int32) (Q : Int32 → Prop) (hw : wp_X4_firstOfChain F x1 Q) (hP : va_P D vwCl (w_Row cs q 336 F) s.heap) (hD : va_D A (w_Row cs q 336 F)) (ls : Array Slot) (hl : lv_has ls 3 [(0, .ref q), (1, .int x1)]) : W p l e ({ frames := 1, cells := 0, slots := 0, locals := 20 } : Room) s m args below meth c s.heap [] 0 0 (MQ below (vp_Si Q) args s 0 0 (fun _ => False)) (F0 m 0 ls []) := by
  obtain ⟨hx, hb, hr, hml, hown, hts, hlocks, hKK⟩ := id hC
  have hK := hKK.1
  refine lv_iload_n hx hb dX4_firstOfChain_0 rfl (lv_at hl 1 rfl) ?_
  refine lv_istore_n (lv' := [(2, .int x1), (0, .ref q), (1, .int x1)]) hx hb dX4_firstOfChain_1 rfl hl (by decide) rfl (fun ls hl => ?_)
  obtain ⟨n5, hw⟩ := hw
  exact t_X4_firstOfChain_2 hC q _ _ hP hD n5 _ hw ls (lv_sub hl [1, 0] rfl)
set_option maxHeartbeats 4000000 in
set_option maxRecDepth 100000 in
theorem c_X4_firstOfChain (l : Launch) (D : va_G) (cs : Nat → ClassId) (q : Nat) (sz : Nat) (F : (Nat → Int32)) (x1 : Int32) (Q : Int32 → Prop) (hw : wp_X4_firstOfChain F x1 Q) : Met l yX4_firstOfChain wsX4_firstOfChain ({ frames := 1, cells := 0, slots := 0, locals := 20 } : Room) (va_Pc [.ref q, .int x1] (PC D cs (w_Row cs q 336 F) sz)) (vp_Si Q) 0 0 (fun _ => False) := by
  refine Met.ofW (cc := cX4_firstOfChain) (maxL := 3) (ret := (some .int)) (by decide) rfl ?_
  intro p e s m args below meth c s₁ B hml hv
  obtain ⟨rfl, hsz, hP, hKK, hD0⟩ := hv
  have hC : MAt p s m _ meth c RX4 cX4_firstOfChain 3 (some .int) wsX4_firstOfChain D cs := ⟨B.exec, B.bytes, B.returns, hml, findClass_of_methodNamed B.named, atoms_spec (ws := wsX4_firstOfChain) B.pre, B.notSynchronized, hKK⟩
  have hl := lv_entry ([.ref q, .int x1]) (n := 3) (Nat.le_of_ble_eq_true rfl)
  rw [lg_entry_eq]
  generalize (lg_sl ([.ref q, .int x1]) ++ List.replicate (3 - (lg_sl ([.ref q, .int x1])).length) Slot.unset).toArray = ls at hl ⊢
  exact t_X4_firstOfChain hC q F x1 Q hw hP hD0 ls hl
set_option maxHeartbeats 4000000 in
set_option maxRecDepth 100000 in
theorem t_X4_begin_2 {p : Program} {l : Launch} {e : Env} {s : State} {m : MethodId} {args : Array Value} {below : List Frame} {meth : Method} {c : Code} {D : va_G} {cs : Nat → ClassId} {A : Nat → Prop} (hC : MAt p s m args meth c RX4 cX4_begin 2 none wsX4_begin D cs) (q : Nat) (Q : (Nat → Int32) → Prop) (hA : ∀ q : Nat, s.heap.size ≤ q → A q) : ∀ (n : Nat) (F : (Nat → Int32)) (x1 : Int32), wl_X4_begin_2 Q n F x1 → ∀ (H : Heap) (locs : List Loc), va_P D vwCl (w_Row cs q 336 F) H → va_D A (w_Row cs q 336 F) → va_S A s.heap H locs → ∀ ls : Array Slot, lv_has ls 2 [(0, .ref q), (1, .int x1)] → W p l e ({ frames := 0, cells := 0, slots := 0, locals := 0 } : Room) s m args below meth c H locs 0 0 (MQ below (va_Qv (fun (u : (Nat → Int32)) => Q u) (fun (u : (Nat → Int32)) t => va_P D vwCl (w_Row cs q 336 u) t.heap ∧ va_D A (w_Row cs q 336 u)) A) args s 0 0 A) (F0 m 2 ls []) := by
  obtain ⟨hx, hb, hr, hml, hown, hts, hlocks, hKK⟩ := id hC
  have hK := hKK.1
  intro n
  induction n with
  | zero =>
    intro F x1 hw
    exact False.elim hw
  | succ n ih =>
    intro F x1 hw H locs hP hD hS ls hl
    refine lv_iload_n hx hb dX4_begin_2 rfl (lv_at hl 1 rfl) ?_
    refine lv_sipush (v := (336 : Int32)) hx hb dX4_begin_3 (by decide) ?_
    refine lv_icmp_ge (tgt := 19) hx hb dX4_begin_6 (by decide) (fun c1 => ?_) (fun c1 => ?_)
    · have hw := hw.1 c1
      refine lv_aload_n hx hb dX4_begin_19 rfl (lv_at hl 0 rfl) ?_
      refine lv_iconst (v := (1 : Int32)) hx hb dX4_begin_20 (by decide) ?_
      refine lv_iconst (v := (1 : Int32)) hx hb dX4_begin_21 (by decide) ?_
      refine va_iast hx hb hK hP hD hS 0 0 rfl rfl (show vp_in (1 : Int32) 336 by unfold vp_in; decide) dX4_begin_22 (fun H locs hP hD hS => ?_)
      have hP : va_P D vwCl (w_Row cs q 336 (upd F (1 : Int32).toNatClampNeg (1 : Int32))) H := hP
      have hD : va_D A (w_Row cs q 336 (upd F (1 : Int32).toNatClampNeg (1 : Int32))) := hD
      exact W.vret hx hb hr (fun t ht hW => ⟨⟨(upd F (1 : Int32).toNatClampNeg (1 : Int32)), rfl, hw, by rw [ht]; exact hP, hD⟩, hS.F ht⟩) hS.2.2 dX4_begin_23 hlocks
    · have hw := hw.2 c1
      refine lv_aload_n hx hb dX4_begin_9 rfl (lv_at hl 0 rfl) ?_
      refine lv_iload_n hx hb dX4_begin_10 rfl (lv_at hl 1 rfl) ?_
      refine lv_iconst (v := (0 : Int32)) hx hb dX4_begin_11 (by decide) ?_
      obtain ⟨h2, hw⟩ := hw
      refine va_iast hx hb hK hP hD hS 0 0 rfl rfl h2 dX4_begin_12 (fun H locs hP hD hS => ?_)
      have hP : va_P D vwCl (w_Row cs q 336 (upd F x1.toNatClampNeg (0 : Int32))) H := hP
      have hD : va_D A (w_Row cs q 336 (upd F x1.toNatClampNeg (0 : Int32))) := hD
      refine lv_iinc (v := x1 + 1) (lv' := [(1, .int (x1 + 1)), (0, .ref q)]) hx hb dX4_begin_13 hl (k := 1) rfl rfl (by decide) rfl (fun ls hl => ?_)
      refine lv_goto (tgt := 2) hx hb dX4_begin_16 (by decide) ?_
      exact ih _ _ hw _ _ hP hD hS ls (lv_sub hl [1, 0] rfl)
set_option maxHeartbeats 4000000 in
set_option maxRecDepth 100000 in
theorem t_X4_begin {p : Program} {l : Launch} {e : Env} {s : State} {m : MethodId} {args : Array Value} {below : List Frame} {meth : Method} {c : Code} {D : va_G} {cs : Nat → ClassId} {A : Nat → Prop} (hC : MAt p s m args meth c RX4 cX4_begin 2 none wsX4_begin D cs) (q : Nat) (F : (Nat → Int32)) (Q : (Nat → Int32) → Prop) (hA : ∀ q : Nat, s.heap.size ≤ q → A q) (hw : wp_X4_begin F Q) (H : Heap) (locs : List Loc) (hP : va_P D vwCl (w_Row cs q 336 F) H) (hD : va_D A (w_Row cs q 336 F)) (hS : va_S A s.heap H locs) (ls : Array Slot) (hl : lv_has ls 2 [(0, .ref q)]) : W p l e ({ frames := 0, cells := 0, slots := 0, locals := 0 } : Room) s m args below meth c H locs 0 0 (MQ below (va_Qv (fun (u : (Nat → Int32)) => Q u) (fun (u : (Nat → Int32)) t => va_P D vwCl (w_Row cs q 336 u) t.heap ∧ va_D A (w_Row cs q 336 u)) A) args s 0 0 A) (F0 m 0 ls []) := by
  obtain ⟨hx, hb, hr, hml, hown, hts, hlocks, hKK⟩ := id hC
  have hK := hKK.1
  refine lv_iconst (v := (0 : Int32)) hx hb dX4_begin_0 (by decide) ?_
  refine lv_istore_n (lv' := [(1, .int (0 : Int32)), (0, .ref q)]) hx hb dX4_begin_1 rfl hl (by decide) rfl (fun ls hl => ?_)
  obtain ⟨n3, hw⟩ := hw
  exact t_X4_begin_2 hC q _ hA n3 _ _ hw H locs hP hD hS ls (lv_sub hl [1, 0] rfl)
set_option maxHeartbeats 4000000 in
set_option maxRecDepth 100000 in
theorem c_X4_begin (l : Launch) (D : va_G) (cs : Nat → ClassId) (q : Nat) (sz : Nat) (F : (Nat → Int32)) (Q : (Nat → Int32) → Prop) (hw : wp_X4_begin F Q) : Met l yX4_begin wsX4_begin ({ frames := 0, cells := 0, slots := 0, locals := 0 } : Room) (va_Pc [.ref q] (PC D cs (w_Row cs q 336 F) sz)) (va_Qv (fun (u : (Nat → Int32)) => Q u) (fun (u : (Nat → Int32)) t => va_P D vwCl (w_Row cs q 336 u) t.heap ∧ va_D (va_A (w_Row cs q 336 F) sz) (w_Row cs q 336 u)) (va_A (w_Row cs q 336 F) sz)) 0 0 (va_A (w_Row cs q 336 F) sz) := by
  refine Met.ofW (cc := cX4_begin) (maxL := 2) (ret := none) (by decide) rfl ?_
  intro p e s m args below meth c s₁ B hml hv
  obtain ⟨rfl, hsz, hP, hKK, hD0⟩ := hv
  have hC : MAt p s m _ meth c RX4 cX4_begin 2 none wsX4_begin D cs := ⟨B.exec, B.bytes, B.returns, hml, findClass_of_methodNamed B.named, atoms_spec (ws := wsX4_begin) B.pre, B.notSynchronized, hKK⟩
  have hl := lv_entry ([.ref q]) (n := 2) (Nat.le_of_ble_eq_true rfl)
  rw [lg_entry_eq]
  generalize (lg_sl ([.ref q]) ++ List.replicate (2 - (lg_sl ([.ref q])).length) Slot.unset).toArray = ls at hl ⊢
  subst hsz
  have hD := hD0.self (sz := s.heap.size)
  have hA : ∀ z : Nat, s.heap.size ≤ z → va_A (w_Row cs q 336 F) s.heap.size z := fun z h => Or.inr h
  exact t_X4_begin hC q F Q hA hw s.heap [] hP hD va_S.rf ls hl
set_option maxHeartbeats 4000000 in
set_option maxRecDepth 100000 in
theorem t_X4_shift_9 {p : Program} {l : Launch} {e : Env} {s : State} {m : MethodId} {args : Array Value} {below : List Frame} {meth : Method} {c : Code} {D : va_G} {cs : Nat → ClassId} {A : Nat → Prop} (hC : MAt p s m args meth c RX4 cX4_shift 4 none wsX4_shift D cs) (q : Nat) (x1 : Int32) (x2 : Int32) (Q : (Nat → Int32) → Prop) (hA : ∀ q : Nat, s.heap.size ≤ q → A q) : ∀ (n : Nat) (F : (Nat → Int32)) (x3 : Int32), wl_X4_shift_9 x1 x2 Q n F x3 → ∀ (H : Heap) (locs : List Loc), va_P D vwCl (w_Row cs q 336 F) H → va_D A (w_Row cs q 336 F) → va_S A s.heap H locs → ∀ ls : Array Slot, lv_has ls 4 [(0, .ref q), (1, .int x1), (2, .int x2), (3, .int x3)] → W p l e ({ frames := 1, cells := 0, slots := 0, locals := 20 } : Room) s m args below meth c H locs 0 0 (MQ below (va_Qv (fun (u : (Nat → Int32)) => Q u) (fun (u : (Nat → Int32)) t => va_P D vwCl (w_Row cs q 336 u) t.heap ∧ va_D A (w_Row cs q 336 u)) A) args s 0 0 A) (F0 m 9 ls []) := by
  obtain ⟨hx, hb, hr, hml, hown, hts, hlocks, hKK⟩ := id hC
  have hK := hKK.1
  intro n
  induction n with
  | zero =>
    intro F x3 hw
    exact False.elim hw
  | succ n ih =>
    intro F x3 hw H locs hP hD hS ls hl
    refine lv_iload_n hx hb dX4_shift_9 rfl (lv_at hl 3 rfl) ?_
    refine lv_if_le (tgt := 65) hx hb dX4_shift_10 (by decide) (fun c3 => ?_) (fun c3 => ?_)
    · have hw := hw.1 c3
      refine lv_aload_n hx hb dX4_shift_65 rfl (lv_at hl 0 rfl) ?_
      refine lv_iload_n hx hb dX4_shift_66 rfl (lv_at hl 1 rfl) ?_
      have hPc := hP.sub (ws' := ([] : va_W)) [] rfl
      have hDc := hD.sub (ws' := ([] : va_W)) [] (by decide) rfl
      refine z_calli (va_runS (As := [.int x1]) (rest := [.ref q]) ⟨hx, hb, hml, hown, hts⟩ (c_X4_at l D cs  H.size x1 _ hw) (va_cwS 1 hts gX4_shift_X4_at rfl rfl rfl (by decide +kernel) ⟨Nat.le_of_ble_eq_true rfl, Nat.le_of_ble_eq_true rfl⟩) (PC_S hPc hDc hKK) rfl rfl hl.1 rfl (lv_room (Nat.le_of_ble_eq_true rfl)) dX4_shift_67 ⟨Nat.le_of_ble_eq_true rfl, Nat.le_of_ble_eq_true rfl⟩) (fun r4 hw => ?_)
      refine lv_iconst (v := (4 : Int32)) hx hb dX4_shift_70 (by decide) ?_
      refine lv_iadd hx hb dX4_shift_71 ?_
      refine lv_iload_n hx hb dX4_shift_72 rfl (lv_at hl 2 rfl) ?_
      obtain ⟨h5, hw⟩ := hw
      refine va_iast hx hb hK hP hD hS 0 0 rfl rfl h5 dX4_shift_73 (fun H locs hP hD hS => ?_)
      have hP : va_P D vwCl (w_Row cs q 336 (upd F (r4 + (4 : Int32)).toNatClampNeg x2)) H := hP
      have hD : va_D A (w_Row cs q 336 (upd F (r4 + (4 : Int32)).toNatClampNeg x2)) := hD
      refine lv_aload_n hx hb dX4_shift_74 rfl (lv_at hl 0 rfl) ?_
      refine lv_iload_n hx hb dX4_shift_75 rfl (lv_at hl 1 rfl) ?_
      have hPc := hP.sub (ws' := ([] : va_W)) [] rfl
      have hDc := hD.sub (ws' := ([] : va_W)) [] (by decide) rfl
      refine z_calli (va_runS (As := [.int x1]) (rest := [.ref q]) ⟨hx, hb, hml, hown, hts⟩ (c_X4_at l D cs  H.size x1 _ hw) (va_cwS 1 hts gX4_shift_X4_at rfl rfl rfl (by decide +kernel) ⟨Nat.le_of_ble_eq_true rfl, Nat.le_of_ble_eq_true rfl⟩) (PC_S hPc hDc hKK) rfl rfl hl.1 rfl (lv_room (Nat.le_of_ble_eq_true rfl)) dX4_shift_76 ⟨Nat.le_of_ble_eq_true rfl, Nat.le_of_ble_eq_true rfl⟩) (fun r6 hw => ?_)
      refine lv_bipush (v := (13 : Int32)) hx hb dX4_shift_79 (by decide) ?_
      refine lv_iadd hx hb dX4_shift_81 ?_
      refine lv_iconst (v := (0 : Int32)) hx hb dX4_shift_82 (by decide) ?_
      obtain ⟨h7, hw⟩ := hw
      refine va_iast hx hb hK hP hD hS 0 0 rfl rfl h7 dX4_shift_83 (fun H locs hP hD hS => ?_)
      have hP : va_P D vwCl (w_Row cs q 336 (upd (upd F (r4 + (4 : Int32)).toNatClampNeg x2) (r6 + (13 : Int32)).toNatClampNeg (0 : Int32))) H := hP
      have hD : va_D A (w_Row cs q 336 (upd (upd F (r4 + (4 : Int32)).toNatClampNeg x2) (r6 + (13 : Int32)).toNatClampNeg (0 : Int32))) := hD
      refine lv_aload_n hx hb dX4_shift_84 rfl (lv_at hl 0 rfl) ?_
      refine lv_iload_n hx hb dX4_shift_85 rfl (lv_at hl 1 rfl) ?_
      have hPc := hP.sub (ws' := ([] : va_W)) [] rfl
      have hDc := hD.sub (ws' := ([] : va_W)) [] (by decide) rfl
      refine z_calli (va_runS (As := [.int x1]) (rest := [.ref q]) ⟨hx, hb, hml, hown, hts⟩ (c_X4_at l D cs  H.size x1 _ hw) (va_cwS 1 hts gX4_shift_X4_at rfl rfl rfl (by decide +kernel) ⟨Nat.le_of_ble_eq_true rfl, Nat.le_of_ble_eq_true rfl⟩) (PC_S hPc hDc hKK) rfl rfl hl.1 rfl (lv_room (Nat.le_of_ble_eq_true rfl)) dX4_shift_86 ⟨Nat.le_of_ble_eq_true rfl, Nat.le_of_ble_eq_true rfl⟩) (fun r8 hw => ?_)
      refine lv_iconst (v := (0 : Int32)) hx hb dX4_shift_89 (by decide) ?_
      refine lv_iadd hx hb dX4_shift_90 ?_
      refine lv_dup2_11 hx hb dX4_shift_91 rfl rfl ?_
      obtain ⟨h9, hw⟩ := hw
      refine va_iald hx hb hK hP 0 0 rfl rfl h9 dX4_shift_92 ?_
      refine lv_iconst (v := (1 : Int32)) hx hb dX4_shift_93 (by decide) ?_
      refine lv_iadd hx hb dX4_shift_94 ?_
      obtain ⟨h10, hw⟩ := hw
      refine va_iast hx hb hK hP hD hS 0 0 rfl rfl h10 dX4_shift_95 (fun H locs hP hD hS => ?_)
      have hP : va_P D vwCl (w_Row cs q 336 (upd (upd (upd F (r4 + (4 : Int32)).toNatClampNeg x2) (r6 + (13 : Int32)).toNatClampNeg (0 : Int32)) (r8 + (0 : Int32)).toNatClampNeg ((upd (upd F (r4 + (4 : Int32)).toNatClampNeg x2) (r6 + (13 : Int32)).toNatClampNeg (0 : Int32) (r8 + (0 : Int32)).toNatClampNeg) + (1 : Int32)))) H := hP
      have hD : va_D A (w_Row cs q 336 (upd (upd (upd F (r4 + (4 : Int32)).toNatClampNeg x2) (r6 + (13 : Int32)).toNatClampNeg (0 : Int32)) (r8 + (0 : Int32)).toNatClampNeg ((upd (upd F (r4 + (4 : Int32)).toNatClampNeg x2) (r6 + (13 : Int32)).toNatClampNeg (0 : Int32) (r8 + (0 : Int32)).toNatClampNeg) + (1 : Int32)))) := hD
      exact W.vret hx hb hr (fun t ht hW => ⟨⟨(upd (upd (upd F (r4 + (4 : Int32)).toNatClampNeg x2) (r6 + (13 : Int32)).toNatClampNeg (0 : Int32)) (r8 + (0 : Int32)).toNatClampNeg ((upd (upd F (r4 + (4 : Int32)).toNatClampNeg x2) (r6 + (13 : Int32)).toNatClampNeg (0 : Int32) (r8 + (0 : Int32)).toNatClampNeg) + (1 : Int32))), rfl, hw, by rw [ht]; exact hP, hD⟩, hS.F ht⟩) hS.2.2 dX4_shift_96 hlocks
    · have hw := hw.2 c3
      refine lv_aload_n hx hb dX4_shift_13 rfl (lv_at hl 0 rfl) ?_
      refine lv_iload_n hx hb dX4_shift_14 rfl (lv_at hl 1 rfl) ?_
      have hPc := hP.sub (ws' := ([] : va_W)) [] rfl
      have hDc := hD.sub (ws' := ([] : va_W)) [] (by decide) rfl
      refine z_calli (va_runS (As := [.int x1]) (rest := [.ref q]) ⟨hx, hb, hml, hown, hts⟩ (c_X4_at l D cs  H.size x1 _ hw) (va_cwS 1 hts gX4_shift_X4_at rfl rfl rfl (by decide +kernel) ⟨Nat.le_of_ble_eq_true rfl, Nat.le_of_ble_eq_true rfl⟩) (PC_S hPc hDc hKK) rfl rfl hl.1 rfl (lv_room (Nat.le_of_ble_eq_true rfl)) dX4_shift_15 ⟨Nat.le_of_ble_eq_true rfl, Nat.le_of_ble_eq_true rfl⟩) (fun r11 hw => ?_)
      refine lv_iconst (v := (4 : Int32)) hx hb dX4_shift_18 (by decide) ?_
      refine lv_iadd hx hb dX4_shift_19 ?_
      refine lv_iload_n hx hb dX4_shift_20 rfl (lv_at hl 3 rfl) ?_
      refine lv_iadd hx hb dX4_shift_21 ?_
      refine lv_aload_n hx hb dX4_shift_22 rfl (lv_at hl 0 rfl) ?_
      refine lv_iload_n hx hb dX4_shift_23 rfl (lv_at hl 1 rfl) ?_
      have hPc := hP.sub (ws' := ([] : va_W)) [] rfl
      have hDc := hD.sub (ws' := ([] : va_W)) [] (by decide) rfl
      refine z_calli (va_runS (As := [.int x1]) (rest := [.ref q, .int ((r11 + (4 : Int32)) + x3), .ref q]) ⟨hx, hb, hml, hown, hts⟩ (c_X4_at l D cs  H.size x1 _ hw) (va_cwS 1 hts gX4_shift_X4_at rfl rfl rfl (by decide +kernel) ⟨Nat.le_of_ble_eq_true rfl, Nat.le_of_ble_eq_true rfl⟩) (PC_S hPc hDc hKK) rfl rfl hl.1 rfl (lv_room (Nat.le_of_ble_eq_true rfl)) dX4_shift_24 ⟨Nat.le_of_ble_eq_true rfl, Nat.le_of_ble_eq_true rfl⟩) (fun r12 hw => ?_)
      refine lv_iconst (v := (4 : Int32)) hx hb dX4_shift_27 (by decide) ?_
      refine lv_iadd hx hb dX4_shift_28 ?_
      refine lv_iload_n hx hb dX4_shift_29 rfl (lv_at hl 3 rfl) ?_
      refine lv_iadd hx hb dX4_shift_30 ?_
      refine lv_iconst (v := (1 : Int32)) hx hb dX4_shift_31 (by decide) ?_
      refine lv_isub hx hb dX4_shift_32 ?_
      obtain ⟨h13, hw⟩ := hw
      refine va_iald hx hb hK hP 0 0 rfl rfl h13 dX4_shift_33 ?_
      obtain ⟨h14, hw⟩ := hw
      refine va_iast hx hb hK hP hD hS 0 0 rfl rfl h14 dX4_shift_34 (fun H locs hP hD hS => ?_)
      have hP : va_P D vwCl (w_Row cs q 336 (upd F ((r11 + (4 : Int32)) + x3).toNatClampNeg (F (((r12 + (4 : Int32)) + x3) - (1 : Int32)).toNatClampNeg))) H := hP
      have hD : va_D A (w_Row cs q 336 (upd F ((r11 + (4 : Int32)) + x3).toNatClampNeg (F (((r12 + (4 : Int32)) + x3) - (1 : Int32)).toNatClampNeg))) := hD
      refine lv_aload_n hx hb dX4_shift_35 rfl (lv_at hl 0 rfl) ?_
      refine lv_iload_n hx hb dX4_shift_36 rfl (lv_at hl 1 rfl) ?_
      have hPc := hP.sub (ws' := ([] : va_W)) [] rfl
      have hDc := hD.sub (ws' := ([] : va_W)) [] (by decide) rfl
      refine z_calli (va_runS (As := [.int x1]) (rest := [.ref q]) ⟨hx, hb, hml, hown, hts⟩ (c_X4_at l D cs  H.size x1 _ hw) (va_cwS 1 hts gX4_shift_X4_at rfl rfl rfl (by decide +kernel) ⟨Nat.le_of_ble_eq_true rfl, Nat.le_of_ble_eq_true rfl⟩) (PC_S hPc hDc hKK) rfl rfl hl.1 rfl (lv_room (Nat.le_of_ble_eq_true rfl)) dX4_shift_37 ⟨Nat.le_of_ble_eq_true rfl, Nat.le_of_ble_eq_true rfl⟩) (fun r15 hw => ?_)
      refine lv_bipush (v := (13 : Int32)) hx hb dX4_shift_40 (by decide) ?_
      refine lv_iadd hx hb dX4_shift_42 ?_
      refine lv_iload_n hx hb dX4_shift_43 rfl (lv_at hl 3 rfl) ?_
      refine lv_iadd hx hb dX4_shift_44 ?_
      refine lv_aload_n hx hb dX4_shift_45 rfl (lv_at hl 0 rfl) ?_
      refine lv_iload_n hx hb dX4_shift_46 rfl (lv_at hl 1 rfl) ?_
      have hPc := hP.sub (ws' := ([] : va_W)) [] rfl
      have hDc := hD.sub (ws' := ([] : va_W)) [] (by decide) rfl
      refine z_calli (va_runS (As := [.int x1]) (rest := [.ref q, .int ((r15 + (13 : Int32)) + x3), .ref q]) ⟨hx, hb, hml, hown, hts⟩ (c_X4_at l D cs  H.size x1 _ hw) (va_cwS 1 hts gX4_shift_X4_at rfl rfl rfl (by decide +kernel) ⟨Nat.le_of_ble_eq_true rfl, Nat.le_of_ble_eq_true rfl⟩) (PC_S hPc hDc hKK) rfl rfl hl.1 rfl (lv_room (Nat.le_of_ble_eq_true rfl)) dX4_shift_47 ⟨Nat.le_of_ble_eq_true rfl, Nat.le_of_ble_eq_true rfl⟩) (fun r16 hw => ?_)
      refine lv_bipush (v := (13 : Int32)) hx hb dX4_shift_50 (by decide) ?_
      refine lv_iadd hx hb dX4_shift_52 ?_
      refine lv_iload_n hx hb dX4_shift_53 rfl (lv_at hl 3 rfl) ?_
      refine lv_iadd hx hb dX4_shift_54 ?_
      refine lv_iconst (v := (1 : Int32)) hx hb dX4_shift_55 (by decide) ?_
      refine lv_isub hx hb dX4_shift_56 ?_
      obtain ⟨h17, hw⟩ := hw
      refine va_iald hx hb hK hP 0 0 rfl rfl h17 dX4_shift_57 ?_
      obtain ⟨h18, hw⟩ := hw
      refine va_iast hx hb hK hP hD hS 0 0 rfl rfl h18 dX4_shift_58 (fun H locs hP hD hS => ?_)
      have hP : va_P D vwCl (w_Row cs q 336 (upd (upd F ((r11 + (4 : Int32)) + x3).toNatClampNeg (F (((r12 + (4 : Int32)) + x3) - (1 : Int32)).toNatClampNeg)) ((r15 + (13 : Int32)) + x3).toNatClampNeg (upd F ((r11 + (4 : Int32)) + x3).toNatClampNeg (F (((r12 + (4 : Int32)) + x3) - (1 : Int32)).toNatClampNeg) (((r16 + (13 : Int32)) + x3) - (1 : Int32)).toNatClampNeg))) H := hP
      have hD : va_D A (w_Row cs q 336 (upd (upd F ((r11 + (4 : Int32)) + x3).toNatClampNeg (F (((r12 + (4 : Int32)) + x3) - (1 : Int32)).toNatClampNeg)) ((r15 + (13 : Int32)) + x3).toNatClampNeg (upd F ((r11 + (4 : Int32)) + x3).toNatClampNeg (F (((r12 + (4 : Int32)) + x3) - (1 : Int32)).toNatClampNeg) (((r16 + (13 : Int32)) + x3) - (1 : Int32)).toNatClampNeg))) := hD
      refine lv_iinc (v := x3 + (-1)) (lv' := [(3, .int (x3 + (-1))), (0, .ref q), (1, .int x1), (2, .int x2)]) hx hb dX4_shift_59 hl (k := 3) rfl rfl (by decide) rfl (fun ls hl => ?_)
      refine lv_goto (tgt := 9) hx hb dX4_shift_62 (by decide) ?_
      exact ih _ _ hw _ _ hP hD hS ls (lv_sub hl [1, 2, 3, 0] rfl)
set_option maxHeartbeats 4000000 in
set_option maxRecDepth 100000 in
theorem t_X4_shift {p : Program} {l : Launch} {e : Env} {s : State} {m : MethodId} {args : Array Value} {below : List Frame} {meth : Method} {c : Code} {D : va_G} {cs : Nat → ClassId} {A : Nat → Prop} (hC : MAt p s m args meth c RX4 cX4_shift 4 none wsX4_shift D cs) (q : Nat) (F : (Nat → Int32)) (x1 : Int32) (x2 : Int32) (Q : (Nat → Int32) → Prop) (hA : ∀ q : Nat, s.heap.size ≤ q → A q) (hw : wp_X4_shift F x1 x2 Q) (H : Heap) (locs : List Loc) (hP : va_P D vwCl (w_Row cs q 336 F) H) (hD : va_D A (w_Row cs q 336 F)) (hS : va_S A s.heap H locs) (ls : Array Slot) (hl : lv_has ls 4 [(0, .ref q), (1, .int x1), (2, .int x2)]) : W p l e ({ frames := 1, cells := 0, slots := 0, locals := 20 } : Room) s m args below meth c H locs 0 0 (MQ below (va_Qv (fun (u : (Nat → Int32)) => Q u) (fun (u : (Nat → Int32)) t => va_P D vwCl (w_Row cs q 336 u) t.heap ∧ va_D A (w_Row cs q 336 u)) A) args s 0 0 A) (F0 m 0 ls []) := by
  obtain ⟨hx, hb, hr, hml, hown, hts, hlocks, hKK⟩ := id hC
  have hK := hKK.1
  refine lv_aload_n hx hb dX4_shift_0 rfl (lv_at hl 0 rfl) ?_
  refine lv_iload_n hx hb dX4_shift_1 rfl (lv_at hl 1 rfl) ?_
  have hPc := hP.sub (ws' := ([] : va_W)) [] rfl
  have hDc := hD.sub (ws' := ([] : va_W)) [] (by decide) rfl
  refine z_calli (va_runS (As := [.int x1]) (rest := [.ref q]) ⟨hx, hb, hml, hown, hts⟩ (c_X4_at l D cs  H.size x1 _ hw) (va_cwS 1 hts gX4_shift_X4_at rfl rfl rfl (by decide +kernel) ⟨Nat.le_of_ble_eq_true rfl, Nat.le_of_ble_eq_true rfl⟩) (PC_S hPc hDc hKK) rfl rfl hl.1 rfl (lv_room (Nat.le_of_ble_eq_true rfl)) dX4_shift_2 ⟨Nat.le_of_ble_eq_true rfl, Nat.le_of_ble_eq_true rfl⟩) (fun r1 hw => ?_)
  refine lv_iconst (v := (0 : Int32)) hx hb dX4_shift_5 (by decide) ?_
  refine lv_iadd hx hb dX4_shift_6 ?_
  obtain ⟨h2, hw⟩ := hw
  refine va_iald hx hb hK hP 0 0 rfl rfl h2 dX4_shift_7 ?_
  refine lv_istore_n (lv' := [(3, .int (F (r1 + (0 : Int32)).toNatClampNeg)), (0, .ref q), (1, .int x1), (2, .int x2)]) hx hb dX4_shift_8 rfl hl (by decide) rfl (fun ls hl => ?_)
  obtain ⟨n19, hw⟩ := hw
  exact t_X4_shift_9 hC q _ _ _ hA n19 _ _ hw H locs hP hD hS ls (lv_sub hl [1, 2, 3, 0] rfl)
set_option maxHeartbeats 4000000 in
set_option maxRecDepth 100000 in
theorem c_X4_shift (l : Launch) (D : va_G) (cs : Nat → ClassId) (q : Nat) (sz : Nat) (F : (Nat → Int32)) (x1 : Int32) (x2 : Int32) (Q : (Nat → Int32) → Prop) (hw : wp_X4_shift F x1 x2 Q) : Met l yX4_shift wsX4_shift ({ frames := 1, cells := 0, slots := 0, locals := 20 } : Room) (va_Pc [.ref q, .int x1, .int x2] (PC D cs (w_Row cs q 336 F) sz)) (va_Qv (fun (u : (Nat → Int32)) => Q u) (fun (u : (Nat → Int32)) t => va_P D vwCl (w_Row cs q 336 u) t.heap ∧ va_D (va_A (w_Row cs q 336 F) sz) (w_Row cs q 336 u)) (va_A (w_Row cs q 336 F) sz)) 0 0 (va_A (w_Row cs q 336 F) sz) := by
  refine Met.ofW (cc := cX4_shift) (maxL := 4) (ret := none) (by decide) rfl ?_
  intro p e s m args below meth c s₁ B hml hv
  obtain ⟨rfl, hsz, hP, hKK, hD0⟩ := hv
  have hC : MAt p s m _ meth c RX4 cX4_shift 4 none wsX4_shift D cs := ⟨B.exec, B.bytes, B.returns, hml, findClass_of_methodNamed B.named, atoms_spec (ws := wsX4_shift) B.pre, B.notSynchronized, hKK⟩
  have hl := lv_entry ([.ref q, .int x1, .int x2]) (n := 4) (Nat.le_of_ble_eq_true rfl)
  rw [lg_entry_eq]
  generalize (lg_sl ([.ref q, .int x1, .int x2]) ++ List.replicate (4 - (lg_sl ([.ref q, .int x1, .int x2])).length) Slot.unset).toArray = ls at hl ⊢
  subst hsz
  have hD := hD0.self (sz := s.heap.size)
  have hA : ∀ z : Nat, s.heap.size ≤ z → va_A (w_Row cs q 336 F) s.heap.size z := fun z h => Or.inr h
  exact t_X4_shift hC q F x1 x2 Q hA hw s.heap [] hP hD va_S.rf ls hl
set_option maxHeartbeats 4000000 in
set_option maxRecDepth 100000 in
theorem t_X4_addOn_17 {p : Program} {l : Launch} {e : Env} {s : State} {m : MethodId} {args : Array Value} {below : List Frame} {meth : Method} {c : Code} {D : va_G} {cs : Nat → ClassId} {A : Nat → Prop} (hC : MAt p s m args meth c RX4 cX4_addOn 6 (some .int) wsX4_addOn D cs) (q : Nat) (x1 : Int32) (x2 : Int32) (Q : Int32 → (Nat → Int32) → Prop) (hA : ∀ q : Nat, s.heap.size ≤ q → A q) : ∀ (n : Nat) (F : (Nat → Int32)) (x3 : Int32) (x4 : Int32) (x5 : Int32), wl_X4_addOn_17 x1 x2 Q n F x3 x4 x5 → ∀ (H : Heap) (locs : List Loc), va_P D vwCl (w_Row cs q 336 F) H → va_D A (w_Row cs q 336 F) → va_S A s.heap H locs → ∀ ls : Array Slot, lv_has ls 6 [(0, .ref q), (1, .int x1), (2, .int x2), (3, .int x3), (4, .int x4), (5, .int x5)] → W p l e ({ frames := 1, cells := 0, slots := 0, locals := 20 } : Room) s m args below meth c H locs 0 0 (MQ below (va_Qi (fun r (u : (Nat → Int32)) => Q r u) (fun (u : (Nat → Int32)) t => va_P D vwCl (w_Row cs q 336 u) t.heap ∧ va_D A (w_Row cs q 336 u)) A) args s 0 0 A) (F0 m 17 ls []) := by
  obtain ⟨hx, hb, hr, hml, hown, hts, hlocks, hKK⟩ := id hC
  have hK := hKK.1
  intro n
  induction n with
  | zero =>
    intro F x3 x4 x5 hw
    exact False.elim hw
  | succ n ih =>
    intro F x3 x4 x5 hw H locs hP hD hS ls hl
    refine lv_iload hx hb dX4_addOn_17 (lv_at hl 5 rfl) ?_
    refine lv_aload_n hx hb dX4_addOn_19 rfl (lv_at hl 0 rfl) ?_
    refine lv_iload_n hx hb dX4_addOn_20 rfl (lv_at hl 1 rfl) ?_
    have hPc := hP.sub (ws' := ([] : va_W)) [] rfl
    have hDc := hD.sub (ws' := ([] : va_W)) [] (by decide) rfl
    refine z_calli (va_runS (As := [.int x1]) (rest := [.ref q, .int x5]) ⟨hx, hb, hml, hown, hts⟩ (c_X4_at l D cs  H.size x1 _ hw) (va_cwS 1 hts gX4_addOn_X4_at rfl rfl rfl (by decide +kernel) ⟨Nat.le_of_ble_eq_true rfl, Nat.le_of_ble_eq_true rfl⟩) (PC_S hPc hDc hKK) rfl rfl hl.1 rfl (lv_room (Nat.le_of_ble_eq_true rfl)) dX4_addOn_21 ⟨Nat.le_of_ble_eq_true rfl, Nat.le_of_ble_eq_true rfl⟩) (fun r2 hw => ?_)
    refine lv_iconst (v := (0 : Int32)) hx hb dX4_addOn_24 (by decide) ?_
    refine lv_iadd hx hb dX4_addOn_25 ?_
    obtain ⟨h3, hw⟩ := hw
    refine va_iald hx hb hK hP 0 0 rfl rfl h3 dX4_addOn_26 ?_
    refine lv_icmp_ge (tgt := 77) hx hb dX4_addOn_27 (by decide) (fun c4 => ?_) (fun c4 => ?_)
    · have hw := hw.1 c4
      refine lv_iload hx hb dX4_addOn_77 (lv_at hl 4 rfl) ?_
      exact W.iret (v := x4) hx hb hr (fun t ht hW => ⟨⟨x4, (F), rfl, hw, by rw [ht]; exact hP, hD⟩, hS.F ht⟩) hS.2.2 dX4_addOn_79 hlocks
    · have hw := hw.2 c4
      refine lv_aload_n hx hb dX4_addOn_30 rfl (lv_at hl 0 rfl) ?_
      refine lv_iload_n hx hb dX4_addOn_31 rfl (lv_at hl 1 rfl) ?_
      have hPc := hP.sub (ws' := ([] : va_W)) [] rfl
      have hDc := hD.sub (ws' := ([] : va_W)) [] (by decide) rfl
      refine z_calli (va_runS (As := [.int x1]) (rest := [.ref q]) ⟨hx, hb, hml, hown, hts⟩ (c_X4_at l D cs  H.size x1 _ hw) (va_cwS 1 hts gX4_addOn_X4_at rfl rfl rfl (by decide +kernel) ⟨Nat.le_of_ble_eq_true rfl, Nat.le_of_ble_eq_true rfl⟩) (PC_S hPc hDc hKK) rfl rfl hl.1 rfl (lv_room (Nat.le_of_ble_eq_true rfl)) dX4_addOn_32 ⟨Nat.le_of_ble_eq_true rfl, Nat.le_of_ble_eq_true rfl⟩) (fun r5 hw => ?_)
      refine lv_bipush (v := (13 : Int32)) hx hb dX4_addOn_35 (by decide) ?_
      refine lv_iadd hx hb dX4_addOn_37 ?_
      refine lv_iload hx hb dX4_addOn_38 (lv_at hl 5 rfl) ?_
      refine lv_iadd hx hb dX4_addOn_40 ?_
      refine lv_dup2_11 hx hb dX4_addOn_41 rfl rfl ?_
      obtain ⟨h6, hw⟩ := hw
      refine va_iald hx hb hK hP 0 0 rfl rfl h6 dX4_addOn_42 ?_
      refine lv_iload_n hx hb dX4_addOn_43 rfl (lv_at hl 2 rfl) ?_
      refine lv_if_ge (tgt := 54) hx hb dX4_addOn_44 (by decide) (fun c7 => ?_) (fun c7 => ?_)
      · have hw := hw.1 c7
        refine lv_iload_n hx hb dX4_addOn_54 rfl (lv_at hl 3 rfl) ?_
        refine lv_iconst (v := (3 : Int32)) hx hb dX4_addOn_55 (by decide) ?_
        refine lv_irem hx hb dX4_addOn_56 (by decide) ?_
        refine lv_iadd hx hb dX4_addOn_57 ?_
        obtain ⟨h8, hw⟩ := hw
        refine va_iast hx hb hK hP hD hS 0 0 rfl rfl h8 dX4_addOn_58 (fun H locs hP hD hS => ?_)
        have hP : va_P D vwCl (w_Row cs q 336 (upd F ((r5 + (13 : Int32)) + x5).toNatClampNeg ((F ((r5 + (13 : Int32)) + x5).toNatClampNeg) + (x3 - x3 / (3 : Int32) * (3 : Int32))))) H := hP
        have hD : va_D A (w_Row cs q 336 (upd F ((r5 + (13 : Int32)) + x5).toNatClampNeg ((F ((r5 + (13 : Int32)) + x5).toNatClampNeg) + (x3 - x3 / (3 : Int32) * (3 : Int32))))) := hD
        refine lv_iload hx hb dX4_addOn_59 (lv_at hl 4 rfl) ?_
        refine lv_iload_n hx hb dX4_addOn_61 rfl (lv_at hl 3 rfl) ?_
        refine lv_iconst (v := (3 : Int32)) hx hb dX4_addOn_62 (by decide) ?_
        refine lv_irem hx hb dX4_addOn_63 (by decide) ?_
        refine lv_iadd hx hb dX4_addOn_64 ?_
        refine lv_topi (fun y9 ey9 => ?_)
        have hw := hw y9 ey9
        refine lv_istore (lv' := [(4, .int y9), (0, .ref q), (1, .int x1), (2, .int x2), (3, .int x3), (5, .int x5)]) hx hb dX4_addOn_65 hl (by decide) rfl (fun ls hl => ?_)
        refine lv_iload_n hx hb dX4_addOn_67 rfl (lv_at hl 4 rfl) ?_
        refine lv_iconst (v := (3 : Int32)) hx hb dX4_addOn_68 (by decide) ?_
        refine lv_idiv hx hb dX4_addOn_69 (by decide) ?_
        refine lv_istore_n (lv' := [(3, .int (x3 / (3 : Int32))), (4, .int y9), (0, .ref q), (1, .int x1), (2, .int x2), (5, .int x5)]) hx hb dX4_addOn_70 rfl hl (by decide) rfl (fun ls hl => ?_)
        refine lv_iinc (v := x5 + 1) (lv' := [(5, .int (x5 + 1)), (3, .int (x3 / (3 : Int32))), (4, .int y9), (0, .ref q), (1, .int x1), (2, .int x2)]) hx hb dX4_addOn_71 hl (k := 5) rfl rfl (by decide) rfl (fun ls hl => ?_)
        refine lv_goto (tgt := 17) hx hb dX4_addOn_74 (by decide) ?_
        exact ih _ _ _ _ hw _ _ hP hD hS ls (lv_sub hl [3, 4, 5, 1, 2, 0] rfl)
      · have hw := hw.2 c7
        refine lv_iload_n hx hb dX4_addOn_47 rfl (lv_at hl 3 rfl) ?_
        refine lv_iconst (v := (3 : Int32)) hx hb dX4_addOn_48 (by decide) ?_
        refine lv_irem hx hb dX4_addOn_49 (by decide) ?_
        refine lv_ineg hx hb dX4_addOn_50 ?_
        refine lv_goto (tgt := 57) hx hb dX4_addOn_51 (by decide) ?_
        refine lv_iadd hx hb dX4_addOn_57 ?_
        obtain ⟨h10, hw⟩ := hw
        refine va_iast hx hb hK hP hD hS 0 0 rfl rfl h10 dX4_addOn_58 (fun H locs hP hD hS => ?_)
        have hP : va_P D vwCl (w_Row cs q 336 (upd F ((r5 + (13 : Int32)) + x5).toNatClampNeg ((F ((r5 + (13 : Int32)) + x5).toNatClampNeg) + (-(x3 - x3 / (3 : Int32) * (3 : Int32)))))) H := hP
        have hD : va_D A (w_Row cs q 336 (upd F ((r5 + (13 : Int32)) + x5).toNatClampNeg ((F ((r5 + (13 : Int32)) + x5).toNatClampNeg) + (-(x3 - x3 / (3 : Int32) * (3 : Int32)))))) := hD
        refine lv_iload hx hb dX4_addOn_59 (lv_at hl 4 rfl) ?_
        refine lv_iload_n hx hb dX4_addOn_61 rfl (lv_at hl 3 rfl) ?_
        refine lv_iconst (v := (3 : Int32)) hx hb dX4_addOn_62 (by decide) ?_
        refine lv_irem hx hb dX4_addOn_63 (by decide) ?_
        refine lv_iadd hx hb dX4_addOn_64 ?_
        refine lv_topi (fun y11 ey11 => ?_)
        have hw := hw y11 ey11
        refine lv_istore (lv' := [(4, .int y11), (0, .ref q), (1, .int x1), (2, .int x2), (3, .int x3), (5, .int x5)]) hx hb dX4_addOn_65 hl (by decide) rfl (fun ls hl => ?_)
        refine lv_iload_n hx hb dX4_addOn_67 rfl (lv_at hl 4 rfl) ?_
        refine lv_iconst (v := (3 : Int32)) hx hb dX4_addOn_68 (by decide) ?_
        refine lv_idiv hx hb dX4_addOn_69 (by decide) ?_
        refine lv_istore_n (lv' := [(3, .int (x3 / (3 : Int32))), (4, .int y11), (0, .ref q), (1, .int x1), (2, .int x2), (5, .int x5)]) hx hb dX4_addOn_70 rfl hl (by decide) rfl (fun ls hl => ?_)
        refine lv_iinc (v := x5 + 1) (lv' := [(5, .int (x5 + 1)), (3, .int (x3 / (3 : Int32))), (4, .int y11), (0, .ref q), (1, .int x1), (2, .int x2)]) hx hb dX4_addOn_71 hl (k := 5) rfl rfl (by decide) rfl (fun ls hl => ?_)
        refine lv_goto (tgt := 17) hx hb dX4_addOn_74 (by decide) ?_
        exact ih _ _ _ _ hw _ _ hP hD hS ls (lv_sub hl [3, 4, 5, 1, 2, 0] rfl)
set_option maxHeartbeats 4000000 in
set_option maxRecDepth 100000 in
theorem t_X4_addOn {p : Program} {l : Launch} {e : Env} {s : State} {m : MethodId} {args : Array Value} {below : List Frame} {meth : Method} {c : Code} {D : va_G} {cs : Nat → ClassId} {A : Nat → Prop} (hC : MAt p s m args meth c RX4 cX4_addOn 6 (some .int) wsX4_addOn D cs) (q : Nat) (F : (Nat → Int32)) (x1 : Int32) (x2 : Int32) (Q : Int32 → (Nat → Int32) → Prop) (hA : ∀ q : Nat, s.heap.size ≤ q → A q) (hw : wp_X4_addOn F x1 x2 Q) (H : Heap) (locs : List Loc) (hP : va_P D vwCl (w_Row cs q 336 F) H) (hD : va_D A (w_Row cs q 336 F)) (hS : va_S A s.heap H locs) (ls : Array Slot) (hl : lv_has ls 6 [(0, .ref q), (1, .int x1), (2, .int x2)]) : W p l e ({ frames := 1, cells := 0, slots := 0, locals := 20 } : Room) s m args below meth c H locs 0 0 (MQ below (va_Qi (fun r (u : (Nat → Int32)) => Q r u) (fun (u : (Nat → Int32)) t => va_P D vwCl (w_Row cs q 336 u) t.heap ∧ va_D A (w_Row cs q 336 u)) A) args s 0 0 A) (F0 m 0 ls []) := by
  obtain ⟨hx, hb, hr, hml, hown, hts, hlocks, hKK⟩ := id hC
  have hK := hKK.1
  refine lv_iload_n hx hb dX4_addOn_0 rfl (lv_at hl 2 rfl) ?_
  refine lv_if_ge (tgt := 9) hx hb dX4_addOn_1 (by decide) (fun c1 => ?_) (fun c1 => ?_)
  · have hw := hw.1 c1
    refine lv_iload_n hx hb dX4_addOn_9 rfl (lv_at hl 2 rfl) ?_
    refine lv_istore_n (lv' := [(3, .int x2), (0, .ref q), (1, .int x1), (2, .int x2)]) hx hb dX4_addOn_10 rfl hl (by decide) rfl (fun ls hl => ?_)
    refine lv_iconst (v := (0 : Int32)) hx hb dX4_addOn_11 (by decide) ?_
    refine lv_istore (lv' := [(4, .int (0 : Int32)), (3, .int x2), (0, .ref q), (1, .int x1), (2, .int x2)]) hx hb dX4_addOn_12 hl (by decide) rfl (fun ls hl => ?_)
    refine lv_iconst (v := (0 : Int32)) hx hb dX4_addOn_14 (by decide) ?_
    refine lv_istore (lv' := [(5, .int (0 : Int32)), (4, .int (0 : Int32)), (3, .int x2), (0, .ref q), (1, .int x1), (2, .int x2)]) hx hb dX4_addOn_15 hl (by decide) rfl (fun ls hl => ?_)
    obtain ⟨n12, hw⟩ := hw
    exact t_X4_addOn_17 hC q _ _ _ hA n12 _ _ _ _ hw H locs hP hD hS ls (lv_sub hl [3, 4, 5, 2, 1, 0] rfl)
  · have hw := hw.2 c1
    refine lv_iload_n hx hb dX4_addOn_4 rfl (lv_at hl 2 rfl) ?_
    refine lv_ineg hx hb dX4_addOn_5 ?_
    refine lv_goto (tgt := 10) hx hb dX4_addOn_6 (by decide) ?_
    refine lv_istore_n (lv' := [(3, .int (-x2)), (0, .ref q), (1, .int x1), (2, .int x2)]) hx hb dX4_addOn_10 rfl hl (by decide) rfl (fun ls hl => ?_)
    refine lv_iconst (v := (0 : Int32)) hx hb dX4_addOn_11 (by decide) ?_
    refine lv_istore (lv' := [(4, .int (0 : Int32)), (3, .int (-x2)), (0, .ref q), (1, .int x1), (2, .int x2)]) hx hb dX4_addOn_12 hl (by decide) rfl (fun ls hl => ?_)
    refine lv_iconst (v := (0 : Int32)) hx hb dX4_addOn_14 (by decide) ?_
    refine lv_istore (lv' := [(5, .int (0 : Int32)), (4, .int (0 : Int32)), (3, .int (-x2)), (0, .ref q), (1, .int x1), (2, .int x2)]) hx hb dX4_addOn_15 hl (by decide) rfl (fun ls hl => ?_)
    obtain ⟨n13, hw⟩ := hw
    exact t_X4_addOn_17 hC q _ _ _ hA n13 _ _ _ _ hw H locs hP hD hS ls (lv_sub hl [3, 4, 5, 2, 1, 0] rfl)
set_option maxHeartbeats 4000000 in
set_option maxRecDepth 100000 in
theorem c_X4_addOn (l : Launch) (D : va_G) (cs : Nat → ClassId) (q : Nat) (sz : Nat) (F : (Nat → Int32)) (x1 : Int32) (x2 : Int32) (Q : Int32 → (Nat → Int32) → Prop) (hw : wp_X4_addOn F x1 x2 Q) : Met l yX4_addOn wsX4_addOn ({ frames := 1, cells := 0, slots := 0, locals := 20 } : Room) (va_Pc [.ref q, .int x1, .int x2] (PC D cs (w_Row cs q 336 F) sz)) (va_Qi (fun r (u : (Nat → Int32)) => Q r u) (fun (u : (Nat → Int32)) t => va_P D vwCl (w_Row cs q 336 u) t.heap ∧ va_D (va_A (w_Row cs q 336 F) sz) (w_Row cs q 336 u)) (va_A (w_Row cs q 336 F) sz)) 0 0 (va_A (w_Row cs q 336 F) sz) := by
  refine Met.ofW (cc := cX4_addOn) (maxL := 6) (ret := (some .int)) (by decide) rfl ?_
  intro p e s m args below meth c s₁ B hml hv
  obtain ⟨rfl, hsz, hP, hKK, hD0⟩ := hv
  have hC : MAt p s m _ meth c RX4 cX4_addOn 6 (some .int) wsX4_addOn D cs := ⟨B.exec, B.bytes, B.returns, hml, findClass_of_methodNamed B.named, atoms_spec (ws := wsX4_addOn) B.pre, B.notSynchronized, hKK⟩
  have hl := lv_entry ([.ref q, .int x1, .int x2]) (n := 6) (Nat.le_of_ble_eq_true rfl)
  rw [lg_entry_eq]
  generalize (lg_sl ([.ref q, .int x1, .int x2]) ++ List.replicate (6 - (lg_sl ([.ref q, .int x1, .int x2])).length) Slot.unset).toArray = ls at hl ⊢
  subst hsz
  have hD := hD0.self (sz := s.heap.size)
  have hA : ∀ z : Nat, s.heap.size ≤ z → va_A (w_Row cs q 336 F) s.heap.size z := fun z h => Or.inr h
  exact t_X4_addOn hC q F x1 x2 Q hA hw s.heap [] hP hD va_S.rf ls hl
set_option maxHeartbeats 4000000 in
set_option maxRecDepth 100000 in
theorem t_X4_drawOn {p : Program} {l : Launch} {e : Env} {s : State} {m : MethodId} {args : Array Value} {below : List Frame} {meth : Method} {c : Code} {D : va_G} {cs : Nat → ClassId} {A : Nat → Prop} (hC : MAt p s m args meth c RX4 cX4_drawOn 4 (some .int) wsX4_drawOn D cs) (q : Nat) (F : (Nat → Int32)) (x1 : Int32) (Q : Int32 → (Nat → Int32) → Prop) (hA : ∀ q : Nat, s.heap.size ≤ q → A q) (hw : wp_X4_drawOn F x1 Q) (H : Heap) (locs : List Loc) (hP : va_P D vwCl (w_Row cs q 336 F) H) (hD : va_D A (w_Row cs q 336 F)) (hS : va_S A s.heap H locs) (ls : Array Slot) (hl : lv_has ls 4 [(0, .ref q), (1, .int x1)]) : W p l e ({ frames := 2, cells := 0, slots := 0, locals := 44 } : Room) s m args below meth c H locs 0 0 (MQ below (va_Qi (fun r (u : (Nat → Int32)) => Q r u) (fun (u : (Nat → Int32)) t => va_P D vwCl (w_Row cs q 336 u) t.heap ∧ va_D A (w_Row cs q 336 u)) A) args s 0 0 A) (F0 m 0 ls []) := by
  obtain ⟨hx, hb, hr, hml, hown, hts, hlocks, hKK⟩ := id hC
  have hK := hKK.1
  refine lv_sipush (v := (136 : Int32)) hx hb dX4_drawOn_0 (by decide) ?_
  refine lv_iconst (v := (4 : Int32)) hx hb dX4_drawOn_3 (by decide) ?_
  refine lv_aload_n hx hb dX4_drawOn_4 rfl (lv_at hl 0 rfl) ?_
  refine lv_iconst (v := (3 : Int32)) hx hb dX4_drawOn_5 (by decide) ?_
  refine va_iald hx hb hK hP 0 0 rfl rfl (show vp_in (3 : Int32) 336 by unfold vp_in; decide) dX4_drawOn_6 ?_
  refine lv_imul hx hb dX4_drawOn_7 ?_
  refine lv_iadd hx hb dX4_drawOn_8 ?_
  refine lv_topi (fun y1 ey1 => ?_)
  have hw := hw y1 ey1
  refine lv_istore_n (lv' := [(2, .int y1), (0, .ref q), (1, .int x1)]) hx hb dX4_drawOn_9 rfl hl (by decide) rfl (fun ls hl => ?_)
  refine lv_aload_n hx hb dX4_drawOn_10 rfl (lv_at hl 1 rfl) ?_
  refine lv_iload_n hx hb dX4_drawOn_11 rfl (lv_at hl 2 rfl) ?_
  refine z_calli (va_runS (As := [.ref q, .int x1]) (rest := []) ⟨hx, hb, hml, hown, hts⟩ (c_X4_shownOn l D cs q H.size F x1 _ hw) (va_cwS 2 hts gX4_drawOn_X4_shownOn rfl rfl rfl (by decide +kernel) ⟨Nat.le_of_ble_eq_true rfl, Nat.le_of_ble_eq_true rfl⟩) (PC_S hP hD hKK) rfl rfl hl.1 rfl (lv_room (Nat.le_of_ble_eq_true rfl)) dX4_drawOn_12 ⟨Nat.le_of_ble_eq_true rfl, Nat.le_of_ble_eq_true rfl⟩) (fun r2 hw => ?_)
  refine lv_istore_n (lv' := [(3, .int r2), (2, .int y1), (0, .ref q), (1, .int x1)]) hx hb dX4_drawOn_15 rfl hl (by decide) rfl (fun ls hl => ?_)
  refine lv_aload_n hx hb dX4_drawOn_16 rfl (lv_at hl 2 rfl) ?_
  refine lv_iload_n hx hb dX4_drawOn_17 rfl (lv_at hl 1 rfl) ?_
  refine lv_iload_n hx hb dX4_drawOn_18 rfl (lv_at hl 3 rfl) ?_
  obtain ⟨h3, hw⟩ := hw
  refine va_iast hx hb hK hP hD hS 0 0 rfl rfl h3 dX4_drawOn_19 (fun H locs hP hD hS => ?_)
  have hP : va_P D vwCl (w_Row cs q 336 (upd F y1.toNatClampNeg x1)) H := hP
  have hD : va_D A (w_Row cs q 336 (upd F y1.toNatClampNeg x1)) := hD
  refine lv_aload_n hx hb dX4_drawOn_20 rfl (lv_at hl 2 rfl) ?_
  refine lv_iload_n hx hb dX4_drawOn_21 rfl (lv_at hl 1 rfl) ?_
  refine lv_iconst (v := (1 : Int32)) hx hb dX4_drawOn_22 (by decide) ?_
  refine lv_iadd hx hb dX4_drawOn_23 ?_
  refine lv_iload_n hx hb dX4_drawOn_24 rfl (lv_at hl 0 rfl) ?_
  obtain ⟨h4, hw⟩ := hw
  refine va_iast hx hb hK hP hD hS 0 0 rfl rfl h4 dX4_drawOn_25 (fun H locs hP hD hS => ?_)
  have hP : va_P D vwCl (w_Row cs q 336 (upd (upd F y1.toNatClampNeg x1) (y1 + (1 : Int32)).toNatClampNeg r2)) H := hP
  have hD : va_D A (w_Row cs q 336 (upd (upd F y1.toNatClampNeg x1) (y1 + (1 : Int32)).toNatClampNeg r2)) := hD
  refine lv_aload_n hx hb dX4_drawOn_26 rfl (lv_at hl 2 rfl) ?_
  refine lv_iload_n hx hb dX4_drawOn_27 rfl (lv_at hl 1 rfl) ?_
  refine lv_iconst (v := (2 : Int32)) hx hb dX4_drawOn_28 (by decide) ?_
  refine lv_iadd hx hb dX4_drawOn_29 ?_
  refine lv_aload_n hx hb dX4_drawOn_30 rfl (lv_at hl 2 rfl) ?_
  refine lv_iconst (v := (2 : Int32)) hx hb dX4_drawOn_31 (by decide) ?_
  refine va_iald hx hb hK hP 0 0 rfl rfl (show vp_in (2 : Int32) 336 by unfold vp_in; decide) dX4_drawOn_32 ?_
  obtain ⟨h5, hw⟩ := hw
  refine va_iast hx hb hK hP hD hS 0 0 rfl rfl h5 dX4_drawOn_33 (fun H locs hP hD hS => ?_)
  have hP : va_P D vwCl (w_Row cs q 336 (upd (upd (upd F y1.toNatClampNeg x1) (y1 + (1 : Int32)).toNatClampNeg r2) (y1 + (2 : Int32)).toNatClampNeg (upd (upd F y1.toNatClampNeg x1) (y1 + (1 : Int32)).toNatClampNeg r2 (2 : Int32).toNatClampNeg))) H := hP
  have hD : va_D A (w_Row cs q 336 (upd (upd (upd F y1.toNatClampNeg x1) (y1 + (1 : Int32)).toNatClampNeg r2) (y1 + (2 : Int32)).toNatClampNeg (upd (upd F y1.toNatClampNeg x1) (y1 + (1 : Int32)).toNatClampNeg r2 (2 : Int32).toNatClampNeg))) := hD
  refine lv_aload_n hx hb dX4_drawOn_34 rfl (lv_at hl 2 rfl) ?_
  refine lv_iload_n hx hb dX4_drawOn_35 rfl (lv_at hl 1 rfl) ?_
  refine lv_iconst (v := (3 : Int32)) hx hb dX4_drawOn_36 (by decide) ?_
  refine lv_iadd hx hb dX4_drawOn_37 ?_
  refine lv_aload_n hx hb dX4_drawOn_38 rfl (lv_at hl 2 rfl) ?_
  refine lv_iload_n hx hb dX4_drawOn_39 rfl (lv_at hl 3 rfl) ?_
  refine z_calll (va_runS (As := [.ref q, .int x1]) (rest := [.int (y1 + (3 : Int32)), .ref q]) ⟨hx, hb, hml, hown, hts⟩ (c_X4_worthOn l D cs q H.size (upd (upd (upd F y1.toNatClampNeg x1) (y1 + (1 : Int32)).toNatClampNeg r2) (y1 + (2 : Int32)).toNatClampNeg (upd (upd F y1.toNatClampNeg x1) (y1 + (1 : Int32)).toNatClampNeg r2 (2 : Int32).toNatClampNeg)) x1 _ hw) (va_cwS 2 hts gX4_drawOn_X4_worthOn rfl rfl rfl (by decide +kernel) ⟨Nat.le_of_ble_eq_true rfl, Nat.le_of_ble_eq_true rfl⟩) (PC_S hP hD hKK) rfl rfl hl.1 rfl (lv_room (Nat.le_of_ble_eq_true rfl)) dX4_drawOn_40 ⟨Nat.le_of_ble_eq_true rfl, Nat.le_of_ble_eq_true rfl⟩) (fun r6 hw => ?_)
  refine lv_iload_n hx hb dX4_drawOn_43 rfl (lv_at hl 0 rfl) ?_
  refine lv_i2l (v := r2.toInt64) hx hb dX4_drawOn_44 rfl ?_
  refine lv_lsub hx hb dX4_drawOn_45 ?_
  refine lv_l2i (v := (r6 - r2.toInt64).toInt32) hx hb dX4_drawOn_46 rfl ?_
  obtain ⟨h7, hw⟩ := hw
  refine va_iast hx hb hK hP hD hS 0 0 rfl rfl h7 dX4_drawOn_47 (fun H locs hP hD hS => ?_)
  have hP : va_P D vwCl (w_Row cs q 336 (upd (upd (upd (upd F y1.toNatClampNeg x1) (y1 + (1 : Int32)).toNatClampNeg r2) (y1 + (2 : Int32)).toNatClampNeg (upd (upd F y1.toNatClampNeg x1) (y1 + (1 : Int32)).toNatClampNeg r2 (2 : Int32).toNatClampNeg)) (y1 + (3 : Int32)).toNatClampNeg ((r6 - r2.toInt64).toInt32))) H := hP
  have hD : va_D A (w_Row cs q 336 (upd (upd (upd (upd F y1.toNatClampNeg x1) (y1 + (1 : Int32)).toNatClampNeg r2) (y1 + (2 : Int32)).toNatClampNeg (upd (upd F y1.toNatClampNeg x1) (y1 + (1 : Int32)).toNatClampNeg r2 (2 : Int32).toNatClampNeg)) (y1 + (3 : Int32)).toNatClampNeg ((r6 - r2.toInt64).toInt32))) := hD
  refine lv_aload_n hx hb dX4_drawOn_48 rfl (lv_at hl 2 rfl) ?_
  refine lv_iload_n hx hb dX4_drawOn_49 rfl (lv_at hl 3 rfl) ?_
  have hPc := hP.sub (ws' := ([] : va_W)) [] rfl
  have hDc := hD.sub (ws' := ([] : va_W)) [] (by decide) rfl
  refine z_calli (va_runS (As := [.int x1]) (rest := [.ref q]) ⟨hx, hb, hml, hown, hts⟩ (c_X4_at l D cs  H.size x1 _ hw) (va_cwS 1 hts gX4_drawOn_X4_at rfl rfl rfl (by decide +kernel) ⟨Nat.le_of_ble_eq_true rfl, Nat.le_of_ble_eq_true rfl⟩) (PC_S hPc hDc hKK) rfl rfl hl.1 rfl (lv_room (Nat.le_of_ble_eq_true rfl)) dX4_drawOn_50 ⟨Nat.le_of_ble_eq_true rfl, Nat.le_of_ble_eq_true rfl⟩) (fun r8 hw => ?_)
  refine lv_iconst (v := (3 : Int32)) hx hb dX4_drawOn_53 (by decide) ?_
  refine lv_iadd hx hb dX4_drawOn_54 ?_
  refine lv_dup2_11 hx hb dX4_drawOn_55 rfl rfl ?_
  obtain ⟨h9, hw⟩ := hw
  refine va_iald hx hb hK hP 0 0 rfl rfl h9 dX4_drawOn_56 ?_
  refine lv_iconst (v := (1 : Int32)) hx hb dX4_drawOn_57 (by decide) ?_
  refine lv_iadd hx hb dX4_drawOn_58 ?_
  obtain ⟨h10, hw⟩ := hw
  refine va_iast hx hb hK hP hD hS 0 0 rfl rfl h10 dX4_drawOn_59 (fun H locs hP hD hS => ?_)
  have hP : va_P D vwCl (w_Row cs q 336 (upd (upd (upd (upd (upd F y1.toNatClampNeg x1) (y1 + (1 : Int32)).toNatClampNeg r2) (y1 + (2 : Int32)).toNatClampNeg (upd (upd F y1.toNatClampNeg x1) (y1 + (1 : Int32)).toNatClampNeg r2 (2 : Int32).toNatClampNeg)) (y1 + (3 : Int32)).toNatClampNeg ((r6 - r2.toInt64).toInt32)) (r8 + (3 : Int32)).toNatClampNeg ((upd (upd (upd (upd F y1.toNatClampNeg x1) (y1 + (1 : Int32)).toNatClampNeg r2) (y1 + (2 : Int32)).toNatClampNeg (upd (upd F y1.toNatClampNeg x1) (y1 + (1 : Int32)).toNatClampNeg r2 (2 : Int32).toNatClampNeg)) (y1 + (3 : Int32)).toNatClampNeg ((r6 - r2.toInt64).toInt32) (r8 + (3 : Int32)).toNatClampNeg) + (1 : Int32)))) H := hP
  have hD : va_D A (w_Row cs q 336 (upd (upd (upd (upd (upd F y1.toNatClampNeg x1) (y1 + (1 : Int32)).toNatClampNeg r2) (y1 + (2 : Int32)).toNatClampNeg (upd (upd F y1.toNatClampNeg x1) (y1 + (1 : Int32)).toNatClampNeg r2 (2 : Int32).toNatClampNeg)) (y1 + (3 : Int32)).toNatClampNeg ((r6 - r2.toInt64).toInt32)) (r8 + (3 : Int32)).toNatClampNeg ((upd (upd (upd (upd F y1.toNatClampNeg x1) (y1 + (1 : Int32)).toNatClampNeg r2) (y1 + (2 : Int32)).toNatClampNeg (upd (upd F y1.toNatClampNeg x1) (y1 + (1 : Int32)).toNatClampNeg r2 (2 : Int32).toNatClampNeg)) (y1 + (3 : Int32)).toNatClampNeg ((r6 - r2.toInt64).toInt32) (r8 + (3 : Int32)).toNatClampNeg) + (1 : Int32)))) := hD
  refine lv_aload_n hx hb dX4_drawOn_60 rfl (lv_at hl 2 rfl) ?_
  refine lv_iload_n hx hb dX4_drawOn_61 rfl (lv_at hl 3 rfl) ?_
  have hPc := hP.sub (ws' := ([] : va_W)) [] rfl
  have hDc := hD.sub (ws' := ([] : va_W)) [] (by decide) rfl
  refine z_calli (va_runS (As := [.int x1]) (rest := [.ref q]) ⟨hx, hb, hml, hown, hts⟩ (c_X4_at l D cs  H.size x1 _ hw) (va_cwS 1 hts gX4_drawOn_X4_at rfl rfl rfl (by decide +kernel) ⟨Nat.le_of_ble_eq_true rfl, Nat.le_of_ble_eq_true rfl⟩) (PC_S hPc hDc hKK) rfl rfl hl.1 rfl (lv_room (Nat.le_of_ble_eq_true rfl)) dX4_drawOn_62 ⟨Nat.le_of_ble_eq_true rfl, Nat.le_of_ble_eq_true rfl⟩) (fun r11 hw => ?_)
  refine lv_bipush (v := (13 : Int32)) hx hb dX4_drawOn_65 (by decide) ?_
  refine lv_iadd hx hb dX4_drawOn_67 ?_
  refine lv_dup2_11 hx hb dX4_drawOn_68 rfl rfl ?_
  obtain ⟨h12, hw⟩ := hw
  refine va_iald hx hb hK hP 0 0 rfl rfl h12 dX4_drawOn_69 ?_
  refine lv_iconst (v := (1 : Int32)) hx hb dX4_drawOn_70 (by decide) ?_
  refine lv_iadd hx hb dX4_drawOn_71 ?_
  obtain ⟨h13, hw⟩ := hw
  refine va_iast hx hb hK hP hD hS 0 0 rfl rfl h13 dX4_drawOn_72 (fun H locs hP hD hS => ?_)
  have hP : va_P D vwCl (w_Row cs q 336 (upd (upd (upd (upd (upd (upd F y1.toNatClampNeg x1) (y1 + (1 : Int32)).toNatClampNeg r2) (y1 + (2 : Int32)).toNatClampNeg (upd (upd F y1.toNatClampNeg x1) (y1 + (1 : Int32)).toNatClampNeg r2 (2 : Int32).toNatClampNeg)) (y1 + (3 : Int32)).toNatClampNeg ((r6 - r2.toInt64).toInt32)) (r8 + (3 : Int32)).toNatClampNeg ((upd (upd (upd (upd F y1.toNatClampNeg x1) (y1 + (1 : Int32)).toNatClampNeg r2) (y1 + (2 : Int32)).toNatClampNeg (upd (upd F y1.toNatClampNeg x1) (y1 + (1 : Int32)).toNatClampNeg r2 (2 : Int32).toNatClampNeg)) (y1 + (3 : Int32)).toNatClampNeg ((r6 - r2.toInt64).toInt32) (r8 + (3 : Int32)).toNatClampNeg) + (1 : Int32))) (r11 + (13 : Int32)).toNatClampNeg ((upd (upd (upd (upd (upd F y1.toNatClampNeg x1) (y1 + (1 : Int32)).toNatClampNeg r2) (y1 + (2 : Int32)).toNatClampNeg (upd (upd F y1.toNatClampNeg x1) (y1 + (1 : Int32)).toNatClampNeg r2 (2 : Int32).toNatClampNeg)) (y1 + (3 : Int32)).toNatClampNeg ((r6 - r2.toInt64).toInt32)) (r8 + (3 : Int32)).toNatClampNeg ((upd (upd (upd (upd F y1.toNatClampNeg x1) (y1 + (1 : Int32)).toNatClampNeg r2) (y1 + (2 : Int32)).toNatClampNeg (upd (upd F y1.toNatClampNeg x1) (y1 + (1 : Int32)).toNatClampNeg r2 (2 : Int32).toNatClampNeg)) (y1 + (3 : Int32)).toNatClampNeg ((r6 - r2.toInt64).toInt32) (r8 + (3 : Int32)).toNatClampNeg) + (1 : Int32)) (r11 + (13 : Int32)).toNatClampNeg) + (1 : Int32)))) H := hP
  have hD : va_D A (w_Row cs q 336 (upd (upd (upd (upd (upd (upd F y1.toNatClampNeg x1) (y1 + (1 : Int32)).toNatClampNeg r2) (y1 + (2 : Int32)).toNatClampNeg (upd (upd F y1.toNatClampNeg x1) (y1 + (1 : Int32)).toNatClampNeg r2 (2 : Int32).toNatClampNeg)) (y1 + (3 : Int32)).toNatClampNeg ((r6 - r2.toInt64).toInt32)) (r8 + (3 : Int32)).toNatClampNeg ((upd (upd (upd (upd F y1.toNatClampNeg x1) (y1 + (1 : Int32)).toNatClampNeg r2) (y1 + (2 : Int32)).toNatClampNeg (upd (upd F y1.toNatClampNeg x1) (y1 + (1 : Int32)).toNatClampNeg r2 (2 : Int32).toNatClampNeg)) (y1 + (3 : Int32)).toNatClampNeg ((r6 - r2.toInt64).toInt32) (r8 + (3 : Int32)).toNatClampNeg) + (1 : Int32))) (r11 + (13 : Int32)).toNatClampNeg ((upd (upd (upd (upd (upd F y1.toNatClampNeg x1) (y1 + (1 : Int32)).toNatClampNeg r2) (y1 + (2 : Int32)).toNatClampNeg (upd (upd F y1.toNatClampNeg x1) (y1 + (1 : Int32)).toNatClampNeg r2 (2 : Int32).toNatClampNeg)) (y1 + (3 : Int32)).toNatClampNeg ((r6 - r2.toInt64).toInt32)) (r8 + (3 : Int32)).toNatClampNeg ((upd (upd (upd (upd F y1.toNatClampNeg x1) (y1 + (1 : Int32)).toNatClampNeg r2) (y1 + (2 : Int32)).toNatClampNeg (upd (upd F y1.toNatClampNeg x1) (y1 + (1 : Int32)).toNatClampNeg r2 (2 : Int32).toNatClampNeg)) (y1 + (3 : Int32)).toNatClampNeg ((r6 - r2.toInt64).toInt32) (r8 + (3 : Int32)).toNatClampNeg) + (1 : Int32)) (r11 + (13 : Int32)).toNatClampNeg) + (1 : Int32)))) := hD
  refine lv_aload_n hx hb dX4_drawOn_73 rfl (lv_at hl 2 rfl) ?_
  refine lv_iconst (v := (3 : Int32)) hx hb dX4_drawOn_74 (by decide) ?_
  refine lv_dup2_11 hx hb dX4_drawOn_75 rfl rfl ?_
  refine va_iald hx hb hK hP 0 0 rfl rfl (show vp_in (3 : Int32) 336 by unfold vp_in; decide) dX4_drawOn_76 ?_
  refine lv_iconst (v := (1 : Int32)) hx hb dX4_drawOn_77 (by decide) ?_
  refine lv_iadd hx hb dX4_drawOn_78 ?_
  refine va_iast hx hb hK hP hD hS 0 0 rfl rfl (show vp_in (3 : Int32) 336 by unfold vp_in; decide) dX4_drawOn_79 (fun H locs hP hD hS => ?_)
  have hP : va_P D vwCl (w_Row cs q 336 (upd (upd (upd (upd (upd (upd (upd F y1.toNatClampNeg x1) (y1 + (1 : Int32)).toNatClampNeg r2) (y1 + (2 : Int32)).toNatClampNeg (upd (upd F y1.toNatClampNeg x1) (y1 + (1 : Int32)).toNatClampNeg r2 (2 : Int32).toNatClampNeg)) (y1 + (3 : Int32)).toNatClampNeg ((r6 - r2.toInt64).toInt32)) (r8 + (3 : Int32)).toNatClampNeg ((upd (upd (upd (upd F y1.toNatClampNeg x1) (y1 + (1 : Int32)).toNatClampNeg r2) (y1 + (2 : Int32)).toNatClampNeg (upd (upd F y1.toNatClampNeg x1) (y1 + (1 : Int32)).toNatClampNeg r2 (2 : Int32).toNatClampNeg)) (y1 + (3 : Int32)).toNatClampNeg ((r6 - r2.toInt64).toInt32) (r8 + (3 : Int32)).toNatClampNeg) + (1 : Int32))) (r11 + (13 : Int32)).toNatClampNeg ((upd (upd (upd (upd (upd F y1.toNatClampNeg x1) (y1 + (1 : Int32)).toNatClampNeg r2) (y1 + (2 : Int32)).toNatClampNeg (upd (upd F y1.toNatClampNeg x1) (y1 + (1 : Int32)).toNatClampNeg r2 (2 : Int32).toNatClampNeg)) (y1 + (3 : Int32)).toNatClampNeg ((r6 - r2.toInt64).toInt32)) (r8 + (3 : Int32)).toNatClampNeg ((upd (upd (upd (upd F y1.toNatClampNeg x1) (y1 + (1 : Int32)).toNatClampNeg r2) (y1 + (2 : Int32)).toNatClampNeg (upd (upd F y1.toNatClampNeg x1) (y1 + (1 : Int32)).toNatClampNeg r2 (2 : Int32).toNatClampNeg)) (y1 + (3 : Int32)).toNatClampNeg ((r6 - r2.toInt64).toInt32) (r8 + (3 : Int32)).toNatClampNeg) + (1 : Int32)) (r11 + (13 : Int32)).toNatClampNeg) + (1 : Int32))) (3 : Int32).toNatClampNeg ((upd (upd (upd (upd (upd (upd F y1.toNatClampNeg x1) (y1 + (1 : Int32)).toNatClampNeg r2) (y1 + (2 : Int32)).toNatClampNeg (upd (upd F y1.toNatClampNeg x1) (y1 + (1 : Int32)).toNatClampNeg r2 (2 : Int32).toNatClampNeg)) (y1 + (3 : Int32)).toNatClampNeg ((r6 - r2.toInt64).toInt32)) (r8 + (3 : Int32)).toNatClampNeg ((upd (upd (upd (upd F y1.toNatClampNeg x1) (y1 + (1 : Int32)).toNatClampNeg r2) (y1 + (2 : Int32)).toNatClampNeg (upd (upd F y1.toNatClampNeg x1) (y1 + (1 : Int32)).toNatClampNeg r2 (2 : Int32).toNatClampNeg)) (y1 + (3 : Int32)).toNatClampNeg ((r6 - r2.toInt64).toInt32) (r8 + (3 : Int32)).toNatClampNeg) + (1 : Int32))) (r11 + (13 : Int32)).toNatClampNeg ((upd (upd (upd (upd (upd F y1.toNatClampNeg x1) (y1 + (1 : Int32)).toNatClampNeg r2) (y1 + (2 : Int32)).toNatClampNeg (upd (upd F y1.toNatClampNeg x1) (y1 + (1 : Int32)).toNatClampNeg r2 (2 : Int32).toNatClampNeg)) (y1 + (3 : Int32)).toNatClampNeg ((r6 - r2.toInt64).toInt32)) (r8 + (3 : Int32)).toNatClampNeg ((upd (upd (upd (upd F y1.toNatClampNeg x1) (y1 + (1 : Int32)).toNatClampNeg r2) (y1 + (2 : Int32)).toNatClampNeg (upd (upd F y1.toNatClampNeg x1) (y1 + (1 : Int32)).toNatClampNeg r2 (2 : Int32).toNatClampNeg)) (y1 + (3 : Int32)).toNatClampNeg ((r6 - r2.toInt64).toInt32) (r8 + (3 : Int32)).toNatClampNeg) + (1 : Int32)) (r11 + (13 : Int32)).toNatClampNeg) + (1 : Int32)) (3 : Int32).toNatClampNeg) + (1 : Int32)))) H := hP
  have hD : va_D A (w_Row cs q 336 (upd (upd (upd (upd (upd (upd (upd F y1.toNatClampNeg x1) (y1 + (1 : Int32)).toNatClampNeg r2) (y1 + (2 : Int32)).toNatClampNeg (upd (upd F y1.toNatClampNeg x1) (y1 + (1 : Int32)).toNatClampNeg r2 (2 : Int32).toNatClampNeg)) (y1 + (3 : Int32)).toNatClampNeg ((r6 - r2.toInt64).toInt32)) (r8 + (3 : Int32)).toNatClampNeg ((upd (upd (upd (upd F y1.toNatClampNeg x1) (y1 + (1 : Int32)).toNatClampNeg r2) (y1 + (2 : Int32)).toNatClampNeg (upd (upd F y1.toNatClampNeg x1) (y1 + (1 : Int32)).toNatClampNeg r2 (2 : Int32).toNatClampNeg)) (y1 + (3 : Int32)).toNatClampNeg ((r6 - r2.toInt64).toInt32) (r8 + (3 : Int32)).toNatClampNeg) + (1 : Int32))) (r11 + (13 : Int32)).toNatClampNeg ((upd (upd (upd (upd (upd F y1.toNatClampNeg x1) (y1 + (1 : Int32)).toNatClampNeg r2) (y1 + (2 : Int32)).toNatClampNeg (upd (upd F y1.toNatClampNeg x1) (y1 + (1 : Int32)).toNatClampNeg r2 (2 : Int32).toNatClampNeg)) (y1 + (3 : Int32)).toNatClampNeg ((r6 - r2.toInt64).toInt32)) (r8 + (3 : Int32)).toNatClampNeg ((upd (upd (upd (upd F y1.toNatClampNeg x1) (y1 + (1 : Int32)).toNatClampNeg r2) (y1 + (2 : Int32)).toNatClampNeg (upd (upd F y1.toNatClampNeg x1) (y1 + (1 : Int32)).toNatClampNeg r2 (2 : Int32).toNatClampNeg)) (y1 + (3 : Int32)).toNatClampNeg ((r6 - r2.toInt64).toInt32) (r8 + (3 : Int32)).toNatClampNeg) + (1 : Int32)) (r11 + (13 : Int32)).toNatClampNeg) + (1 : Int32))) (3 : Int32).toNatClampNeg ((upd (upd (upd (upd (upd (upd F y1.toNatClampNeg x1) (y1 + (1 : Int32)).toNatClampNeg r2) (y1 + (2 : Int32)).toNatClampNeg (upd (upd F y1.toNatClampNeg x1) (y1 + (1 : Int32)).toNatClampNeg r2 (2 : Int32).toNatClampNeg)) (y1 + (3 : Int32)).toNatClampNeg ((r6 - r2.toInt64).toInt32)) (r8 + (3 : Int32)).toNatClampNeg ((upd (upd (upd (upd F y1.toNatClampNeg x1) (y1 + (1 : Int32)).toNatClampNeg r2) (y1 + (2 : Int32)).toNatClampNeg (upd (upd F y1.toNatClampNeg x1) (y1 + (1 : Int32)).toNatClampNeg r2 (2 : Int32).toNatClampNeg)) (y1 + (3 : Int32)).toNatClampNeg ((r6 - r2.toInt64).toInt32) (r8 + (3 : Int32)).toNatClampNeg) + (1 : Int32))) (r11 + (13 : Int32)).toNatClampNeg ((upd (upd (upd (upd (upd F y1.toNatClampNeg x1) (y1 + (1 : Int32)).toNatClampNeg r2) (y1 + (2 : Int32)).toNatClampNeg (upd (upd F y1.toNatClampNeg x1) (y1 + (1 : Int32)).toNatClampNeg r2 (2 : Int32).toNatClampNeg)) (y1 + (3 : Int32)).toNatClampNeg ((r6 - r2.toInt64).toInt32)) (r8 + (3 : Int32)).toNatClampNeg ((upd (upd (upd (upd F y1.toNatClampNeg x1) (y1 + (1 : Int32)).toNatClampNeg r2) (y1 + (2 : Int32)).toNatClampNeg (upd (upd F y1.toNatClampNeg x1) (y1 + (1 : Int32)).toNatClampNeg r2 (2 : Int32).toNatClampNeg)) (y1 + (3 : Int32)).toNatClampNeg ((r6 - r2.toInt64).toInt32) (r8 + (3 : Int32)).toNatClampNeg) + (1 : Int32)) (r11 + (13 : Int32)).toNatClampNeg) + (1 : Int32)) (3 : Int32).toNatClampNeg) + (1 : Int32)))) := hD
  refine lv_iload_n hx hb dX4_drawOn_80 rfl (lv_at hl 0 rfl) ?_
  exact W.iret (v := r2) hx hb hr (fun t ht hW => ⟨⟨r2, (upd (upd (upd (upd (upd (upd (upd F y1.toNatClampNeg x1) (y1 + (1 : Int32)).toNatClampNeg r2) (y1 + (2 : Int32)).toNatClampNeg (upd (upd F y1.toNatClampNeg x1) (y1 + (1 : Int32)).toNatClampNeg r2 (2 : Int32).toNatClampNeg)) (y1 + (3 : Int32)).toNatClampNeg ((r6 - r2.toInt64).toInt32)) (r8 + (3 : Int32)).toNatClampNeg ((upd (upd (upd (upd F y1.toNatClampNeg x1) (y1 + (1 : Int32)).toNatClampNeg r2) (y1 + (2 : Int32)).toNatClampNeg (upd (upd F y1.toNatClampNeg x1) (y1 + (1 : Int32)).toNatClampNeg r2 (2 : Int32).toNatClampNeg)) (y1 + (3 : Int32)).toNatClampNeg ((r6 - r2.toInt64).toInt32) (r8 + (3 : Int32)).toNatClampNeg) + (1 : Int32))) (r11 + (13 : Int32)).toNatClampNeg ((upd (upd (upd (upd (upd F y1.toNatClampNeg x1) (y1 + (1 : Int32)).toNatClampNeg r2) (y1 + (2 : Int32)).toNatClampNeg (upd (upd F y1.toNatClampNeg x1) (y1 + (1 : Int32)).toNatClampNeg r2 (2 : Int32).toNatClampNeg)) (y1 + (3 : Int32)).toNatClampNeg ((r6 - r2.toInt64).toInt32)) (r8 + (3 : Int32)).toNatClampNeg ((upd (upd (upd (upd F y1.toNatClampNeg x1) (y1 + (1 : Int32)).toNatClampNeg r2) (y1 + (2 : Int32)).toNatClampNeg (upd (upd F y1.toNatClampNeg x1) (y1 + (1 : Int32)).toNatClampNeg r2 (2 : Int32).toNatClampNeg)) (y1 + (3 : Int32)).toNatClampNeg ((r6 - r2.toInt64).toInt32) (r8 + (3 : Int32)).toNatClampNeg) + (1 : Int32)) (r11 + (13 : Int32)).toNatClampNeg) + (1 : Int32))) (3 : Int32).toNatClampNeg ((upd (upd (upd (upd (upd (upd F y1.toNatClampNeg x1) (y1 + (1 : Int32)).toNatClampNeg r2) (y1 + (2 : Int32)).toNatClampNeg (upd (upd F y1.toNatClampNeg x1) (y1 + (1 : Int32)).toNatClampNeg r2 (2 : Int32).toNatClampNeg)) (y1 + (3 : Int32)).toNatClampNeg ((r6 - r2.toInt64).toInt32)) (r8 + (3 : Int32)).toNatClampNeg ((upd (upd (upd (upd F y1.toNatClampNeg x1) (y1 + (1 : Int32)).toNatClampNeg r2) (y1 + (2 : Int32)).toNatClampNeg (upd (upd F y1.toNatClampNeg x1) (y1 + (1 : Int32)).toNatClampNeg r2 (2 : Int32).toNatClampNeg)) (y1 + (3 : Int32)).toNatClampNeg ((r6 - r2.toInt64).toInt32) (r8 + (3 : Int32)).toNatClampNeg) + (1 : Int32))) (r11 + (13 : Int32)).toNatClampNeg ((upd (upd (upd (upd (upd F y1.toNatClampNeg x1) (y1 + (1 : Int32)).toNatClampNeg r2) (y1 + (2 : Int32)).toNatClampNeg (upd (upd F y1.toNatClampNeg x1) (y1 + (1 : Int32)).toNatClampNeg r2 (2 : Int32).toNatClampNeg)) (y1 + (3 : Int32)).toNatClampNeg ((r6 - r2.toInt64).toInt32)) (r8 + (3 : Int32)).toNatClampNeg ((upd (upd (upd (upd F y1.toNatClampNeg x1) (y1 + (1 : Int32)).toNatClampNeg r2) (y1 + (2 : Int32)).toNatClampNeg (upd (upd F y1.toNatClampNeg x1) (y1 + (1 : Int32)).toNatClampNeg r2 (2 : Int32).toNatClampNeg)) (y1 + (3 : Int32)).toNatClampNeg ((r6 - r2.toInt64).toInt32) (r8 + (3 : Int32)).toNatClampNeg) + (1 : Int32)) (r11 + (13 : Int32)).toNatClampNeg) + (1 : Int32)) (3 : Int32).toNatClampNeg) + (1 : Int32))), rfl, hw, by rw [ht]; exact hP, hD⟩, hS.F ht⟩) hS.2.2 dX4_drawOn_81 hlocks
set_option maxHeartbeats 4000000 in
set_option maxRecDepth 100000 in
theorem c_X4_drawOn (l : Launch) (D : va_G) (cs : Nat → ClassId) (q : Nat) (sz : Nat) (F : (Nat → Int32)) (x1 : Int32) (Q : Int32 → (Nat → Int32) → Prop) (hw : wp_X4_drawOn F x1 Q) : Met l yX4_drawOn wsX4_drawOn ({ frames := 2, cells := 0, slots := 0, locals := 44 } : Room) (va_Pc [.ref q, .int x1] (PC D cs (w_Row cs q 336 F) sz)) (va_Qi (fun r (u : (Nat → Int32)) => Q r u) (fun (u : (Nat → Int32)) t => va_P D vwCl (w_Row cs q 336 u) t.heap ∧ va_D (va_A (w_Row cs q 336 F) sz) (w_Row cs q 336 u)) (va_A (w_Row cs q 336 F) sz)) 0 0 (va_A (w_Row cs q 336 F) sz) := by
  refine Met.ofW (cc := cX4_drawOn) (maxL := 4) (ret := (some .int)) (by decide) rfl ?_
  intro p e s m args below meth c s₁ B hml hv
  obtain ⟨rfl, hsz, hP, hKK, hD0⟩ := hv
  have hC : MAt p s m _ meth c RX4 cX4_drawOn 4 (some .int) wsX4_drawOn D cs := ⟨B.exec, B.bytes, B.returns, hml, findClass_of_methodNamed B.named, atoms_spec (ws := wsX4_drawOn) B.pre, B.notSynchronized, hKK⟩
  have hl := lv_entry ([.ref q, .int x1]) (n := 4) (Nat.le_of_ble_eq_true rfl)
  rw [lg_entry_eq]
  generalize (lg_sl ([.ref q, .int x1]) ++ List.replicate (4 - (lg_sl ([.ref q, .int x1])).length) Slot.unset).toArray = ls at hl ⊢
  subst hsz
  have hD := hD0.self (sz := s.heap.size)
  have hA : ∀ z : Nat, s.heap.size ≤ z → va_A (w_Row cs q 336 F) s.heap.size z := fun z h => Or.inr h
  exact t_X4_drawOn hC q F x1 Q hA hw s.heap [] hP hD va_S.rf ls hl
set_option maxHeartbeats 4000000 in
set_option maxRecDepth 100000 in
theorem t_X4_linkOn_22 {p : Program} {l : Launch} {e : Env} {s : State} {m : MethodId} {args : Array Value} {below : List Frame} {meth : Method} {c : Code} {D : va_G} {cs : Nat → ClassId} {A : Nat → Prop} (hC : MAt p s m args meth c RX4 cX4_linkOn 5 (some .int) wsX4_linkOn D cs) (q : Nat) (F : (Nat → Int32)) (Q : Int32 → (Nat → Int32) → Prop) (hA : ∀ q : Nat, s.heap.size ≤ q → A q) : ∀ (n : Nat) (x3 : Int32) (x4 : Int32), wl_X4_linkOn_22 F Q n x3 x4 → ∀ (H : Heap) (locs : List Loc), va_P D vwCl (w_Row cs q 336 F) H → va_D A (w_Row cs q 336 F) → va_S A s.heap H locs → ∀ ls : Array Slot, lv_has ls 5 [(0, .ref q), (3, .int x3), (4, .int x4)] → W p l e ({ frames := 1, cells := 0, slots := 0, locals := 20 } : Room) s m args below meth c H locs 0 0 (MQ below (va_Qi (fun r (u : (Nat → Int32)) => Q r u) (fun (u : (Nat → Int32)) t => va_P D vwCl (w_Row cs q 336 u) t.heap ∧ va_D A (w_Row cs q 336 u)) A) args s 0 0 A) (F0 m 22 ls []) := by
  obtain ⟨hx, hb, hr, hml, hown, hts, hlocks, hKK⟩ := id hC
  have hK := hKK.1
  intro n
  induction n with
  | zero =>
    intro x3 x4 hw
    exact False.elim hw
  | succ n ih =>
    intro x3 x4 hw H locs hP hD hS ls hl
    refine lv_iload hx hb dX4_linkOn_22 (lv_at hl 2 rfl) ?_
    refine lv_aload_n hx hb dX4_linkOn_24 rfl (lv_at hl 0 rfl) ?_
    refine lv_iconst (v := (0 : Int32)) hx hb dX4_linkOn_25 (by decide) ?_
    refine va_iald hx hb hK hP 0 0 rfl rfl (show vp_in (0 : Int32) 336 by unfold vp_in; decide) dX4_linkOn_26 ?_
    refine lv_icmp_ge (tgt := 48) hx hb dX4_linkOn_27 (by decide) (fun c4 => ?_) (fun c4 => ?_)
    · have hw := hw.1 c4
      refine lv_iload_n hx hb dX4_linkOn_48 rfl (lv_at hl 1 rfl) ?_
      exact W.iret (v := x3) hx hb hr (fun t ht hW => ⟨⟨x3, (F), rfl, hw, by rw [ht]; exact hP, hD⟩, hS.F ht⟩) hS.2.2 dX4_linkOn_49 hlocks
    · have hw := hw.2 c4
      refine lv_iload_n hx hb dX4_linkOn_30 rfl (lv_at hl 1 rfl) ?_
      refine lv_aload_n hx hb dX4_linkOn_31 rfl (lv_at hl 0 rfl) ?_
      refine lv_iload hx hb dX4_linkOn_32 (lv_at hl 2 rfl) ?_
      have hPc := hP.sub (ws' := ([] : va_W)) [] rfl
      have hDc := hD.sub (ws' := ([] : va_W)) [] (by decide) rfl
      refine z_calli (va_runS (As := [.int x4]) (rest := [.ref q, .int x3]) ⟨hx, hb, hml, hown, hts⟩ (c_X4_at l D cs  H.size x4 _ hw) (va_cwS 1 hts gX4_linkOn_X4_at rfl rfl rfl (by decide +kernel) ⟨Nat.le_of_ble_eq_true rfl, Nat.le_of_ble_eq_true rfl⟩) (PC_S hPc hDc hKK) rfl rfl hl.1 rfl (lv_room (Nat.le_of_ble_eq_true rfl)) dX4_linkOn_34 ⟨Nat.le_of_ble_eq_true rfl, Nat.le_of_ble_eq_true rfl⟩) (fun r5 hw => ?_)
      refine lv_iconst (v := (1 : Int32)) hx hb dX4_linkOn_37 (by decide) ?_
      refine lv_iadd hx hb dX4_linkOn_38 ?_
      obtain ⟨h6, hw⟩ := hw
      refine va_iald hx hb hK hP 0 0 rfl rfl h6 dX4_linkOn_39 ?_
      refine lv_iadd hx hb dX4_linkOn_40 ?_
      refine lv_topi (fun y7 ey7 => ?_)
      have hw := hw y7 ey7
      refine lv_istore_n (lv' := [(3, .int y7), (0, .ref q), (4, .int x4)]) hx hb dX4_linkOn_41 rfl hl (by decide) rfl (fun ls hl => ?_)
      refine lv_iinc (v := x4 + 1) (lv' := [(4, .int (x4 + 1)), (3, .int y7), (0, .ref q)]) hx hb dX4_linkOn_42 hl (k := 2) rfl rfl (by decide) rfl (fun ls hl => ?_)
      refine lv_goto (tgt := 22) hx hb dX4_linkOn_45 (by decide) ?_
      exact ih _ _ hw H locs hP hD hS ls (lv_sub hl [2, 1, 0] rfl)
set_option maxHeartbeats 4000000 in
set_option maxRecDepth 100000 in
theorem t_X4_linkOn {p : Program} {l : Launch} {e : Env} {s : State} {m : MethodId} {args : Array Value} {below : List Frame} {meth : Method} {c : Code} {D : va_G} {cs : Nat → ClassId} {A : Nat → Prop} (hC : MAt p s m args meth c RX4 cX4_linkOn 5 (some .int) wsX4_linkOn D cs) (q : Nat) (F : (Nat → Int32)) (x1 : Int32) (x2 : Int32) (Q : Int32 → (Nat → Int32) → Prop) (hA : ∀ q : Nat, s.heap.size ≤ q → A q) (hw : wp_X4_linkOn F x1 x2 Q) (H : Heap) (locs : List Loc) (hP : va_P D vwCl (w_Row cs q 336 F) H) (hD : va_D A (w_Row cs q 336 F)) (hS : va_S A s.heap H locs) (ls : Array Slot) (hl : lv_has ls 5 [(0, .ref q), (1, .int x1), (2, .int x2)]) : W p l e ({ frames := 1, cells := 0, slots := 0, locals := 20 } : Room) s m args below meth c H locs 0 0 (MQ below (va_Qi (fun r (u : (Nat → Int32)) => Q r u) (fun (u : (Nat → Int32)) t => va_P D vwCl (w_Row cs q 336 u) t.heap ∧ va_D A (w_Row cs q 336 u)) A) args s 0 0 A) (F0 m 0 ls []) := by
  obtain ⟨hx, hb, hr, hml, hown, hts, hlocks, hKK⟩ := id hC
  have hK := hKK.1
  refine lv_aload_n hx hb dX4_linkOn_0 rfl (lv_at hl 0 rfl) ?_
  refine lv_iload_n hx hb dX4_linkOn_1 rfl (lv_at hl 1 rfl) ?_
  have hPc := hP.sub (ws' := ([] : va_W)) [] rfl
  have hDc := hD.sub (ws' := ([] : va_W)) [] (by decide) rfl
  refine z_calli (va_runS (As := [.int x1]) (rest := [.ref q]) ⟨hx, hb, hml, hown, hts⟩ (c_X4_at l D cs  H.size x1 _ hw) (va_cwS 1 hts gX4_linkOn_X4_at rfl rfl rfl (by decide +kernel) ⟨Nat.le_of_ble_eq_true rfl, Nat.le_of_ble_eq_true rfl⟩) (PC_S hPc hDc hKK) rfl rfl hl.1 rfl (lv_room (Nat.le_of_ble_eq_true rfl)) dX4_linkOn_2 ⟨Nat.le_of_ble_eq_true rfl, Nat.le_of_ble_eq_true rfl⟩) (fun r1 hw => ?_)
  refine lv_iconst (v := (1 : Int32)) hx hb dX4_linkOn_5 (by decide) ?_
  refine lv_iadd hx hb dX4_linkOn_6 ?_
  refine lv_iload_n hx hb dX4_linkOn_7 rfl (lv_at hl 2 rfl) ?_
  refine lv_if_eq (tgt := 15) hx hb dX4_linkOn_8 (by decide) (fun c2 => ?_) (fun c2 => ?_)
  · have hw := hw.1 c2
    refine lv_iconst (v := (0 : Int32)) hx hb dX4_linkOn_15 (by decide) ?_
    obtain ⟨h3, hw⟩ := hw
    refine va_iast hx hb hK hP hD hS 0 0 rfl rfl h3 dX4_linkOn_16 (fun H locs hP hD hS => ?_)
    have hP : va_P D vwCl (w_Row cs q 336 (upd F (r1 + (1 : Int32)).toNatClampNeg (0 : Int32))) H := hP
    have hD : va_D A (w_Row cs q 336 (upd F (r1 + (1 : Int32)).toNatClampNeg (0 : Int32))) := hD
    refine lv_iconst (v := (0 : Int32)) hx hb dX4_linkOn_17 (by decide) ?_
    refine lv_istore_n (lv' := [(3, .int (0 : Int32)), (0, .ref q), (1, .int x1), (2, .int x2)]) hx hb dX4_linkOn_18 rfl hl (by decide) rfl (fun ls hl => ?_)
    refine lv_iconst (v := (0 : Int32)) hx hb dX4_linkOn_19 (by decide) ?_
    refine lv_istore (lv' := [(4, .int (0 : Int32)), (3, .int (0 : Int32)), (0, .ref q), (1, .int x1), (2, .int x2)]) hx hb dX4_linkOn_20 hl (by decide) rfl (fun ls hl => ?_)
    obtain ⟨n8, hw⟩ := hw
    exact t_X4_linkOn_22 hC q _ _ hA n8 _ _ hw H locs hP hD hS ls (lv_sub hl [2, 1, 0] rfl)
  · have hw := hw.2 c2
    refine lv_iconst (v := (1 : Int32)) hx hb dX4_linkOn_11 (by decide) ?_
    refine lv_goto (tgt := 16) hx hb dX4_linkOn_12 (by decide) ?_
    obtain ⟨h9, hw⟩ := hw
    refine va_iast hx hb hK hP hD hS 0 0 rfl rfl h9 dX4_linkOn_16 (fun H locs hP hD hS => ?_)
    have hP : va_P D vwCl (w_Row cs q 336 (upd F (r1 + (1 : Int32)).toNatClampNeg (1 : Int32))) H := hP
    have hD : va_D A (w_Row cs q 336 (upd F (r1 + (1 : Int32)).toNatClampNeg (1 : Int32))) := hD
    refine lv_iconst (v := (0 : Int32)) hx hb dX4_linkOn_17 (by decide) ?_
    refine lv_istore_n (lv' := [(3, .int (0 : Int32)), (0, .ref q), (1, .int x1), (2, .int x2)]) hx hb dX4_linkOn_18 rfl hl (by decide) rfl (fun ls hl => ?_)
    refine lv_iconst (v := (0 : Int32)) hx hb dX4_linkOn_19 (by decide) ?_
    refine lv_istore (lv' := [(4, .int (0 : Int32)), (3, .int (0 : Int32)), (0, .ref q), (1, .int x1), (2, .int x2)]) hx hb dX4_linkOn_20 hl (by decide) rfl (fun ls hl => ?_)
    obtain ⟨n10, hw⟩ := hw
    exact t_X4_linkOn_22 hC q _ _ hA n10 _ _ hw H locs hP hD hS ls (lv_sub hl [2, 1, 0] rfl)
set_option maxHeartbeats 4000000 in
set_option maxRecDepth 100000 in
theorem c_X4_linkOn (l : Launch) (D : va_G) (cs : Nat → ClassId) (q : Nat) (sz : Nat) (F : (Nat → Int32)) (x1 : Int32) (x2 : Int32) (Q : Int32 → (Nat → Int32) → Prop) (hw : wp_X4_linkOn F x1 x2 Q) : Met l yX4_linkOn wsX4_linkOn ({ frames := 1, cells := 0, slots := 0, locals := 20 } : Room) (va_Pc [.ref q, .int x1, .int x2] (PC D cs (w_Row cs q 336 F) sz)) (va_Qi (fun r (u : (Nat → Int32)) => Q r u) (fun (u : (Nat → Int32)) t => va_P D vwCl (w_Row cs q 336 u) t.heap ∧ va_D (va_A (w_Row cs q 336 F) sz) (w_Row cs q 336 u)) (va_A (w_Row cs q 336 F) sz)) 0 0 (va_A (w_Row cs q 336 F) sz) := by
  refine Met.ofW (cc := cX4_linkOn) (maxL := 5) (ret := (some .int)) (by decide) rfl ?_
  intro p e s m args below meth c s₁ B hml hv
  obtain ⟨rfl, hsz, hP, hKK, hD0⟩ := hv
  have hC : MAt p s m _ meth c RX4 cX4_linkOn 5 (some .int) wsX4_linkOn D cs := ⟨B.exec, B.bytes, B.returns, hml, findClass_of_methodNamed B.named, atoms_spec (ws := wsX4_linkOn) B.pre, B.notSynchronized, hKK⟩
  have hl := lv_entry ([.ref q, .int x1, .int x2]) (n := 5) (Nat.le_of_ble_eq_true rfl)
  rw [lg_entry_eq]
  generalize (lg_sl ([.ref q, .int x1, .int x2]) ++ List.replicate (5 - (lg_sl ([.ref q, .int x1, .int x2])).length) Slot.unset).toArray = ls at hl ⊢
  subst hsz
  have hD := hD0.self (sz := s.heap.size)
  have hA : ∀ z : Nat, s.heap.size ≤ z → va_A (w_Row cs q 336 F) s.heap.size z := fun z h => Or.inr h
  exact t_X4_linkOn hC q F x1 x2 Q hA hw s.heap [] hP hD va_S.rf ls hl
set_option maxHeartbeats 4000000 in
set_option maxRecDepth 100000 in
theorem t_X4_pourOn_9 {p : Program} {l : Launch} {e : Env} {s : State} {m : MethodId} {args : Array Value} {below : List Frame} {meth : Method} {c : Code} {D : va_G} {cs : Nat → ClassId} {A : Nat → Prop} (hC : MAt p s m args meth c RX4 cX4_pourOn 7 (some .long) wsX4_pourOn D cs) (q : Nat) (x1 : Int32) (x2 : Int32) (x3 : Int64) (Q : Int64 → (Nat → Int32) → Prop) (hA : ∀ q : Nat, s.heap.size ≤ q → A q) : ∀ (n : Nat) (F : (Nat → Int32)) (x5 : Int32), wl_X4_pourOn_9 x1 x2 x3 Q n F x5 → ∀ (H : Heap) (locs : List Loc), va_P D vwCl (w_Row cs q 336 F) H → va_D A (w_Row cs q 336 F) → va_S A s.heap H locs → ∀ ls : Array Slot, lv_has ls 7 [(0, .ref q), (1, .int x1), (2, .int x2), (3, .long x3), (5, .int x5)] → W p l e ({ frames := 2, cells := 0, slots := 0, locals := 44 } : Room) s m args below meth c H locs 0 0 (MQ below (va_Ql (fun r (u : (Nat → Int32)) => Q r u) (fun (u : (Nat → Int32)) t => va_P D vwCl (w_Row cs q 336 u) t.heap ∧ va_D A (w_Row cs q 336 u)) A) args s 0 0 A) (F0 m 9 ls []) := by
  obtain ⟨hx, hb, hr, hml, hown, hts, hlocks, hKK⟩ := id hC
  have hK := hKK.1
  intro n
  induction n with
  | zero =>
    intro F x5 hw
    exact False.elim hw
  | succ n ih =>
    intro F x5 hw H locs hP hD hS ls hl
    refine lv_iload hx hb dX4_pourOn_9 (lv_at hl 4 rfl) ?_
    refine lv_aload_n hx hb dX4_pourOn_11 rfl (lv_at hl 0 rfl) ?_
    refine lv_iload_n hx hb dX4_pourOn_12 rfl (lv_at hl 1 rfl) ?_
    have hPc := hP.sub (ws' := ([] : va_W)) [] rfl
    have hDc := hD.sub (ws' := ([] : va_W)) [] (by decide) rfl
    refine z_calli (va_runS (As := [.int x1]) (rest := [.ref q, .int x5]) ⟨hx, hb, hml, hown, hts⟩ (c_X4_at l D cs  H.size x1 _ hw) (va_cwS 1 hts gX4_pourOn_X4_at rfl rfl rfl (by decide +kernel) ⟨Nat.le_of_ble_eq_true rfl, Nat.le_of_ble_eq_true rfl⟩) (PC_S hPc hDc hKK) rfl rfl hl.1 rfl (lv_room (Nat.le_of_ble_eq_true rfl)) dX4_pourOn_13 ⟨Nat.le_of_ble_eq_true rfl, Nat.le_of_ble_eq_true rfl⟩) (fun r2 hw => ?_)
    refine lv_iconst (v := (0 : Int32)) hx hb dX4_pourOn_16 (by decide) ?_
    refine lv_iadd hx hb dX4_pourOn_17 ?_
    obtain ⟨h3, hw⟩ := hw
    refine va_iald hx hb hK hP 0 0 rfl rfl h3 dX4_pourOn_18 ?_
    refine lv_icmp_ge (tgt := 125) hx hb dX4_pourOn_19 (by decide) (fun c4 => ?_) (fun c4 => ?_)
    · have hw := hw.1 c4
      refine lv_aload_n hx hb dX4_pourOn_125 rfl (lv_at hl 0 rfl) ?_
      refine lv_iload_n hx hb dX4_pourOn_126 rfl (lv_at hl 2 rfl) ?_
      refine z_calll (va_runS (As := [.ref q, .int x2]) (rest := []) ⟨hx, hb, hml, hown, hts⟩ (c_X4_worthOn l D cs q H.size F x2 _ hw) (va_cwS 2 hts gX4_pourOn_X4_worthOn rfl rfl rfl (by decide +kernel) ⟨Nat.le_of_ble_eq_true rfl, Nat.le_of_ble_eq_true rfl⟩) (PC_S hP hD hKK) rfl rfl hl.1 rfl (lv_room (Nat.le_of_ble_eq_true rfl)) dX4_pourOn_127 ⟨Nat.le_of_ble_eq_true rfl, Nat.le_of_ble_eq_true rfl⟩) (fun r5 hw => ?_)
      refine lv_lload_n hx hb dX4_pourOn_130 rfl (lv_at hl 3 rfl) ?_
      refine lv_lsub hx hb dX4_pourOn_131 ?_
      exact W.lret (v := r5 - x3) hx hb hr (fun t ht hW => ⟨⟨r5 - x3, (F), rfl, hw, by rw [ht]; exact hP, hD⟩, hS.F ht⟩) hS.2.2 dX4_pourOn_132 hlocks
    · have hw := hw.2 c4
      refine lv_aload_n hx hb dX4_pourOn_22 rfl (lv_at hl 0 rfl) ?_
      refine lv_iload_n hx hb dX4_pourOn_23 rfl (lv_at hl 1 rfl) ?_
      have hPc := hP.sub (ws' := ([] : va_W)) [] rfl
      have hDc := hD.sub (ws' := ([] : va_W)) [] (by decide) rfl
      refine z_calli (va_runS (As := [.int x1]) (rest := [.ref q]) ⟨hx, hb, hml, hown, hts⟩ (c_X4_at l D cs  H.size x1 _ hw) (va_cwS 1 hts gX4_pourOn_X4_at rfl rfl rfl (by decide +kernel) ⟨Nat.le_of_ble_eq_true rfl, Nat.le_of_ble_eq_true rfl⟩) (PC_S hPc hDc hKK) rfl rfl hl.1 rfl (lv_room (Nat.le_of_ble_eq_true rfl)) dX4_pourOn_24 ⟨Nat.le_of_ble_eq_true rfl, Nat.le_of_ble_eq_true rfl⟩) (fun r6 hw => ?_)
      refine lv_iconst (v := (4 : Int32)) hx hb dX4_pourOn_27 (by decide) ?_
      refine lv_iadd hx hb dX4_pourOn_28 ?_
      refine lv_iload hx hb dX4_pourOn_29 (lv_at hl 4 rfl) ?_
      refine lv_iadd hx hb dX4_pourOn_31 ?_
      obtain ⟨h7, hw⟩ := hw
      refine va_iald hx hb hK hP 0 0 rfl rfl h7 dX4_pourOn_32 ?_
      refine lv_aload_n hx hb dX4_pourOn_33 rfl (lv_at hl 0 rfl) ?_
      refine lv_iload_n hx hb dX4_pourOn_34 rfl (lv_at hl 1 rfl) ?_
      have hPc := hP.sub (ws' := ([] : va_W)) [] rfl
      have hDc := hD.sub (ws' := ([] : va_W)) [] (by decide) rfl
      refine z_calli (va_runS (As := [.int x1]) (rest := [.ref q, .int (F ((r6 + (4 : Int32)) + x5).toNatClampNeg)]) ⟨hx, hb, hml, hown, hts⟩ (c_X4_at l D cs  H.size x1 _ hw) (va_cwS 1 hts gX4_pourOn_X4_at rfl rfl rfl (by decide +kernel) ⟨Nat.le_of_ble_eq_true rfl, Nat.le_of_ble_eq_true rfl⟩) (PC_S hPc hDc hKK) rfl rfl hl.1 rfl (lv_room (Nat.le_of_ble_eq_true rfl)) dX4_pourOn_35 ⟨Nat.le_of_ble_eq_true rfl, Nat.le_of_ble_eq_true rfl⟩) (fun r8 hw => ?_)
      refine lv_bipush (v := (13 : Int32)) hx hb dX4_pourOn_38 (by decide) ?_
      refine lv_iadd hx hb dX4_pourOn_40 ?_
      refine lv_iload hx hb dX4_pourOn_41 (lv_at hl 4 rfl) ?_
      refine lv_iadd hx hb dX4_pourOn_43 ?_
      obtain ⟨h9, hw⟩ := hw
      refine va_iald hx hb hK hP 0 0 rfl rfl h9 dX4_pourOn_44 ?_
      refine lv_iadd hx hb dX4_pourOn_45 ?_
      refine lv_topi (fun y10 ey10 => ?_)
      have hw := hw y10 ey10
      refine lv_istore (lv' := [(6, .int y10), (0, .ref q), (1, .int x1), (2, .int x2), (3, .long x3), (5, .int x5)]) hx hb dX4_pourOn_46 hl (by decide) rfl (fun ls hl => ?_)
      refine lv_aload_n hx hb dX4_pourOn_48 rfl (lv_at hl 1 rfl) ?_
      refine lv_iload_n hx hb dX4_pourOn_49 rfl (lv_at hl 2 rfl) ?_
      have hPc := hP.sub (ws' := ([] : va_W)) [] rfl
      have hDc := hD.sub (ws' := ([] : va_W)) [] (by decide) rfl
      refine z_calli (va_runS (As := [.int x1]) (rest := [.ref q]) ⟨hx, hb, hml, hown, hts⟩ (c_X4_at l D cs  H.size x1 _ hw) (va_cwS 1 hts gX4_pourOn_X4_at rfl rfl rfl (by decide +kernel) ⟨Nat.le_of_ble_eq_true rfl, Nat.le_of_ble_eq_true rfl⟩) (PC_S hPc hDc hKK) rfl rfl hl.1 rfl (lv_room (Nat.le_of_ble_eq_true rfl)) dX4_pourOn_50 ⟨Nat.le_of_ble_eq_true rfl, Nat.le_of_ble_eq_true rfl⟩) (fun r11 hw => ?_)
      refine lv_iconst (v := (4 : Int32)) hx hb dX4_pourOn_53 (by decide) ?_
      refine lv_iadd hx hb dX4_pourOn_54 ?_
      refine lv_iload hx hb dX4_pourOn_55 (lv_at hl 5 rfl) ?_
      refine lv_iadd hx hb dX4_pourOn_57 ?_
      refine lv_iconst (v := (0 : Int32)) hx hb dX4_pourOn_58 (by decide) ?_
      obtain ⟨h12, hw⟩ := hw
      refine va_iast hx hb hK hP hD hS 0 0 rfl rfl h12 dX4_pourOn_59 (fun H locs hP hD hS => ?_)
      have hP : va_P D vwCl (w_Row cs q 336 (upd F ((r11 + (4 : Int32)) + x5).toNatClampNeg (0 : Int32))) H := hP
      have hD : va_D A (w_Row cs q 336 (upd F ((r11 + (4 : Int32)) + x5).toNatClampNeg (0 : Int32))) := hD
      refine lv_aload_n hx hb dX4_pourOn_60 rfl (lv_at hl 1 rfl) ?_
      refine lv_iload_n hx hb dX4_pourOn_61 rfl (lv_at hl 2 rfl) ?_
      have hPc := hP.sub (ws' := ([] : va_W)) [] rfl
      have hDc := hD.sub (ws' := ([] : va_W)) [] (by decide) rfl
      refine z_calli (va_runS (As := [.int x1]) (rest := [.ref q]) ⟨hx, hb, hml, hown, hts⟩ (c_X4_at l D cs  H.size x1 _ hw) (va_cwS 1 hts gX4_pourOn_X4_at rfl rfl rfl (by decide +kernel) ⟨Nat.le_of_ble_eq_true rfl, Nat.le_of_ble_eq_true rfl⟩) (PC_S hPc hDc hKK) rfl rfl hl.1 rfl (lv_room (Nat.le_of_ble_eq_true rfl)) dX4_pourOn_62 ⟨Nat.le_of_ble_eq_true rfl, Nat.le_of_ble_eq_true rfl⟩) (fun r13 hw => ?_)
      refine lv_bipush (v := (13 : Int32)) hx hb dX4_pourOn_65 (by decide) ?_
      refine lv_iadd hx hb dX4_pourOn_67 ?_
      refine lv_iload hx hb dX4_pourOn_68 (lv_at hl 5 rfl) ?_
      refine lv_iadd hx hb dX4_pourOn_70 ?_
      refine lv_iconst (v := (0 : Int32)) hx hb dX4_pourOn_71 (by decide) ?_
      obtain ⟨h14, hw⟩ := hw
      refine va_iast hx hb hK hP hD hS 0 0 rfl rfl h14 dX4_pourOn_72 (fun H locs hP hD hS => ?_)
      have hP : va_P D vwCl (w_Row cs q 336 (upd (upd F ((r11 + (4 : Int32)) + x5).toNatClampNeg (0 : Int32)) ((r13 + (13 : Int32)) + x5).toNatClampNeg (0 : Int32))) H := hP
      have hD : va_D A (w_Row cs q 336 (upd (upd F ((r11 + (4 : Int32)) + x5).toNatClampNeg (0 : Int32)) ((r13 + (13 : Int32)) + x5).toNatClampNeg (0 : Int32))) := hD
      refine lv_iload hx hb dX4_pourOn_73 (lv_at hl 5 rfl) ?_
      refine lv_aload_n hx hb dX4_pourOn_75 rfl (lv_at hl 1 rfl) ?_
      refine lv_iload_n hx hb dX4_pourOn_76 rfl (lv_at hl 3 rfl) ?_
      have hPc := hP.sub (ws' := ([] : va_W)) [] rfl
      have hDc := hD.sub (ws' := ([] : va_W)) [] (by decide) rfl
      refine z_calli (va_runS (As := [.int x2]) (rest := [.ref q, .int x5]) ⟨hx, hb, hml, hown, hts⟩ (c_X4_at l D cs  H.size x2 _ hw) (va_cwS 1 hts gX4_pourOn_X4_at rfl rfl rfl (by decide +kernel) ⟨Nat.le_of_ble_eq_true rfl, Nat.le_of_ble_eq_true rfl⟩) (PC_S hPc hDc hKK) rfl rfl hl.1 rfl (lv_room (Nat.le_of_ble_eq_true rfl)) dX4_pourOn_77 ⟨Nat.le_of_ble_eq_true rfl, Nat.le_of_ble_eq_true rfl⟩) (fun r15 hw => ?_)
      refine lv_iconst (v := (0 : Int32)) hx hb dX4_pourOn_80 (by decide) ?_
      refine lv_iadd hx hb dX4_pourOn_81 ?_
      obtain ⟨h16, hw⟩ := hw
      refine va_iald hx hb hK hP 0 0 rfl rfl h16 dX4_pourOn_82 ?_
      refine lv_icmp_ge (tgt := 106) hx hb dX4_pourOn_83 (by decide) (fun c17 => ?_) (fun c17 => ?_)
      · have hw := hw.1 c17
        refine lv_aload_n hx hb dX4_pourOn_106 rfl (lv_at hl 1 rfl) ?_
        refine lv_iload_n hx hb dX4_pourOn_107 rfl (lv_at hl 3 rfl) ?_
        have hPc := hP.sub (ws' := ([] : va_W)) [] rfl
        have hDc := hD.sub (ws' := ([] : va_W)) [] (by decide) rfl
        refine z_calli (va_runS (As := [.int x2]) (rest := [.ref q]) ⟨hx, hb, hml, hown, hts⟩ (c_X4_at l D cs  H.size x2 _ hw) (va_cwS 1 hts gX4_pourOn_X4_at rfl rfl rfl (by decide +kernel) ⟨Nat.le_of_ble_eq_true rfl, Nat.le_of_ble_eq_true rfl⟩) (PC_S hPc hDc hKK) rfl rfl hl.1 rfl (lv_room (Nat.le_of_ble_eq_true rfl)) dX4_pourOn_108 ⟨Nat.le_of_ble_eq_true rfl, Nat.le_of_ble_eq_true rfl⟩) (fun r18 hw => ?_)
        refine lv_iconst (v := (2 : Int32)) hx hb dX4_pourOn_111 (by decide) ?_
        refine lv_iadd hx hb dX4_pourOn_112 ?_
        refine lv_dup2_11 hx hb dX4_pourOn_113 rfl rfl ?_
        obtain ⟨h19, hw⟩ := hw
        refine va_iald hx hb hK hP 0 0 rfl rfl h19 dX4_pourOn_114 ?_
        refine lv_iload hx hb dX4_pourOn_115 (lv_at hl 0 rfl) ?_
        refine lv_iadd hx hb dX4_pourOn_117 ?_
        obtain ⟨h20, hw⟩ := hw
        refine va_iast hx hb hK hP hD hS 0 0 rfl rfl h20 dX4_pourOn_118 (fun H locs hP hD hS => ?_)
        have hP : va_P D vwCl (w_Row cs q 336 (upd (upd (upd F ((r11 + (4 : Int32)) + x5).toNatClampNeg (0 : Int32)) ((r13 + (13 : Int32)) + x5).toNatClampNeg (0 : Int32)) (r18 + (2 : Int32)).toNatClampNeg ((upd (upd F ((r11 + (4 : Int32)) + x5).toNatClampNeg (0 : Int32)) ((r13 + (13 : Int32)) + x5).toNatClampNeg (0 : Int32) (r18 + (2 : Int32)).toNatClampNeg) + y10))) H := hP
        have hD : va_D A (w_Row cs q 336 (upd (upd (upd F ((r11 + (4 : Int32)) + x5).toNatClampNeg (0 : Int32)) ((r13 + (13 : Int32)) + x5).toNatClampNeg (0 : Int32)) (r18 + (2 : Int32)).toNatClampNeg ((upd (upd F ((r11 + (4 : Int32)) + x5).toNatClampNeg (0 : Int32)) ((r13 + (13 : Int32)) + x5).toNatClampNeg (0 : Int32) (r18 + (2 : Int32)).toNatClampNeg) + y10))) := hD
        refine lv_iinc (v := x5 + 1) (lv' := [(5, .int (x5 + 1)), (6, .int y10), (0, .ref q), (1, .int x1), (2, .int x2), (3, .long x3)]) hx hb dX4_pourOn_119 hl (k := 5) rfl rfl (by decide) rfl (fun ls hl => ?_)
        refine lv_goto (tgt := 9) hx hb dX4_pourOn_122 (by decide) ?_
        exact ih _ _ hw _ _ hP hD hS ls (lv_sub hl [2, 3, 4, 5, 0] rfl)
      · have hw := hw.2 c17
        refine lv_aload_n hx hb dX4_pourOn_86 rfl (lv_at hl 1 rfl) ?_
        refine lv_iload_n hx hb dX4_pourOn_87 rfl (lv_at hl 3 rfl) ?_
        have hPc := hP.sub (ws' := ([] : va_W)) [] rfl
        have hDc := hD.sub (ws' := ([] : va_W)) [] (by decide) rfl
        refine z_calli (va_runS (As := [.int x2]) (rest := [.ref q]) ⟨hx, hb, hml, hown, hts⟩ (c_X4_at l D cs  H.size x2 _ hw) (va_cwS 1 hts gX4_pourOn_X4_at rfl rfl rfl (by decide +kernel) ⟨Nat.le_of_ble_eq_true rfl, Nat.le_of_ble_eq_true rfl⟩) (PC_S hPc hDc hKK) rfl rfl hl.1 rfl (lv_room (Nat.le_of_ble_eq_true rfl)) dX4_pourOn_88 ⟨Nat.le_of_ble_eq_true rfl, Nat.le_of_ble_eq_true rfl⟩) (fun r21 hw => ?_)
        refine lv_bipush (v := (13 : Int32)) hx hb dX4_pourOn_91 (by decide) ?_
        refine lv_iadd hx hb dX4_pourOn_93 ?_
        refine lv_iload hx hb dX4_pourOn_94 (lv_at hl 5 rfl) ?_
        refine lv_iadd hx hb dX4_pourOn_96 ?_
        refine lv_dup2_11 hx hb dX4_pourOn_97 rfl rfl ?_
        obtain ⟨h22, hw⟩ := hw
        refine va_iald hx hb hK hP 0 0 rfl rfl h22 dX4_pourOn_98 ?_
        refine lv_iload hx hb dX4_pourOn_99 (lv_at hl 0 rfl) ?_
        refine lv_iadd hx hb dX4_pourOn_101 ?_
        obtain ⟨h23, hw⟩ := hw
        refine va_iast hx hb hK hP hD hS 0 0 rfl rfl h23 dX4_pourOn_102 (fun H locs hP hD hS => ?_)
        have hP : va_P D vwCl (w_Row cs q 336 (upd (upd (upd F ((r11 + (4 : Int32)) + x5).toNatClampNeg (0 : Int32)) ((r13 + (13 : Int32)) + x5).toNatClampNeg (0 : Int32)) ((r21 + (13 : Int32)) + x5).toNatClampNeg ((upd (upd F ((r11 + (4 : Int32)) + x5).toNatClampNeg (0 : Int32)) ((r13 + (13 : Int32)) + x5).toNatClampNeg (0 : Int32) ((r21 + (13 : Int32)) + x5).toNatClampNeg) + y10))) H := hP
        have hD : va_D A (w_Row cs q 336 (upd (upd (upd F ((r11 + (4 : Int32)) + x5).toNatClampNeg (0 : Int32)) ((r13 + (13 : Int32)) + x5).toNatClampNeg (0 : Int32)) ((r21 + (13 : Int32)) + x5).toNatClampNeg ((upd (upd F ((r11 + (4 : Int32)) + x5).toNatClampNeg (0 : Int32)) ((r13 + (13 : Int32)) + x5).toNatClampNeg (0 : Int32) ((r21 + (13 : Int32)) + x5).toNatClampNeg) + y10))) := hD
        refine lv_goto (tgt := 119) hx hb dX4_pourOn_103 (by decide) ?_
        refine lv_iinc (v := x5 + 1) (lv' := [(5, .int (x5 + 1)), (6, .int y10), (0, .ref q), (1, .int x1), (2, .int x2), (3, .long x3)]) hx hb dX4_pourOn_119 hl (k := 5) rfl rfl (by decide) rfl (fun ls hl => ?_)
        refine lv_goto (tgt := 9) hx hb dX4_pourOn_122 (by decide) ?_
        exact ih _ _ hw _ _ hP hD hS ls (lv_sub hl [2, 3, 4, 5, 0] rfl)
set_option maxHeartbeats 4000000 in
set_option maxRecDepth 100000 in
theorem t_X4_pourOn {p : Program} {l : Launch} {e : Env} {s : State} {m : MethodId} {args : Array Value} {below : List Frame} {meth : Method} {c : Code} {D : va_G} {cs : Nat → ClassId} {A : Nat → Prop} (hC : MAt p s m args meth c RX4 cX4_pourOn 7 (some .long) wsX4_pourOn D cs) (q : Nat) (F : (Nat → Int32)) (x1 : Int32) (x2 : Int32) (Q : Int64 → (Nat → Int32) → Prop) (hA : ∀ q : Nat, s.heap.size ≤ q → A q) (hw : wp_X4_pourOn F x1 x2 Q) (H : Heap) (locs : List Loc) (hP : va_P D vwCl (w_Row cs q 336 F) H) (hD : va_D A (w_Row cs q 336 F)) (hS : va_S A s.heap H locs) (ls : Array Slot) (hl : lv_has ls 7 [(0, .ref q), (1, .int x1), (2, .int x2)]) : W p l e ({ frames := 2, cells := 0, slots := 0, locals := 44 } : Room) s m args below meth c H locs 0 0 (MQ below (va_Ql (fun r (u : (Nat → Int32)) => Q r u) (fun (u : (Nat → Int32)) t => va_P D vwCl (w_Row cs q 336 u) t.heap ∧ va_D A (w_Row cs q 336 u)) A) args s 0 0 A) (F0 m 0 ls []) := by
  obtain ⟨hx, hb, hr, hml, hown, hts, hlocks, hKK⟩ := id hC
  have hK := hKK.1
  refine lv_aload_n hx hb dX4_pourOn_0 rfl (lv_at hl 0 rfl) ?_
  refine lv_iload_n hx hb dX4_pourOn_1 rfl (lv_at hl 2 rfl) ?_
  refine z_calll (va_runS (As := [.ref q, .int x2]) (rest := []) ⟨hx, hb, hml, hown, hts⟩ (c_X4_worthOn l D cs q H.size F x2 _ hw) (va_cwS 2 hts gX4_pourOn_X4_worthOn rfl rfl rfl (by decide +kernel) ⟨Nat.le_of_ble_eq_true rfl, Nat.le_of_ble_eq_true rfl⟩) (PC_S hP hD hKK) rfl rfl hl.1 rfl (lv_room (Nat.le_of_ble_eq_true rfl)) dX4_pourOn_2 ⟨Nat.le_of_ble_eq_true rfl, Nat.le_of_ble_eq_true rfl⟩) (fun r1 hw => ?_)
  refine lv_lstore_n (lv' := [(3, .long r1), (0, .ref q), (1, .int x1), (2, .int x2)]) hx hb dX4_pourOn_5 rfl hl (by decide) rfl (fun ls hl => ?_)
  refine lv_iconst (v := (0 : Int32)) hx hb dX4_pourOn_6 (by decide) ?_
  refine lv_istore (lv' := [(5, .int (0 : Int32)), (3, .long r1), (0, .ref q), (1, .int x1), (2, .int x2)]) hx hb dX4_pourOn_7 hl (by decide) rfl (fun ls hl => ?_)
  obtain ⟨n24, hw⟩ := hw
  exact t_X4_pourOn_9 hC q _ _ _ _ hA n24 _ _ hw H locs hP hD hS ls (lv_sub hl [2, 3, 4, 1, 0] rfl)
set_option maxHeartbeats 4000000 in
set_option maxRecDepth 100000 in
theorem c_X4_pourOn (l : Launch) (D : va_G) (cs : Nat → ClassId) (q : Nat) (sz : Nat) (F : (Nat → Int32)) (x1 : Int32) (x2 : Int32) (Q : Int64 → (Nat → Int32) → Prop) (hw : wp_X4_pourOn F x1 x2 Q) : Met l yX4_pourOn wsX4_pourOn ({ frames := 2, cells := 0, slots := 0, locals := 44 } : Room) (va_Pc [.ref q, .int x1, .int x2] (PC D cs (w_Row cs q 336 F) sz)) (va_Ql (fun r (u : (Nat → Int32)) => Q r u) (fun (u : (Nat → Int32)) t => va_P D vwCl (w_Row cs q 336 u) t.heap ∧ va_D (va_A (w_Row cs q 336 F) sz) (w_Row cs q 336 u)) (va_A (w_Row cs q 336 F) sz)) 0 0 (va_A (w_Row cs q 336 F) sz) := by
  refine Met.ofW (cc := cX4_pourOn) (maxL := 7) (ret := (some .long)) (by decide) rfl ?_
  intro p e s m args below meth c s₁ B hml hv
  obtain ⟨rfl, hsz, hP, hKK, hD0⟩ := hv
  have hC : MAt p s m _ meth c RX4 cX4_pourOn 7 (some .long) wsX4_pourOn D cs := ⟨B.exec, B.bytes, B.returns, hml, findClass_of_methodNamed B.named, atoms_spec (ws := wsX4_pourOn) B.pre, B.notSynchronized, hKK⟩
  have hl := lv_entry ([.ref q, .int x1, .int x2]) (n := 7) (Nat.le_of_ble_eq_true rfl)
  rw [lg_entry_eq]
  generalize (lg_sl ([.ref q, .int x1, .int x2]) ++ List.replicate (7 - (lg_sl ([.ref q, .int x1, .int x2])).length) Slot.unset).toArray = ls at hl ⊢
  subst hsz
  have hD := hD0.self (sz := s.heap.size)
  have hA : ∀ z : Nat, s.heap.size ≤ z → va_A (w_Row cs q 336 F) s.heap.size z := fun z h => Or.inr h
  exact t_X4_pourOn hC q F x1 x2 Q hA hw s.heap [] hP hD va_S.rf ls hl
set_option maxHeartbeats 4000000 in
set_option maxRecDepth 100000 in
theorem t_X4_copyLine_3 {p : Program} {l : Launch} {e : Env} {s : State} {m : MethodId} {args : Array Value} {below : List Frame} {meth : Method} {c : Code} {D : va_G} {cs : Nat → ClassId} {A : Nat → Prop} (hC : MAt p s m args meth c RX4 cX4_copyLine 5 none wsX4_copyLine D cs) (q : Nat) (r : Nat) (nf : Nat) (nt : Nat) (F : (Nat → Int32)) (x1 : Int32) (x3 : Int32) (Q : (Nat → Int32) → Prop) (hA : ∀ q : Nat, s.heap.size ≤ q → A q) : ∀ (n : Nat) (G : (Nat → Int32)) (x4 : Int32), wl_X4_copyLine_3 nf nt F x1 x3 Q n G x4 → ∀ (H : Heap) (locs : List Loc), va_P D vwCl (w_Row cs q nf F ++ w_Row cs r nt G) H → va_D A (w_Row cs q nf F ++ w_Row cs r nt G) → va_S A s.heap H locs → ∀ ls : Array Slot, lv_has ls 5 [(0, .ref q), (1, .int x1), (2, .ref r), (3, .int x3), (4, .int x4)] → W p l e ({ frames := 0, cells := 0, slots := 0, locals := 0 } : Room) s m args below meth c H locs 0 0 (MQ below (va_Qv (fun (u : (Nat → Int32)) => Q u) (fun (u : (Nat → Int32)) t => va_P D vwCl (w_Row cs q nf F ++ w_Row cs r nt u) t.heap ∧ va_D A (w_Row cs q nf F ++ w_Row cs r nt u)) A) args s 0 0 A) (F0 m 3 ls []) := by
  obtain ⟨hx, hb, hr, hml, hown, hts, hlocks, hKK⟩ := id hC
  have hK := hKK.1
  intro n
  induction n with
  | zero =>
    intro G x4 hw
    exact False.elim hw
  | succ n ih =>
    intro G x4 hw H locs hP hD hS ls hl
    refine lv_iload hx hb dX4_copyLine_3 (lv_at hl 4 rfl) ?_
    refine lv_sipush (v := (336 : Int32)) hx hb dX4_copyLine_5 (by decide) ?_
    refine lv_icmp_ge (tgt := 29) hx hb dX4_copyLine_8 (by decide) (fun c1 => ?_) (fun c1 => ?_)
    · have hw := hw.1 c1
      exact W.vret hx hb hr (fun t ht hW => ⟨⟨(G), rfl, hw, by rw [ht]; exact hP, hD⟩, hS.F ht⟩) hS.2.2 dX4_copyLine_29 hlocks
    · have hw := hw.2 c1
      refine lv_aload_n hx hb dX4_copyLine_11 rfl (lv_at hl 2 rfl) ?_
      refine lv_iload_n hx hb dX4_copyLine_12 rfl (lv_at hl 3 rfl) ?_
      refine lv_iload hx hb dX4_copyLine_13 (lv_at hl 4 rfl) ?_
      refine lv_iadd hx hb dX4_copyLine_15 ?_
      refine lv_aload_n hx hb dX4_copyLine_16 rfl (lv_at hl 0 rfl) ?_
      refine lv_iload_n hx hb dX4_copyLine_17 rfl (lv_at hl 1 rfl) ?_
      refine lv_iload hx hb dX4_copyLine_18 (lv_at hl 4 rfl) ?_
      refine lv_iadd hx hb dX4_copyLine_20 ?_
      obtain ⟨h2, hw⟩ := hw
      refine va_iald hx hb hK hP 0 0 rfl rfl h2 dX4_copyLine_21 ?_
      obtain ⟨h3, hw⟩ := hw
      refine va_iast hx hb hK hP hD hS 1 0 rfl rfl h3 dX4_copyLine_22 (fun H locs hP hD hS => ?_)
      have hP : va_P D vwCl (w_Row cs q nf F ++ w_Row cs r nt (upd G (x3 + x4).toNatClampNeg (F (x1 + x4).toNatClampNeg))) H := hP
      have hD : va_D A (w_Row cs q nf F ++ w_Row cs r nt (upd G (x3 + x4).toNatClampNeg (F (x1 + x4).toNatClampNeg))) := hD
      refine lv_iinc (v := x4 + 1) (lv' := [(4, .int (x4 + 1)), (0, .ref q), (1, .int x1), (2, .ref r), (3, .int x3)]) hx hb dX4_copyLine_23 hl (k := 4) rfl rfl (by decide) rfl (fun ls hl => ?_)
      refine lv_goto (tgt := 3) hx hb dX4_copyLine_26 (by decide) ?_
      exact ih _ _ hw _ _ hP hD hS ls (lv_sub hl [1, 2, 3, 4, 0] rfl)
set_option maxHeartbeats 4000000 in
set_option maxRecDepth 100000 in
theorem t_X4_copyLine {p : Program} {l : Launch} {e : Env} {s : State} {m : MethodId} {args : Array Value} {below : List Frame} {meth : Method} {c : Code} {D : va_G} {cs : Nat → ClassId} {A : Nat → Prop} (hC : MAt p s m args meth c RX4 cX4_copyLine 5 none wsX4_copyLine D cs) (q : Nat) (r : Nat) (nf : Nat) (nt : Nat) (F : (Nat → Int32)) (G : (Nat → Int32)) (x1 : Int32) (x3 : Int32) (Q : (Nat → Int32) → Prop) (hA : ∀ q : Nat, s.heap.size ≤ q → A q) (hw : wp_X4_copyLine nf nt F G x1 x3 Q) (H : Heap) (locs : List Loc) (hP : va_P D vwCl (w_Row cs q nf F ++ w_Row cs r nt G) H) (hD : va_D A (w_Row cs q nf F ++ w_Row cs r nt G)) (hS : va_S A s.heap H locs) (ls : Array Slot) (hl : lv_has ls 5 [(0, .ref q), (1, .int x1), (2, .ref r), (3, .int x3)]) : W p l e ({ frames := 0, cells := 0, slots := 0, locals := 0 } : Room) s m args below meth c H locs 0 0 (MQ below (va_Qv (fun (u : (Nat → Int32)) => Q u) (fun (u : (Nat → Int32)) t => va_P D vwCl (w_Row cs q nf F ++ w_Row cs r nt u) t.heap ∧ va_D A (w_Row cs q nf F ++ w_Row cs r nt u)) A) args s 0 0 A) (F0 m 0 ls []) := by
  obtain ⟨hx, hb, hr, hml, hown, hts, hlocks, hKK⟩ := id hC
  have hK := hKK.1
  refine lv_iconst (v := (0 : Int32)) hx hb dX4_copyLine_0 (by decide) ?_
  refine lv_istore (lv' := [(4, .int (0 : Int32)), (0, .ref q), (1, .int x1), (2, .ref r), (3, .int x3)]) hx hb dX4_copyLine_1 hl (by decide) rfl (fun ls hl => ?_)
  obtain ⟨n4, hw⟩ := hw
  exact t_X4_copyLine_3 hC q r _ _ _ _ _ _ hA n4 _ _ hw H locs hP hD hS ls (lv_sub hl [1, 2, 3, 4, 0] rfl)
set_option maxHeartbeats 4000000 in
set_option maxRecDepth 100000 in
theorem c_X4_copyLine (l : Launch) (D : va_G) (cs : Nat → ClassId) (q : Nat) (r : Nat) (sz : Nat) (nf : Nat) (nt : Nat) (F : (Nat → Int32)) (G : (Nat → Int32)) (x1 : Int32) (x3 : Int32) (Q : (Nat → Int32) → Prop) (hw : wp_X4_copyLine nf nt F G x1 x3 Q) : Met l yX4_copyLine wsX4_copyLine ({ frames := 0, cells := 0, slots := 0, locals := 0 } : Room) (va_Pc [.ref q, .int x1, .ref r, .int x3] (PC D cs (w_Row cs q nf F ++ w_Row cs r nt G) sz)) (va_Qv (fun (u : (Nat → Int32)) => Q u) (fun (u : (Nat → Int32)) t => va_P D vwCl (w_Row cs q nf F ++ w_Row cs r nt u) t.heap ∧ va_D (va_A (w_Row cs q nf F ++ w_Row cs r nt G) sz) (w_Row cs q nf F ++ w_Row cs r nt u)) (va_A (w_Row cs q nf F ++ w_Row cs r nt G) sz)) 0 0 (va_A (w_Row cs q nf F ++ w_Row cs r nt G) sz) := by
  refine Met.ofW (cc := cX4_copyLine) (maxL := 5) (ret := none) (by decide) rfl ?_
  intro p e s m args below meth c s₁ B hml hv
  obtain ⟨rfl, hsz, hP, hKK, hD0⟩ := hv
  have hC : MAt p s m _ meth c RX4 cX4_copyLine 5 none wsX4_copyLine D cs := ⟨B.exec, B.bytes, B.returns, hml, findClass_of_methodNamed B.named, atoms_spec (ws := wsX4_copyLine) B.pre, B.notSynchronized, hKK⟩
  have hl := lv_entry ([.ref q, .int x1, .ref r, .int x3]) (n := 5) (Nat.le_of_ble_eq_true rfl)
  rw [lg_entry_eq]
  generalize (lg_sl ([.ref q, .int x1, .ref r, .int x3]) ++ List.replicate (5 - (lg_sl ([.ref q, .int x1, .ref r, .int x3])).length) Slot.unset).toArray = ls at hl ⊢
  subst hsz
  have hD := hD0.self (sz := s.heap.size)
  have hA : ∀ z : Nat, s.heap.size ≤ z → va_A (w_Row cs q nf F ++ w_Row cs r nt G) s.heap.size z := fun z h => Or.inr h
  exact t_X4_copyLine hC q r nf nt F G x1 x3 Q hA hw s.heap [] hP hD va_S.rf ls hl
theorem h_X4_X4_thrown : ∀ w ∈ u_ws RX4 TX4 11, w ∈ wsX4_thrown := fun _ h => List.mem_cons_of_mem _ (List.mem_append_right _ h)
set_option maxHeartbeats 4000000 in
set_option maxRecDepth 100000 in
theorem t_X4_thrown {p : Program} {l : Launch} {e : Env} {s : State} {m : MethodId} {args : Array Value} {below : List Frame} {meth : Method} {c : Code} {D : va_G} {cs : Nat → ClassId} {A : Nat → Prop} (hC : MAt p s m args meth c RX4 cX4_thrown 1 (some .int) wsX4_thrown D cs) (q : Nat → Nat) (M : MS) (Q : Int32 → Prop) (hw : wp_X4_thrown M Q) (hP : va_P D vwCl (w_Mod cs q M) s.heap) (hD : va_D A (w_Mod cs q M)) (ls : Array Slot) (hl : lv_has ls 1 [(0, .ref (q 0))]) : W p l e ({ frames := 0, cells := 0, slots := 0, locals := 0 } : Room) s m args below meth c s.heap [] 0 0 (MQ below (vp_Si Q) args s 0 0 (fun _ => False)) (F0 m 0 ls []) := by
  obtain ⟨hx, hb, hr, hml, hown, hts, hlocks, hKK⟩ := id hC
  have hK := hKK.1
  refine lv_aload_n hx hb dX4_thrown_0 rfl (lv_at hl 0 rfl) ?_
  refine va_get (D := D) (ci := 4) (v := .int (M 0 0)) (C := RX4) (T := TX4) (N := 11) hx hb hts (h_X4_X4_thrown) hown hK hP 0 rfl rfl 0 (by decide) (z_w hts 1 rfl) (fun _ h9 => h9) rfl dX4_thrown_1 ?_
  exact W.iret (v := M 0 0) hx hb hr (fun t ht hW => ⟨M 0 0, rfl, hw, ht⟩) (fun q h => nomatch h) dX4_thrown_4 hlocks
set_option maxHeartbeats 4000000 in
set_option maxRecDepth 100000 in
theorem c_X4_thrown (l : Launch) (D : va_G) (cs : Nat → ClassId) (q : Nat → Nat) (sz : Nat) (M : MS) (Q : Int32 → Prop) (hw : wp_X4_thrown M Q) : Met l yX4_thrown wsX4_thrown ({ frames := 0, cells := 0, slots := 0, locals := 0 } : Room) (va_Pc [.ref (q 0)] (PC D cs (w_Mod cs q M) sz)) (vp_Si Q) 0 0 (fun _ => False) := by
  refine Met.ofW (cc := cX4_thrown) (maxL := 1) (ret := (some .int)) (by decide) rfl ?_
  intro p e s m args below meth c s₁ B hml hv
  obtain ⟨rfl, hsz, hP, hKK, hD0⟩ := hv
  have hC : MAt p s m _ meth c RX4 cX4_thrown 1 (some .int) wsX4_thrown D cs := ⟨B.exec, B.bytes, B.returns, hml, findClass_of_methodNamed B.named, atoms_spec (ws := wsX4_thrown) B.pre, B.notSynchronized, hKK⟩
  have hl := lv_entry ([.ref (q 0)]) (n := 1) (Nat.le_of_ble_eq_true rfl)
  rw [lg_entry_eq]
  generalize (lg_sl ([.ref (q 0)]) ++ List.replicate (1 - (lg_sl ([.ref (q 0)])).length) Slot.unset).toArray = ls at hl ⊢
  exact t_X4_thrown hC q M Q hw hP hD0 ls hl
theorem h_X4_X4_refused : ∀ w ∈ u_ws RX4 TX4 11, w ∈ wsX4_refused := fun _ h => List.mem_cons_of_mem _ (List.mem_append_right _ h)
set_option maxHeartbeats 4000000 in
set_option maxRecDepth 100000 in
theorem t_X4_refused {p : Program} {l : Launch} {e : Env} {s : State} {m : MethodId} {args : Array Value} {below : List Frame} {meth : Method} {c : Code} {D : va_G} {cs : Nat → ClassId} {A : Nat → Prop} (hC : MAt p s m args meth c RX4 cX4_refused 2 (some .boolean) wsX4_refused D cs) (q : Nat → Nat) (M : MS) (x1 : Int32) (Q : Int32 → MS → Prop) (hA : ∀ q : Nat, s.heap.size ≤ q → A q) (hw : wp_X4_refused M x1 Q) (H : Heap) (locs : List Loc) (hP : va_P D vwCl (w_Mod cs q M) H) (hD : va_D A (w_Mod cs q M)) (hS : va_S A s.heap H locs) (ls : Array Slot) (hl : lv_has ls 2 [(0, .ref (q 0)), (1, .int x1)]) : W p l e ({ frames := 0, cells := 0, slots := 0, locals := 0 } : Room) s m args below meth c H locs 0 0 (MQ below (va_Qi (fun r (u : MS) => (r = 0 ∨ r = 1) ∧ Q r u) (fun (u : MS) t => va_P D vwCl (w_Mod cs q u) t.heap ∧ va_D A (w_Mod cs q u)) A) args s 0 0 A) (F0 m 0 ls []) := by
  obtain ⟨hx, hb, hr, hml, hown, hts, hlocks, hKK⟩ := id hC
  have hK := hKK.1
  refine lv_aload_n hx hb dX4_refused_0 rfl (lv_at hl 0 rfl) ?_
  refine lv_iload_n hx hb dX4_refused_1 rfl (lv_at hl 1 rfl) ?_
  refine va_put (D := D) (ci := 4) (v := .int x1) (ty := .int) (C := RX4) (T := TX4) (N := 11) hx hb hts (h_X4_X4_refused) tyX4 tyX4_ok nmX4 hown hK hP hD hS 0 rfl rfl 0 (by decide) (z_w hts 1 rfl) (fun _ h9 => h9) rfl (by decide +kernel) rfl rfl (Nat.le_of_ble_eq_true rfl) dX4_refused_2 (fun H locs hP hD hS => ?_)
  have hP : va_P D vwCl (w_Mod cs q (zs2 M 0 0 x1)) H := hP
  have hD : va_D A (w_Mod cs q (zs2 M 0 0 x1)) := hD
  refine lv_iload_n hx hb dX4_refused_5 rfl (lv_at hl 1 rfl) ?_
  refine lv_if_le (tgt := 13) hx hb dX4_refused_6 (by decide) (fun c1 => ?_) (fun c1 => ?_)
  · have hw := hw.1 c1
    refine lv_iconst (v := (0 : Int32)) hx hb dX4_refused_13 (by decide) ?_
    exact W.zret (v := (0 : Int32)) hx hb hr rfl (fun t ht hW => ⟨⟨(0 : Int32), (zs2 M 0 0 x1), rfl, ⟨Or.inl rfl, hw⟩, by rw [ht]; exact hP, hD⟩, hS.F ht⟩) hS.2.2 dX4_refused_14 hlocks
  · have hw := hw.2 c1
    refine lv_iconst (v := (1 : Int32)) hx hb dX4_refused_9 (by decide) ?_
    refine lv_goto (tgt := 14) hx hb dX4_refused_10 (by decide) ?_
    exact W.zret (v := (1 : Int32)) hx hb hr rfl (fun t ht hW => ⟨⟨(1 : Int32), (zs2 M 0 0 x1), rfl, ⟨Or.inr rfl, hw⟩, by rw [ht]; exact hP, hD⟩, hS.F ht⟩) hS.2.2 dX4_refused_14 hlocks
set_option maxHeartbeats 4000000 in
set_option maxRecDepth 100000 in
theorem c_X4_refused (l : Launch) (D : va_G) (cs : Nat → ClassId) (q : Nat → Nat) (sz : Nat) (M : MS) (x1 : Int32) (Q : Int32 → MS → Prop) (hw : wp_X4_refused M x1 Q) : Met l yX4_refused wsX4_refused ({ frames := 0, cells := 0, slots := 0, locals := 0 } : Room) (va_Pc [.ref (q 0), .int x1] (PC D cs (w_Mod cs q M) sz)) (va_Qi (fun r (u : MS) => (r = 0 ∨ r = 1) ∧ Q r u) (fun (u : MS) t => va_P D vwCl (w_Mod cs q u) t.heap ∧ va_D (va_A (w_Mod cs q M) sz) (w_Mod cs q u)) (va_A (w_Mod cs q M) sz)) 0 0 (va_A (w_Mod cs q M) sz) := by
  refine Met.ofW (cc := cX4_refused) (maxL := 2) (ret := (some .boolean)) (by decide) rfl ?_
  intro p e s m args below meth c s₁ B hml hv
  obtain ⟨rfl, hsz, hP, hKK, hD0⟩ := hv
  have hC : MAt p s m _ meth c RX4 cX4_refused 2 (some .boolean) wsX4_refused D cs := ⟨B.exec, B.bytes, B.returns, hml, findClass_of_methodNamed B.named, atoms_spec (ws := wsX4_refused) B.pre, B.notSynchronized, hKK⟩
  have hl := lv_entry ([.ref (q 0), .int x1]) (n := 2) (Nat.le_of_ble_eq_true rfl)
  rw [lg_entry_eq]
  generalize (lg_sl ([.ref (q 0), .int x1]) ++ List.replicate (2 - (lg_sl ([.ref (q 0), .int x1])).length) Slot.unset).toArray = ls at hl ⊢
  subst hsz
  have hD := hD0.self (sz := s.heap.size)
  have hA : ∀ z : Nat, s.heap.size ≤ z → va_A (w_Mod cs q M) s.heap.size z := fun z h => Or.inr h
  exact t_X4_refused hC q M x1 Q hA hw s.heap [] hP hD va_S.rf ls hl
theorem h_X4_X4_beat_n : ∀ w ∈ u_ws RX4 TX4 11, w ∈ wsX4_beat := fun _ h => List.mem_cons_of_mem _ (List.mem_append_right _ h)
set_option maxHeartbeats 4000000 in
set_option maxRecDepth 100000 in
theorem t_X4_beat_n_11 {p : Program} {l : Launch} {e : Env} {s : State} {m : MethodId} {args : Array Value} {below : List Frame} {meth : Method} {c : Code} {D : va_G} {cs : Nat → ClassId} {A : Nat → Prop} (hC : MAt p s m args meth c RX4 cX4_beat 6 none wsX4_beat D cs) (q : Nat → Nat) (x2 : Int32) (Q : MS → Prop) (E116 : MS → Prop) (hA : ∀ q : Nat, s.heap.size ≤ q → A q) (hE116 : ∀ (M' : MS) , E116 M' → ∀ (H : Heap) (locs : List Loc), va_P D vwCl (w_Mod cs q M') H → va_D A (w_Mod cs q M') → va_S A s.heap H locs → ∀ ls : Array Slot, lv_has ls 6 [(0, .ref (q 0)), (1, .ref (q 2)), (2, .int x2)] → W p l e ({ frames := 1, cells := 0, slots := 0, locals := 20 } : Room) s m args below meth c H locs 0 0 (MQ below (va_Qv (fun (u : MS) => Q u) (fun (u : MS) t => va_P D vwCl (w_Mod cs q u) t.heap ∧ va_D A (w_Mod cs q u)) A) args s 0 0 A) (F0 m 116 ls [])) : ∀ (n : Nat) (M : MS) (x3 : Int32), wl_X4_beat_n_11 x2 Q E116 n M x3 → ∀ (H : Heap) (locs : List Loc), va_P D vwCl (w_Mod cs q M) H → va_D A (w_Mod cs q M) → va_S A s.heap H locs → ∀ ls : Array Slot, lv_has ls 6 [(0, .ref (q 0)), (1, .ref (q 2)), (2, .int x2), (3, .int x3)] → W p l e ({ frames := 1, cells := 0, slots := 0, locals := 20 } : Room) s m args below meth c H locs 0 0 (MQ below (va_Qv (fun (u : MS) => Q u) (fun (u : MS) t => va_P D vwCl (w_Mod cs q u) t.heap ∧ va_D A (w_Mod cs q u)) A) args s 0 0 A) (F0 m 11 ls []) := by
  obtain ⟨hx, hb, hr, hml, hown, hts, hlocks, hKK⟩ := id hC
  have hK := hKK.1
  intro n
  induction n with
  | zero =>
    intro M x3 hw
    exact False.elim hw
  | succ n ih =>
    intro M x3 hw H locs hP hD hS ls hl
    refine lv_iload_n hx hb dX4_beat_11 rfl (lv_at hl 3 rfl) ?_
    refine lv_aload_n hx hb dX4_beat_12 rfl (lv_at hl 1 rfl) ?_
    refine lv_iload_n hx hb dX4_beat_13 rfl (lv_at hl 2 rfl) ?_
    have hPc := hP.sub (ws' := ([] : va_W)) [] rfl
    have hDc := hD.sub (ws' := ([] : va_W)) [] (by decide) rfl
    refine z_calli (va_runS (As := [.int x2]) (rest := [.ref (q 2), .int x3]) ⟨hx, hb, hml, hown, hts⟩ (c_X4_at l D cs  H.size x2 _ hw) (va_cwS 1 hts gX4_beat_X4_at rfl rfl rfl (by decide +kernel) ⟨Nat.le_of_ble_eq_true rfl, Nat.le_of_ble_eq_true rfl⟩) (PC_S hPc hDc hKK) rfl rfl hl.1 rfl (lv_room (Nat.le_of_ble_eq_true rfl)) dX4_beat_14 ⟨Nat.le_of_ble_eq_true rfl, Nat.le_of_ble_eq_true rfl⟩) (fun r2 hw => ?_)
    refine lv_iconst (v := (0 : Int32)) hx hb dX4_beat_17 (by decide) ?_
    refine lv_iadd hx hb dX4_beat_18 ?_
    obtain ⟨h3, hw⟩ := hw
    refine va_iald hx hb hK hP 2 0 rfl rfl h3 dX4_beat_19 ?_
    refine lv_icmp_ge (tgt := 116) hx hb dX4_beat_20 (by decide) (fun c4 => ?_) (fun c4 => ?_)
    · have hw := hw.1 c4
      exact hE116 _ hw _ _ hP hD hS ls (lv_sub hl [0, 1, 2] rfl)
    · have hw := hw.2 c4
      refine lv_aload_n hx hb dX4_beat_23 rfl (lv_at hl 1 rfl) ?_
      refine lv_iload_n hx hb dX4_beat_24 rfl (lv_at hl 2 rfl) ?_
      have hPc := hP.sub (ws' := ([] : va_W)) [] rfl
      have hDc := hD.sub (ws' := ([] : va_W)) [] (by decide) rfl
      refine z_calli (va_runS (As := [.int x2]) (rest := [.ref (q 2)]) ⟨hx, hb, hml, hown, hts⟩ (c_X4_at l D cs  H.size x2 _ hw) (va_cwS 1 hts gX4_beat_X4_at rfl rfl rfl (by decide +kernel) ⟨Nat.le_of_ble_eq_true rfl, Nat.le_of_ble_eq_true rfl⟩) (PC_S hPc hDc hKK) rfl rfl hl.1 rfl (lv_room (Nat.le_of_ble_eq_true rfl)) dX4_beat_25 ⟨Nat.le_of_ble_eq_true rfl, Nat.le_of_ble_eq_true rfl⟩) (fun r5 hw => ?_)
      refine lv_bipush (v := (13 : Int32)) hx hb dX4_beat_28 (by decide) ?_
      refine lv_iadd hx hb dX4_beat_30 ?_
      refine lv_iload_n hx hb dX4_beat_31 rfl (lv_at hl 3 rfl) ?_
      refine lv_iadd hx hb dX4_beat_32 ?_
      obtain ⟨h6, hw⟩ := hw
      refine va_iald hx hb hK hP 2 0 rfl rfl h6 dX4_beat_33 ?_
      refine lv_topi (fun y7 ey7 => ?_)
      have hw := hw y7 ey7
      refine lv_istore (lv' := [(4, .int y7), (0, .ref (q 0)), (1, .ref (q 2)), (2, .int x2), (3, .int x3)]) hx hb dX4_beat_34 hl (by decide) rfl (fun ls hl => ?_)
      refine lv_iload hx hb dX4_beat_36 (lv_at hl 0 rfl) ?_
      refine lv_aload_n hx hb dX4_beat_38 rfl (lv_at hl 2 rfl) ?_
      refine lv_iconst (v := (1 : Int32)) hx hb dX4_beat_39 (by decide) ?_
      refine va_iald hx hb hK hP 2 0 rfl rfl (show vp_in (1 : Int32) 336 by unfold vp_in; decide) dX4_beat_40 ?_
      refine lv_icmp_le (tgt := 50) hx hb dX4_beat_41 (by decide) (fun c8 => ?_) (fun c8 => ?_)
      · have hw := hw.1 c8
        refine lv_iload hx hb dX4_beat_50 (lv_at hl 0 rfl) ?_
        refine lv_aload_n hx hb dX4_beat_52 rfl (lv_at hl 2 rfl) ?_
        refine lv_iconst (v := (1 : Int32)) hx hb dX4_beat_53 (by decide) ?_
        refine va_iald hx hb hK hP 2 0 rfl rfl (show vp_in (1 : Int32) 336 by unfold vp_in; decide) dX4_beat_54 ?_
        refine lv_ineg hx hb dX4_beat_55 ?_
        refine lv_icmp_ge (tgt := 66) hx hb dX4_beat_56 (by decide) (fun c9 => ?_) (fun c9 => ?_)
        · have hw := hw.1 c9
          refine lv_iload hx hb dX4_beat_66 (lv_at hl 0 rfl) ?_
          refine lv_istore (lv' := [(5, .int y7), (4, .int y7), (0, .ref (q 0)), (1, .ref (q 2)), (2, .int x2), (3, .int x3)]) hx hb dX4_beat_68 hl (by decide) rfl (fun ls hl => ?_)
          refine lv_aload_n hx hb dX4_beat_70 rfl (lv_at hl 2 rfl) ?_
          refine va_get (D := D) (ci := 4) (v := .ref (q 7)) (C := RX4) (T := TX4) (N := 11) hx hb hts (h_X4_X4_beat_n) hown hK hP 0 rfl rfl 9 (by decide) (z_w hts 1 rfl) (fun _ h9 => h9) rfl dX4_beat_71 ?_
          refine lv_bipush (v := (9 : Int32)) hx hb dX4_beat_74 (by decide) ?_
          refine lv_iload_n hx hb dX4_beat_76 rfl (lv_at hl 4 rfl) ?_
          refine lv_imul hx hb dX4_beat_77 ?_
          refine lv_iload_n hx hb dX4_beat_78 rfl (lv_at hl 5 rfl) ?_
          refine lv_iadd hx hb dX4_beat_79 ?_
          refine lv_iload hx hb dX4_beat_80 (lv_at hl 0 rfl) ?_
          obtain ⟨h10, hw⟩ := hw
          refine va_iast hx hb hK hP hD hS 7 0 rfl rfl h10 dX4_beat_82 (fun H locs hP hD hS => ?_)
          have hP : va_P D vwCl (w_Mod cs q (zr2 M 7 (upd (M 7) (((9 : Int32) * x2) + x3).toNatClampNeg y7))) H := hP
          have hD : va_D A (w_Mod cs q (zr2 M 7 (upd (M 7) (((9 : Int32) * x2) + x3).toNatClampNeg y7))) := hD
          refine lv_aload_n hx hb dX4_beat_83 rfl (lv_at hl 2 rfl) ?_
          refine va_get (D := D) (ci := 4) (v := .ref (q 8)) (C := RX4) (T := TX4) (N := 11) hx hb hts (h_X4_X4_beat_n) hown hK hP 0 rfl rfl 10 (by decide) (z_w hts 2 rfl) (fun _ h9 => h9) rfl dX4_beat_84 ?_
          refine lv_bipush (v := (9 : Int32)) hx hb dX4_beat_87 (by decide) ?_
          refine lv_iload_n hx hb dX4_beat_89 rfl (lv_at hl 4 rfl) ?_
          refine lv_imul hx hb dX4_beat_90 ?_
          refine lv_iload_n hx hb dX4_beat_91 rfl (lv_at hl 5 rfl) ?_
          refine lv_iadd hx hb dX4_beat_92 ?_
          refine lv_aload_n hx hb dX4_beat_93 rfl (lv_at hl 3 rfl) ?_
          refine lv_iload_n hx hb dX4_beat_94 rfl (lv_at hl 4 rfl) ?_
          have hPc := hP.sub (ws' := ([] : va_W)) [] rfl
          have hDc := hD.sub (ws' := ([] : va_W)) [] (by decide) rfl
          refine z_calli (va_runS (As := [.int x2]) (rest := [.ref (q 2), .int (((9 : Int32) * x2) + x3), .ref (q 8)]) ⟨hx, hb, hml, hown, hts⟩ (c_X4_at l D cs  H.size x2 _ hw) (va_cwS 1 hts gX4_beat_X4_at rfl rfl rfl (by decide +kernel) ⟨Nat.le_of_ble_eq_true rfl, Nat.le_of_ble_eq_true rfl⟩) (PC_S hPc hDc hKK) rfl rfl hl.1 rfl (lv_room (Nat.le_of_ble_eq_true rfl)) dX4_beat_95 ⟨Nat.le_of_ble_eq_true rfl, Nat.le_of_ble_eq_true rfl⟩) (fun r11 hw => ?_)
          refine lv_iconst (v := (4 : Int32)) hx hb dX4_beat_98 (by decide) ?_
          refine lv_iadd hx hb dX4_beat_99 ?_
          refine lv_iload_n hx hb dX4_beat_100 rfl (lv_at hl 5 rfl) ?_
          refine lv_iadd hx hb dX4_beat_101 ?_
          obtain ⟨h12, hw⟩ := hw
          refine va_iald hx hb hK hP 2 0 rfl rfl h12 dX4_beat_102 ?_
          refine lv_iload hx hb dX4_beat_103 (lv_at hl 0 rfl) ?_
          refine lv_iadd hx hb dX4_beat_105 ?_
          have hPc := hP.sub (ws' := ([] : va_W)) [] rfl
          have hDc := hD.sub (ws' := ([] : va_W)) [] (by decide) rfl
          refine z_calli (va_runS (As := [.int ((M 2 ((r11 + (4 : Int32)) + x3).toNatClampNeg) + y7)]) (rest := [.int (((9 : Int32) * x2) + x3), .ref (q 8)]) ⟨hx, hb, hml, hown, hts⟩ (c_X4_floor l D cs  H.size ((M 2 ((r11 + (4 : Int32)) + x3).toNatClampNeg) + y7) _ hw) (va_cwS 1 hts gX4_beat_X4_floor rfl rfl rfl (by decide +kernel) ⟨Nat.le_of_ble_eq_true rfl, Nat.le_of_ble_eq_true rfl⟩) (PC_S hPc hDc hKK) rfl rfl hl.1 rfl (lv_room (Nat.le_of_ble_eq_true rfl)) dX4_beat_106 ⟨Nat.le_of_ble_eq_true rfl, Nat.le_of_ble_eq_true rfl⟩) (fun r13 hw => ?_)
          obtain ⟨M14, eM14⟩ : ∃ z : MS, z = (zr2 M 7 (upd (M 7) (((9 : Int32) * x2) + x3).toNatClampNeg y7)) := ⟨_, rfl⟩
          have hw := hw M14 eM14
          rw [← eM14] at hP hD
          obtain ⟨h15, hw⟩ := hw
          refine va_iast hx hb hK hP hD hS 8 0 rfl rfl h15 dX4_beat_109 (fun H locs hP hD hS => ?_)
          have hP : va_P D vwCl (w_Mod cs q (zr2 M14 8 (upd (M14 8) (((9 : Int32) * x2) + x3).toNatClampNeg r13))) H := hP
          have hD : va_D A (w_Mod cs q (zr2 M14 8 (upd (M14 8) (((9 : Int32) * x2) + x3).toNatClampNeg r13))) := hD
          refine lv_iinc (v := x3 + 1) (lv' := [(3, .int (x3 + 1)), (5, .int y7), (4, .int y7), (0, .ref (q 0)), (1, .ref (q 2)), (2, .int x2)]) hx hb dX4_beat_110 hl (k := 5) rfl rfl (by decide) rfl (fun ls hl => ?_)
          refine lv_goto (tgt := 11) hx hb dX4_beat_113 (by decide) ?_
          exact ih _ _ hw _ _ hP hD hS ls (lv_sub hl [3, 4, 5, 0] rfl)
        · have hw := hw.2 c9
          refine lv_aload_n hx hb dX4_beat_59 rfl (lv_at hl 2 rfl) ?_
          refine lv_iconst (v := (1 : Int32)) hx hb dX4_beat_60 (by decide) ?_
          refine va_iald hx hb hK hP 2 0 rfl rfl (show vp_in (1 : Int32) 336 by unfold vp_in; decide) dX4_beat_61 ?_
          refine lv_ineg hx hb dX4_beat_62 ?_
          refine lv_goto (tgt := 68) hx hb dX4_beat_63 (by decide) ?_
          refine lv_istore (lv' := [(5, .int (-(M 2 (1 : Int32).toNatClampNeg))), (4, .int y7), (0, .ref (q 0)), (1, .ref (q 2)), (2, .int x2), (3, .int x3)]) hx hb dX4_beat_68 hl (by decide) rfl (fun ls hl => ?_)
          refine lv_aload_n hx hb dX4_beat_70 rfl (lv_at hl 2 rfl) ?_
          refine va_get (D := D) (ci := 4) (v := .ref (q 7)) (C := RX4) (T := TX4) (N := 11) hx hb hts (h_X4_X4_beat_n) hown hK hP 0 rfl rfl 9 (by decide) (z_w hts 1 rfl) (fun _ h9 => h9) rfl dX4_beat_71 ?_
          refine lv_bipush (v := (9 : Int32)) hx hb dX4_beat_74 (by decide) ?_
          refine lv_iload_n hx hb dX4_beat_76 rfl (lv_at hl 4 rfl) ?_
          refine lv_imul hx hb dX4_beat_77 ?_
          refine lv_iload_n hx hb dX4_beat_78 rfl (lv_at hl 5 rfl) ?_
          refine lv_iadd hx hb dX4_beat_79 ?_
          refine lv_iload hx hb dX4_beat_80 (lv_at hl 0 rfl) ?_
          obtain ⟨h16, hw⟩ := hw
          refine va_iast hx hb hK hP hD hS 7 0 rfl rfl h16 dX4_beat_82 (fun H locs hP hD hS => ?_)
          have hP : va_P D vwCl (w_Mod cs q (zr2 M 7 (upd (M 7) (((9 : Int32) * x2) + x3).toNatClampNeg (-(M 2 (1 : Int32).toNatClampNeg))))) H := hP
          have hD : va_D A (w_Mod cs q (zr2 M 7 (upd (M 7) (((9 : Int32) * x2) + x3).toNatClampNeg (-(M 2 (1 : Int32).toNatClampNeg))))) := hD
          refine lv_aload_n hx hb dX4_beat_83 rfl (lv_at hl 2 rfl) ?_
          refine va_get (D := D) (ci := 4) (v := .ref (q 8)) (C := RX4) (T := TX4) (N := 11) hx hb hts (h_X4_X4_beat_n) hown hK hP 0 rfl rfl 10 (by decide) (z_w hts 2 rfl) (fun _ h9 => h9) rfl dX4_beat_84 ?_
          refine lv_bipush (v := (9 : Int32)) hx hb dX4_beat_87 (by decide) ?_
          refine lv_iload_n hx hb dX4_beat_89 rfl (lv_at hl 4 rfl) ?_
          refine lv_imul hx hb dX4_beat_90 ?_
          refine lv_iload_n hx hb dX4_beat_91 rfl (lv_at hl 5 rfl) ?_
          refine lv_iadd hx hb dX4_beat_92 ?_
          refine lv_aload_n hx hb dX4_beat_93 rfl (lv_at hl 3 rfl) ?_
          refine lv_iload_n hx hb dX4_beat_94 rfl (lv_at hl 4 rfl) ?_
          have hPc := hP.sub (ws' := ([] : va_W)) [] rfl
          have hDc := hD.sub (ws' := ([] : va_W)) [] (by decide) rfl
          refine z_calli (va_runS (As := [.int x2]) (rest := [.ref (q 2), .int (((9 : Int32) * x2) + x3), .ref (q 8)]) ⟨hx, hb, hml, hown, hts⟩ (c_X4_at l D cs  H.size x2 _ hw) (va_cwS 1 hts gX4_beat_X4_at rfl rfl rfl (by decide +kernel) ⟨Nat.le_of_ble_eq_true rfl, Nat.le_of_ble_eq_true rfl⟩) (PC_S hPc hDc hKK) rfl rfl hl.1 rfl (lv_room (Nat.le_of_ble_eq_true rfl)) dX4_beat_95 ⟨Nat.le_of_ble_eq_true rfl, Nat.le_of_ble_eq_true rfl⟩) (fun r17 hw => ?_)
          refine lv_iconst (v := (4 : Int32)) hx hb dX4_beat_98 (by decide) ?_
          refine lv_iadd hx hb dX4_beat_99 ?_
          refine lv_iload_n hx hb dX4_beat_100 rfl (lv_at hl 5 rfl) ?_
          refine lv_iadd hx hb dX4_beat_101 ?_
          obtain ⟨h18, hw⟩ := hw
          refine va_iald hx hb hK hP 2 0 rfl rfl h18 dX4_beat_102 ?_
          refine lv_iload hx hb dX4_beat_103 (lv_at hl 0 rfl) ?_
          refine lv_iadd hx hb dX4_beat_105 ?_
          have hPc := hP.sub (ws' := ([] : va_W)) [] rfl
          have hDc := hD.sub (ws' := ([] : va_W)) [] (by decide) rfl
          refine z_calli (va_runS (As := [.int ((M 2 ((r17 + (4 : Int32)) + x3).toNatClampNeg) + (-(M 2 (1 : Int32).toNatClampNeg)))]) (rest := [.int (((9 : Int32) * x2) + x3), .ref (q 8)]) ⟨hx, hb, hml, hown, hts⟩ (c_X4_floor l D cs  H.size ((M 2 ((r17 + (4 : Int32)) + x3).toNatClampNeg) + (-(M 2 (1 : Int32).toNatClampNeg))) _ hw) (va_cwS 1 hts gX4_beat_X4_floor rfl rfl rfl (by decide +kernel) ⟨Nat.le_of_ble_eq_true rfl, Nat.le_of_ble_eq_true rfl⟩) (PC_S hPc hDc hKK) rfl rfl hl.1 rfl (lv_room (Nat.le_of_ble_eq_true rfl)) dX4_beat_106 ⟨Nat.le_of_ble_eq_true rfl, Nat.le_of_ble_eq_true rfl⟩) (fun r19 hw => ?_)
          obtain ⟨M20, eM20⟩ : ∃ z : MS, z = (zr2 M 7 (upd (M 7) (((9 : Int32) * x2) + x3).toNatClampNeg (-(M 2 (1 : Int32).toNatClampNeg)))) := ⟨_, rfl⟩
          have hw := hw M20 eM20
          rw [← eM20] at hP hD
          obtain ⟨h21, hw⟩ := hw
          refine va_iast hx hb hK hP hD hS 8 0 rfl rfl h21 dX4_beat_109 (fun H locs hP hD hS => ?_)
          have hP : va_P D vwCl (w_Mod cs q (zr2 M20 8 (upd (M20 8) (((9 : Int32) * x2) + x3).toNatClampNeg r19))) H := hP
          have hD : va_D A (w_Mod cs q (zr2 M20 8 (upd (M20 8) (((9 : Int32) * x2) + x3).toNatClampNeg r19))) := hD
          refine lv_iinc (v := x3 + 1) (lv' := [(3, .int (x3 + 1)), (5, .int (-(M 2 (1 : Int32).toNatClampNeg))), (4, .int y7), (0, .ref (q 0)), (1, .ref (q 2)), (2, .int x2)]) hx hb dX4_beat_110 hl (k := 5) rfl rfl (by decide) rfl (fun ls hl => ?_)
          refine lv_goto (tgt := 11) hx hb dX4_beat_113 (by decide) ?_
          exact ih _ _ hw _ _ hP hD hS ls (lv_sub hl [3, 4, 5, 0] rfl)
      · have hw := hw.2 c8
        refine lv_aload_n hx hb dX4_beat_44 rfl (lv_at hl 2 rfl) ?_
        refine lv_iconst (v := (1 : Int32)) hx hb dX4_beat_45 (by decide) ?_
        refine va_iald hx hb hK hP 2 0 rfl rfl (show vp_in (1 : Int32) 336 by unfold vp_in; decide) dX4_beat_46 ?_
        refine lv_goto (tgt := 68) hx hb dX4_beat_47 (by decide) ?_
        refine lv_istore (lv' := [(5, .int (M 2 (1 : Int32).toNatClampNeg)), (4, .int y7), (0, .ref (q 0)), (1, .ref (q 2)), (2, .int x2), (3, .int x3)]) hx hb dX4_beat_68 hl (by decide) rfl (fun ls hl => ?_)
        refine lv_aload_n hx hb dX4_beat_70 rfl (lv_at hl 2 rfl) ?_
        refine va_get (D := D) (ci := 4) (v := .ref (q 7)) (C := RX4) (T := TX4) (N := 11) hx hb hts (h_X4_X4_beat_n) hown hK hP 0 rfl rfl 9 (by decide) (z_w hts 1 rfl) (fun _ h9 => h9) rfl dX4_beat_71 ?_
        refine lv_bipush (v := (9 : Int32)) hx hb dX4_beat_74 (by decide) ?_
        refine lv_iload_n hx hb dX4_beat_76 rfl (lv_at hl 4 rfl) ?_
        refine lv_imul hx hb dX4_beat_77 ?_
        refine lv_iload_n hx hb dX4_beat_78 rfl (lv_at hl 5 rfl) ?_
        refine lv_iadd hx hb dX4_beat_79 ?_
        refine lv_iload hx hb dX4_beat_80 (lv_at hl 0 rfl) ?_
        obtain ⟨h22, hw⟩ := hw
        refine va_iast hx hb hK hP hD hS 7 0 rfl rfl h22 dX4_beat_82 (fun H locs hP hD hS => ?_)
        have hP : va_P D vwCl (w_Mod cs q (zr2 M 7 (upd (M 7) (((9 : Int32) * x2) + x3).toNatClampNeg (M 2 (1 : Int32).toNatClampNeg)))) H := hP
        have hD : va_D A (w_Mod cs q (zr2 M 7 (upd (M 7) (((9 : Int32) * x2) + x3).toNatClampNeg (M 2 (1 : Int32).toNatClampNeg)))) := hD
        refine lv_aload_n hx hb dX4_beat_83 rfl (lv_at hl 2 rfl) ?_
        refine va_get (D := D) (ci := 4) (v := .ref (q 8)) (C := RX4) (T := TX4) (N := 11) hx hb hts (h_X4_X4_beat_n) hown hK hP 0 rfl rfl 10 (by decide) (z_w hts 2 rfl) (fun _ h9 => h9) rfl dX4_beat_84 ?_
        refine lv_bipush (v := (9 : Int32)) hx hb dX4_beat_87 (by decide) ?_
        refine lv_iload_n hx hb dX4_beat_89 rfl (lv_at hl 4 rfl) ?_
        refine lv_imul hx hb dX4_beat_90 ?_
        refine lv_iload_n hx hb dX4_beat_91 rfl (lv_at hl 5 rfl) ?_
        refine lv_iadd hx hb dX4_beat_92 ?_
        refine lv_aload_n hx hb dX4_beat_93 rfl (lv_at hl 3 rfl) ?_
        refine lv_iload_n hx hb dX4_beat_94 rfl (lv_at hl 4 rfl) ?_
        have hPc := hP.sub (ws' := ([] : va_W)) [] rfl
        have hDc := hD.sub (ws' := ([] : va_W)) [] (by decide) rfl
        refine z_calli (va_runS (As := [.int x2]) (rest := [.ref (q 2), .int (((9 : Int32) * x2) + x3), .ref (q 8)]) ⟨hx, hb, hml, hown, hts⟩ (c_X4_at l D cs  H.size x2 _ hw) (va_cwS 1 hts gX4_beat_X4_at rfl rfl rfl (by decide +kernel) ⟨Nat.le_of_ble_eq_true rfl, Nat.le_of_ble_eq_true rfl⟩) (PC_S hPc hDc hKK) rfl rfl hl.1 rfl (lv_room (Nat.le_of_ble_eq_true rfl)) dX4_beat_95 ⟨Nat.le_of_ble_eq_true rfl, Nat.le_of_ble_eq_true rfl⟩) (fun r23 hw => ?_)
        refine lv_iconst (v := (4 : Int32)) hx hb dX4_beat_98 (by decide) ?_
        refine lv_iadd hx hb dX4_beat_99 ?_
        refine lv_iload_n hx hb dX4_beat_100 rfl (lv_at hl 5 rfl) ?_
        refine lv_iadd hx hb dX4_beat_101 ?_
        obtain ⟨h24, hw⟩ := hw
        refine va_iald hx hb hK hP 2 0 rfl rfl h24 dX4_beat_102 ?_
        refine lv_iload hx hb dX4_beat_103 (lv_at hl 0 rfl) ?_
        refine lv_iadd hx hb dX4_beat_105 ?_
        have hPc := hP.sub (ws' := ([] : va_W)) [] rfl
        have hDc := hD.sub (ws' := ([] : va_W)) [] (by decide) rfl
        refine z_calli (va_runS (As := [.int ((M 2 ((r23 + (4 : Int32)) + x3).toNatClampNeg) + (M 2 (1 : Int32).toNatClampNeg))]) (rest := [.int (((9 : Int32) * x2) + x3), .ref (q 8)]) ⟨hx, hb, hml, hown, hts⟩ (c_X4_floor l D cs  H.size ((M 2 ((r23 + (4 : Int32)) + x3).toNatClampNeg) + (M 2 (1 : Int32).toNatClampNeg)) _ hw) (va_cwS 1 hts gX4_beat_X4_floor rfl rfl rfl (by decide +kernel) ⟨Nat.le_of_ble_eq_true rfl, Nat.le_of_ble_eq_true rfl⟩) (PC_S hPc hDc hKK) rfl rfl hl.1 rfl (lv_room (Nat.le_of_ble_eq_true rfl)) dX4_beat_106 ⟨Nat.le_of_ble_eq_true rfl, Nat.le_of_ble_eq_true rfl⟩) (fun r25 hw => ?_)
        obtain ⟨M26, eM26⟩ : ∃ z : MS, z = (zr2 M 7 (upd (M 7) (((9 : Int32) * x2) + x3).toNatClampNeg (M 2 (1 : Int32).toNatClampNeg))) := ⟨_, rfl⟩
        have hw := hw M26 eM26
        rw [← eM26] at hP hD
        obtain ⟨h27, hw⟩ := hw
        refine va_iast hx hb hK hP hD hS 8 0 rfl rfl h27 dX4_beat_109 (fun H locs hP hD hS => ?_)
        have hP : va_P D vwCl (w_Mod cs q (zr2 M26 8 (upd (M26 8) (((9 : Int32) * x2) + x3).toNatClampNeg r25))) H := hP
        have hD : va_D A (w_Mod cs q (zr2 M26 8 (upd (M26 8) (((9 : Int32) * x2) + x3).toNatClampNeg r25))) := hD
        refine lv_iinc (v := x3 + 1) (lv' := [(3, .int (x3 + 1)), (5, .int (M 2 (1 : Int32).toNatClampNeg)), (4, .int y7), (0, .ref (q 0)), (1, .ref (q 2)), (2, .int x2)]) hx hb dX4_beat_110 hl (k := 5) rfl rfl (by decide) rfl (fun ls hl => ?_)
        refine lv_goto (tgt := 11) hx hb dX4_beat_113 (by decide) ?_
        exact ih _ _ hw _ _ hP hD hS ls (lv_sub hl [3, 4, 5, 0] rfl)
set_option maxHeartbeats 4000000 in
set_option maxRecDepth 100000 in
theorem t_X4_beat_n_2 {p : Program} {l : Launch} {e : Env} {s : State} {m : MethodId} {args : Array Value} {below : List Frame} {meth : Method} {c : Code} {D : va_G} {cs : Nat → ClassId} {A : Nat → Prop} (hC : MAt p s m args meth c RX4 cX4_beat 6 none wsX4_beat D cs) (q : Nat → Nat) (Q : MS → Prop) (E122 : MS → Prop) (hA : ∀ q : Nat, s.heap.size ≤ q → A q) (hE122 : ∀ (M' : MS) , E122 M' → ∀ (H : Heap) (locs : List Loc), va_P D vwCl (w_Mod cs q M') H → va_D A (w_Mod cs q M') → va_S A s.heap H locs → ∀ ls : Array Slot, lv_has ls 6 [(0, .ref (q 0)), (1, .ref (q 2))] → W p l e ({ frames := 1, cells := 0, slots := 0, locals := 20 } : Room) s m args below meth c H locs 0 0 (MQ below (va_Qv (fun (u : MS) => Q u) (fun (u : MS) t => va_P D vwCl (w_Mod cs q u) t.heap ∧ va_D A (w_Mod cs q u)) A) args s 0 0 A) (F0 m 122 ls [])) : ∀ (n : Nat) (M : MS) (x2 : Int32), wl_X4_beat_n_2 Q E122 n M x2 → ∀ (H : Heap) (locs : List Loc), va_P D vwCl (w_Mod cs q M) H → va_D A (w_Mod cs q M) → va_S A s.heap H locs → ∀ ls : Array Slot, lv_has ls 6 [(0, .ref (q 0)), (1, .ref (q 2)), (2, .int x2)] → W p l e ({ frames := 1, cells := 0, slots := 0, locals := 20 } : Room) s m args below meth c H locs 0 0 (MQ below (va_Qv (fun (u : MS) => Q u) (fun (u : MS) t => va_P D vwCl (w_Mod cs q u) t.heap ∧ va_D A (w_Mod cs q u)) A) args s 0 0 A) (F0 m 2 ls []) := by
  obtain ⟨hx, hb, hr, hml, hown, hts, hlocks, hKK⟩ := id hC
  have hK := hKK.1
  intro n
  induction n with
  | zero =>
    intro M x2 hw
    exact False.elim hw
  | succ n ih =>
    intro M x2 hw H locs hP hD hS ls hl
    refine lv_iload_n hx hb dX4_beat_2 rfl (lv_at hl 2 rfl) ?_
    refine lv_aload_n hx hb dX4_beat_3 rfl (lv_at hl 1 rfl) ?_
    refine lv_iconst (v := (0 : Int32)) hx hb dX4_beat_4 (by decide) ?_
    refine va_iald hx hb hK hP 2 0 rfl rfl (show vp_in (0 : Int32) 336 by unfold vp_in; decide) dX4_beat_5 ?_
    refine lv_icmp_ge (tgt := 122) hx hb dX4_beat_6 (by decide) (fun c1 => ?_) (fun c1 => ?_)
    · have hw := hw.1 c1
      exact hE122 _ hw _ _ hP hD hS ls (lv_sub hl [0, 1] rfl)
    · have hw := hw.2 c1
      refine lv_iconst (v := (0 : Int32)) hx hb dX4_beat_9 (by decide) ?_
      refine lv_istore_n (lv' := [(3, .int (0 : Int32)), (0, .ref (q 0)), (1, .ref (q 2)), (2, .int x2)]) hx hb dX4_beat_10 rfl hl (by decide) rfl (fun ls hl => ?_)
      obtain ⟨n29, hw⟩ := hw
      refine t_X4_beat_n_11 hC q _ _ _ hA ?_ n29 _ _ hw H locs hP hD hS ls (lv_sub hl [1, 2, 3, 0] rfl)
      · intro v28 hw H locs hP hD hS ls hl
        refine lv_iinc (v := x2 + 1) (lv' := [(2, .int (x2 + 1)), (0, .ref (q 0)), (1, .ref (q 2))]) hx hb dX4_beat_116 hl (k := 2) rfl rfl (by decide) rfl (fun ls hl => ?_)
        refine lv_goto (tgt := 2) hx hb dX4_beat_119 (by decide) ?_
        exact ih _ _ hw _ _ hP hD hS ls (lv_sub hl [1, 2, 0] rfl)
set_option maxHeartbeats 4000000 in
set_option maxRecDepth 100000 in
theorem t_X4_beat_n_143 {p : Program} {l : Launch} {e : Env} {s : State} {m : MethodId} {args : Array Value} {below : List Frame} {meth : Method} {c : Code} {D : va_G} {cs : Nat → ClassId} {A : Nat → Prop} (hC : MAt p s m args meth c RX4 cX4_beat 6 none wsX4_beat D cs) (q : Nat → Nat) (x2 : Int32) (x3 : Int32) (Q : MS → Prop) (E301 : MS → Prop) (hA : ∀ q : Nat, s.heap.size ≤ q → A q) (hE301 : ∀ (M' : MS) , E301 M' → ∀ (H : Heap) (locs : List Loc), va_P D vwCl (w_Mod cs q M') H → va_D A (w_Mod cs q M') → va_S A s.heap H locs → ∀ ls : Array Slot, lv_has ls 6 [(0, .ref (q 0)), (1, .ref (q 2)), (2, .int x2)] → W p l e ({ frames := 1, cells := 0, slots := 0, locals := 20 } : Room) s m args below meth c H locs 0 0 (MQ below (va_Qv (fun (u : MS) => Q u) (fun (u : MS) t => va_P D vwCl (w_Mod cs q u) t.heap ∧ va_D A (w_Mod cs q u)) A) args s 0 0 A) (F0 m 301 ls [])) : ∀ (n : Nat) (M : MS) (x4 : Int32), wl_X4_beat_n_143 x2 x3 Q E301 n M x4 → ∀ (H : Heap) (locs : List Loc), va_P D vwCl (w_Mod cs q M) H → va_D A (w_Mod cs q M) → va_S A s.heap H locs → ∀ ls : Array Slot, lv_has ls 6 [(0, .ref (q 0)), (1, .ref (q 2)), (2, .int x2), (3, .int x3), (4, .int x4)] → W p l e ({ frames := 1, cells := 0, slots := 0, locals := 20 } : Room) s m args below meth c H locs 0 0 (MQ below (va_Qv (fun (u : MS) => Q u) (fun (u : MS) t => va_P D vwCl (w_Mod cs q u) t.heap ∧ va_D A (w_Mod cs q u)) A) args s 0 0 A) (F0 m 143 ls []) := by
  obtain ⟨hx, hb, hr, hml, hown, hts, hlocks, hKK⟩ := id hC
  have hK := hKK.1
  intro n
  induction n with
  | zero =>
    intro M x4 hw
    exact False.elim hw
  | succ n ih =>
    intro M x4 hw H locs hP hD hS ls hl
    refine lv_iload hx hb dX4_beat_143 (lv_at hl 4 rfl) ?_
    refine lv_iload_n hx hb dX4_beat_145 rfl (lv_at hl 3 rfl) ?_
    refine lv_icmp_ge (tgt := 301) hx hb dX4_beat_146 (by decide) (fun c34 => ?_) (fun c34 => ?_)
    · have hw := hw.1 c34
      exact hE301 _ hw _ _ hP hD hS ls (lv_sub hl [0, 1, 2] rfl)
    · have hw := hw.2 c34
      refine lv_aload_n hx hb dX4_beat_149 rfl (lv_at hl 0 rfl) ?_
      refine va_get (D := D) (ci := 4) (v := .ref (q 8)) (C := RX4) (T := TX4) (N := 11) hx hb hts (h_X4_X4_beat_n) hown hK hP 0 rfl rfl 10 (by decide) (z_w hts 2 rfl) (fun _ h9 => h9) rfl dX4_beat_150 ?_
      refine lv_bipush (v := (9 : Int32)) hx hb dX4_beat_153 (by decide) ?_
      refine lv_iload_n hx hb dX4_beat_155 rfl (lv_at hl 2 rfl) ?_
      refine lv_imul hx hb dX4_beat_156 ?_
      refine lv_iload hx hb dX4_beat_157 (lv_at hl 4 rfl) ?_
      refine lv_iadd hx hb dX4_beat_159 ?_
      obtain ⟨h35, hw⟩ := hw
      refine va_iald hx hb hK hP 8 0 rfl rfl h35 dX4_beat_160 ?_
      refine lv_topi (fun y36 ey36 => ?_)
      have hw := hw y36 ey36
      refine lv_istore (lv' := [(5, .int y36), (0, .ref (q 0)), (1, .ref (q 2)), (2, .int x2), (3, .int x3), (4, .int x4)]) hx hb dX4_beat_161 hl (by decide) rfl (fun ls hl => ?_)
      refine lv_aload_n hx hb dX4_beat_163 rfl (lv_at hl 2 rfl) ?_
      refine lv_iload_n hx hb dX4_beat_164 rfl (lv_at hl 3 rfl) ?_
      have hPc := hP.sub (ws' := ([] : va_W)) [] rfl
      have hDc := hD.sub (ws' := ([] : va_W)) [] (by decide) rfl
      refine z_calli (va_runS (As := [.int x2]) (rest := [.ref (q 2)]) ⟨hx, hb, hml, hown, hts⟩ (c_X4_at l D cs  H.size x2 _ hw) (va_cwS 1 hts gX4_beat_X4_at rfl rfl rfl (by decide +kernel) ⟨Nat.le_of_ble_eq_true rfl, Nat.le_of_ble_eq_true rfl⟩) (PC_S hPc hDc hKK) rfl rfl hl.1 rfl (lv_room (Nat.le_of_ble_eq_true rfl)) dX4_beat_165 ⟨Nat.le_of_ble_eq_true rfl, Nat.le_of_ble_eq_true rfl⟩) (fun r37 hw => ?_)
      refine lv_bipush (v := (13 : Int32)) hx hb dX4_beat_168 (by decide) ?_
      refine lv_iadd hx hb dX4_beat_170 ?_
      refine lv_iload hx hb dX4_beat_171 (lv_at hl 5 rfl) ?_
      refine lv_iadd hx hb dX4_beat_173 ?_
      refine lv_dup2_11 hx hb dX4_beat_174 rfl rfl ?_
      obtain ⟨h38, hw⟩ := hw
      refine va_iald hx hb hK hP 2 0 rfl rfl h38 dX4_beat_175 ?_
      refine lv_aload_n hx hb dX4_beat_176 rfl (lv_at hl 1 rfl) ?_
      refine va_get (D := D) (ci := 4) (v := .ref (q 7)) (C := RX4) (T := TX4) (N := 11) hx hb hts (h_X4_X4_beat_n) hown hK hP 0 rfl rfl 9 (by decide) (z_w hts 1 rfl) (fun _ h9 => h9) rfl dX4_beat_177 ?_
      refine lv_bipush (v := (9 : Int32)) hx hb dX4_beat_180 (by decide) ?_
      refine lv_iload_n hx hb dX4_beat_182 rfl (lv_at hl 3 rfl) ?_
      refine lv_imul hx hb dX4_beat_183 ?_
      refine lv_iload hx hb dX4_beat_184 (lv_at hl 5 rfl) ?_
      refine lv_iadd hx hb dX4_beat_186 ?_
      obtain ⟨h39, hw⟩ := hw
      refine va_iald hx hb hK hP 7 0 rfl rfl h39 dX4_beat_187 ?_
      refine lv_isub hx hb dX4_beat_188 ?_
      obtain ⟨h40, hw⟩ := hw
      refine va_iast hx hb hK hP hD hS 2 0 rfl rfl h40 dX4_beat_189 (fun H locs hP hD hS => ?_)
      have hP : va_P D vwCl (w_Mod cs q (zr2 M 2 (upd (M 2) ((r37 + (13 : Int32)) + x4).toNatClampNeg ((M 2 ((r37 + (13 : Int32)) + x4).toNatClampNeg) - (M 7 (((9 : Int32) * x2) + x4).toNatClampNeg))))) H := hP
      have hD : va_D A (w_Mod cs q (zr2 M 2 (upd (M 2) ((r37 + (13 : Int32)) + x4).toNatClampNeg ((M 2 ((r37 + (13 : Int32)) + x4).toNatClampNeg) - (M 7 (((9 : Int32) * x2) + x4).toNatClampNeg))))) := hD
      refine lv_aload_n hx hb dX4_beat_190 rfl (lv_at hl 2 rfl) ?_
      refine lv_iload_n hx hb dX4_beat_191 rfl (lv_at hl 3 rfl) ?_
      have hPc := hP.sub (ws' := ([] : va_W)) [] rfl
      have hDc := hD.sub (ws' := ([] : va_W)) [] (by decide) rfl
      refine z_calli (va_runS (As := [.int x2]) (rest := [.ref (q 2)]) ⟨hx, hb, hml, hown, hts⟩ (c_X4_at l D cs  H.size x2 _ hw) (va_cwS 1 hts gX4_beat_X4_at rfl rfl rfl (by decide +kernel) ⟨Nat.le_of_ble_eq_true rfl, Nat.le_of_ble_eq_true rfl⟩) (PC_S hPc hDc hKK) rfl rfl hl.1 rfl (lv_room (Nat.le_of_ble_eq_true rfl)) dX4_beat_192 ⟨Nat.le_of_ble_eq_true rfl, Nat.le_of_ble_eq_true rfl⟩) (fun r41 hw => ?_)
      refine lv_iconst (v := (4 : Int32)) hx hb dX4_beat_195 (by decide) ?_
      refine lv_iadd hx hb dX4_beat_196 ?_
      refine lv_iload hx hb dX4_beat_197 (lv_at hl 5 rfl) ?_
      refine lv_iadd hx hb dX4_beat_199 ?_
      refine lv_dup2_11 hx hb dX4_beat_200 rfl rfl ?_
      obtain ⟨h42, hw⟩ := hw
      refine va_iald hx hb hK hP 2 0 rfl rfl h42 dX4_beat_201 ?_
      refine lv_aload_n hx hb dX4_beat_202 rfl (lv_at hl 1 rfl) ?_
      refine va_get (D := D) (ci := 4) (v := .ref (q 7)) (C := RX4) (T := TX4) (N := 11) hx hb hts (h_X4_X4_beat_n) hown hK hP 0 rfl rfl 9 (by decide) (z_w hts 1 rfl) (fun _ h9 => h9) rfl dX4_beat_203 ?_
      refine lv_bipush (v := (9 : Int32)) hx hb dX4_beat_206 (by decide) ?_
      refine lv_iload_n hx hb dX4_beat_208 rfl (lv_at hl 3 rfl) ?_
      refine lv_imul hx hb dX4_beat_209 ?_
      refine lv_iload hx hb dX4_beat_210 (lv_at hl 5 rfl) ?_
      refine lv_iadd hx hb dX4_beat_212 ?_
      obtain ⟨h43, hw⟩ := hw
      refine va_iald hx hb hK hP 7 0 rfl rfl h43 dX4_beat_213 ?_
      refine lv_iconst (v := (3 : Int32)) hx hb dX4_beat_214 (by decide) ?_
      refine lv_iload hx hb dX4_beat_215 (lv_at hl 0 rfl) ?_
      refine lv_imul hx hb dX4_beat_217 ?_
      refine lv_isub hx hb dX4_beat_218 ?_
      refine lv_iadd hx hb dX4_beat_219 ?_
      obtain ⟨M44, eM44⟩ : ∃ z : MS, z = (zr2 M 2 (upd (M 2) ((r37 + (13 : Int32)) + x4).toNatClampNeg ((M 2 ((r37 + (13 : Int32)) + x4).toNatClampNeg) - (M 7 (((9 : Int32) * x2) + x4).toNatClampNeg)))) := ⟨_, rfl⟩
      have hw := hw M44 eM44
      rw [← eM44] at hP hD
      obtain ⟨h45, hw⟩ := hw
      refine va_iast hx hb hK hP hD hS 2 0 rfl rfl h45 dX4_beat_220 (fun H locs hP hD hS => ?_)
      have hP : va_P D vwCl (w_Mod cs q (zr2 M44 2 (upd (M44 2) ((r41 + (4 : Int32)) + x4).toNatClampNeg ((upd (M 2) ((r37 + (13 : Int32)) + x4).toNatClampNeg ((M 2 ((r37 + (13 : Int32)) + x4).toNatClampNeg) - (M 7 (((9 : Int32) * x2) + x4).toNatClampNeg)) ((r41 + (4 : Int32)) + x4).toNatClampNeg) + ((M 7 (((9 : Int32) * x2) + x4).toNatClampNeg) - ((3 : Int32) * y36)))))) H := hP
      have hD : va_D A (w_Mod cs q (zr2 M44 2 (upd (M44 2) ((r41 + (4 : Int32)) + x4).toNatClampNeg ((upd (M 2) ((r37 + (13 : Int32)) + x4).toNatClampNeg ((M 2 ((r37 + (13 : Int32)) + x4).toNatClampNeg) - (M 7 (((9 : Int32) * x2) + x4).toNatClampNeg)) ((r41 + (4 : Int32)) + x4).toNatClampNeg) + ((M 7 (((9 : Int32) * x2) + x4).toNatClampNeg) - ((3 : Int32) * y36)))))) := hD
      refine lv_iload hx hb dX4_beat_221 (lv_at hl 5 rfl) ?_
      refine lv_iload_n hx hb dX4_beat_223 rfl (lv_at hl 4 rfl) ?_
      refine lv_iconst (v := (1 : Int32)) hx hb dX4_beat_224 (by decide) ?_
      refine lv_isub hx hb dX4_beat_225 ?_
      refine lv_icmp_ge (tgt := 251) hx hb dX4_beat_226 (by decide) (fun c46 => ?_) (fun c46 => ?_)
      · have hw := hw.1 c46
        refine lv_aload_n hx hb dX4_beat_251 rfl (lv_at hl 2 rfl) ?_
        refine lv_iload_n hx hb dX4_beat_252 rfl (lv_at hl 3 rfl) ?_
        have hPc := hP.sub (ws' := ([] : va_W)) [] rfl
        have hDc := hD.sub (ws' := ([] : va_W)) [] (by decide) rfl
        refine z_calli (va_runS (As := [.int x2]) (rest := [.ref (q 2)]) ⟨hx, hb, hml, hown, hts⟩ (c_X4_at l D cs  H.size x2 _ hw) (va_cwS 1 hts gX4_beat_X4_at rfl rfl rfl (by decide +kernel) ⟨Nat.le_of_ble_eq_true rfl, Nat.le_of_ble_eq_true rfl⟩) (PC_S hPc hDc hKK) rfl rfl hl.1 rfl (lv_room (Nat.le_of_ble_eq_true rfl)) dX4_beat_253 ⟨Nat.le_of_ble_eq_true rfl, Nat.le_of_ble_eq_true rfl⟩) (fun r47 hw => ?_)
        refine lv_iconst (v := (1 : Int32)) hx hb dX4_beat_256 (by decide) ?_
        refine lv_iadd hx hb dX4_beat_257 ?_
        obtain ⟨h48, hw⟩ := hw
        refine va_iald hx hb hK hP 2 0 rfl rfl h48 dX4_beat_258 ?_
        refine lv_iconst (v := (1 : Int32)) hx hb dX4_beat_259 (by decide) ?_
        refine lv_icmp_ne (tgt := 282) hx hb dX4_beat_260 (by decide) (fun c49 => ?_) (fun c49 => ?_)
        · have hw := hw.2 c49
          refine lv_aload_n hx hb dX4_beat_282 rfl (lv_at hl 2 rfl) ?_
          refine lv_iload_n hx hb dX4_beat_283 rfl (lv_at hl 3 rfl) ?_
          have hPc := hP.sub (ws' := ([] : va_W)) [] rfl
          have hDc := hD.sub (ws' := ([] : va_W)) [] (by decide) rfl
          refine z_calli (va_runS (As := [.int x2]) (rest := [.ref (q 2)]) ⟨hx, hb, hml, hown, hts⟩ (c_X4_at l D cs  H.size x2 _ hw) (va_cwS 1 hts gX4_beat_X4_at rfl rfl rfl (by decide +kernel) ⟨Nat.le_of_ble_eq_true rfl, Nat.le_of_ble_eq_true rfl⟩) (PC_S hPc hDc hKK) rfl rfl hl.1 rfl (lv_room (Nat.le_of_ble_eq_true rfl)) dX4_beat_284 ⟨Nat.le_of_ble_eq_true rfl, Nat.le_of_ble_eq_true rfl⟩) (fun r50 hw => ?_)
          refine lv_iconst (v := (2 : Int32)) hx hb dX4_beat_287 (by decide) ?_
          refine lv_iadd hx hb dX4_beat_288 ?_
          refine lv_dup2_11 hx hb dX4_beat_289 rfl rfl ?_
          obtain ⟨h51, hw⟩ := hw
          refine va_iald hx hb hK hP 2 0 rfl rfl h51 dX4_beat_290 ?_
          refine lv_iload hx hb dX4_beat_291 (lv_at hl 0 rfl) ?_
          refine lv_iadd hx hb dX4_beat_293 ?_
          obtain ⟨M52, eM52⟩ : ∃ z : MS, z = (zr2 M44 2 (upd (M44 2) ((r41 + (4 : Int32)) + x4).toNatClampNeg ((upd (M 2) ((r37 + (13 : Int32)) + x4).toNatClampNeg ((M 2 ((r37 + (13 : Int32)) + x4).toNatClampNeg) - (M 7 (((9 : Int32) * x2) + x4).toNatClampNeg)) ((r41 + (4 : Int32)) + x4).toNatClampNeg) + ((M 7 (((9 : Int32) * x2) + x4).toNatClampNeg) - ((3 : Int32) * y36))))) := ⟨_, rfl⟩
          have hw := hw M52 eM52
          rw [← eM52] at hP hD
          obtain ⟨h53, hw⟩ := hw
          refine va_iast hx hb hK hP hD hS 2 0 rfl rfl h53 dX4_beat_294 (fun H locs hP hD hS => ?_)
          have hP : va_P D vwCl (w_Mod cs q (zr2 M52 2 (upd (M52 2) (r50 + (2 : Int32)).toNatClampNeg ((upd (M44 2) ((r41 + (4 : Int32)) + x4).toNatClampNeg ((upd (M 2) ((r37 + (13 : Int32)) + x4).toNatClampNeg ((M 2 ((r37 + (13 : Int32)) + x4).toNatClampNeg) - (M 7 (((9 : Int32) * x2) + x4).toNatClampNeg)) ((r41 + (4 : Int32)) + x4).toNatClampNeg) + ((M 7 (((9 : Int32) * x2) + x4).toNatClampNeg) - ((3 : Int32) * y36))) (r50 + (2 : Int32)).toNatClampNeg) + y36)))) H := hP
          have hD : va_D A (w_Mod cs q (zr2 M52 2 (upd (M52 2) (r50 + (2 : Int32)).toNatClampNeg ((upd (M44 2) ((r41 + (4 : Int32)) + x4).toNatClampNeg ((upd (M 2) ((r37 + (13 : Int32)) + x4).toNatClampNeg ((M 2 ((r37 + (13 : Int32)) + x4).toNatClampNeg) - (M 7 (((9 : Int32) * x2) + x4).toNatClampNeg)) ((r41 + (4 : Int32)) + x4).toNatClampNeg) + ((M 7 (((9 : Int32) * x2) + x4).toNatClampNeg) - ((3 : Int32) * y36))) (r50 + (2 : Int32)).toNatClampNeg) + y36)))) := hD
          refine lv_iinc (v := x4 + 1) (lv' := [(4, .int (x4 + 1)), (5, .int y36), (0, .ref (q 0)), (1, .ref (q 2)), (2, .int x2), (3, .int x3)]) hx hb dX4_beat_295 hl (k := 5) rfl rfl (by decide) rfl (fun ls hl => ?_)
          refine lv_goto (tgt := 143) hx hb dX4_beat_298 (by decide) ?_
          exact ih _ _ hw _ _ hP hD hS ls (lv_sub hl [2, 3, 4, 5, 0] rfl)
        · have hw := hw.1 c49
          refine lv_aload_n hx hb dX4_beat_263 rfl (lv_at hl 2 rfl) ?_
          refine lv_iload_n hx hb dX4_beat_264 rfl (lv_at hl 3 rfl) ?_
          refine lv_iconst (v := (1 : Int32)) hx hb dX4_beat_265 (by decide) ?_
          refine lv_iadd hx hb dX4_beat_266 ?_
          have hPc := hP.sub (ws' := ([] : va_W)) [] rfl
          have hDc := hD.sub (ws' := ([] : va_W)) [] (by decide) rfl
          refine z_calli (va_runS (As := [.int (x2 + (1 : Int32))]) (rest := [.ref (q 2)]) ⟨hx, hb, hml, hown, hts⟩ (c_X4_at l D cs  H.size (x2 + (1 : Int32)) _ hw) (va_cwS 1 hts gX4_beat_X4_at rfl rfl rfl (by decide +kernel) ⟨Nat.le_of_ble_eq_true rfl, Nat.le_of_ble_eq_true rfl⟩) (PC_S hPc hDc hKK) rfl rfl hl.1 rfl (lv_room (Nat.le_of_ble_eq_true rfl)) dX4_beat_267 ⟨Nat.le_of_ble_eq_true rfl, Nat.le_of_ble_eq_true rfl⟩) (fun r54 hw => ?_)
          refine lv_bipush (v := (13 : Int32)) hx hb dX4_beat_270 (by decide) ?_
          refine lv_iadd hx hb dX4_beat_272 ?_
          refine lv_dup2_11 hx hb dX4_beat_273 rfl rfl ?_
          obtain ⟨h55, hw⟩ := hw
          refine va_iald hx hb hK hP 2 0 rfl rfl h55 dX4_beat_274 ?_
          refine lv_iload hx hb dX4_beat_275 (lv_at hl 0 rfl) ?_
          refine lv_iadd hx hb dX4_beat_277 ?_
          obtain ⟨M56, eM56⟩ : ∃ z : MS, z = (zr2 M44 2 (upd (M44 2) ((r41 + (4 : Int32)) + x4).toNatClampNeg ((upd (M 2) ((r37 + (13 : Int32)) + x4).toNatClampNeg ((M 2 ((r37 + (13 : Int32)) + x4).toNatClampNeg) - (M 7 (((9 : Int32) * x2) + x4).toNatClampNeg)) ((r41 + (4 : Int32)) + x4).toNatClampNeg) + ((M 7 (((9 : Int32) * x2) + x4).toNatClampNeg) - ((3 : Int32) * y36))))) := ⟨_, rfl⟩
          have hw := hw M56 eM56
          rw [← eM56] at hP hD
          obtain ⟨h57, hw⟩ := hw
          refine va_iast hx hb hK hP hD hS 2 0 rfl rfl h57 dX4_beat_278 (fun H locs hP hD hS => ?_)
          have hP : va_P D vwCl (w_Mod cs q (zr2 M56 2 (upd (M56 2) (r54 + (13 : Int32)).toNatClampNeg ((upd (M44 2) ((r41 + (4 : Int32)) + x4).toNatClampNeg ((upd (M 2) ((r37 + (13 : Int32)) + x4).toNatClampNeg ((M 2 ((r37 + (13 : Int32)) + x4).toNatClampNeg) - (M 7 (((9 : Int32) * x2) + x4).toNatClampNeg)) ((r41 + (4 : Int32)) + x4).toNatClampNeg) + ((M 7 (((9 : Int32) * x2) + x4).toNatClampNeg) - ((3 : Int32) * y36))) (r54 + (13 : Int32)).toNatClampNeg) + y36)))) H := hP
          have hD : va_D A (w_Mod cs q (zr2 M56 2 (upd (M56 2) (r54 + (13 : Int32)).toNatClampNeg ((upd (M44 2) ((r41 + (4 : Int32)) + x4).toNatClampNeg ((upd (M 2) ((r37 + (13 : Int32)) + x4).toNatClampNeg ((M 2 ((r37 + (13 : Int32)) + x4).toNatClampNeg) - (M 7 (((9 : Int32) * x2) + x4).toNatClampNeg)) ((r41 + (4 : Int32)) + x4).toNatClampNeg) + ((M 7 (((9 : Int32) * x2) + x4).toNatClampNeg) - ((3 : Int32) * y36))) (r54 + (13 : Int32)).toNatClampNeg) + y36)))) := hD
          refine lv_goto (tgt := 295) hx hb dX4_beat_279 (by decide) ?_
          refine lv_iinc (v := x4 + 1) (lv' := [(4, .int (x4 + 1)), (5, .int y36), (0, .ref (q 0)), (1, .ref (q 2)), (2, .int x2), (3, .int x3)]) hx hb dX4_beat_295 hl (k := 5) rfl rfl (by decide) rfl (fun ls hl => ?_)
          refine lv_goto (tgt := 143) hx hb dX4_beat_298 (by decide) ?_
          exact ih _ _ hw _ _ hP hD hS ls (lv_sub hl [2, 3, 4, 5, 0] rfl)
      · have hw := hw.2 c46
        refine lv_aload_n hx hb dX4_beat_229 rfl (lv_at hl 2 rfl) ?_
        refine lv_iload_n hx hb dX4_beat_230 rfl (lv_at hl 3 rfl) ?_
        have hPc := hP.sub (ws' := ([] : va_W)) [] rfl
        have hDc := hD.sub (ws' := ([] : va_W)) [] (by decide) rfl
        refine z_calli (va_runS (As := [.int x2]) (rest := [.ref (q 2)]) ⟨hx, hb, hml, hown, hts⟩ (c_X4_at l D cs  H.size x2 _ hw) (va_cwS 1 hts gX4_beat_X4_at rfl rfl rfl (by decide +kernel) ⟨Nat.le_of_ble_eq_true rfl, Nat.le_of_ble_eq_true rfl⟩) (PC_S hPc hDc hKK) rfl rfl hl.1 rfl (lv_room (Nat.le_of_ble_eq_true rfl)) dX4_beat_231 ⟨Nat.le_of_ble_eq_true rfl, Nat.le_of_ble_eq_true rfl⟩) (fun r58 hw => ?_)
        refine lv_bipush (v := (13 : Int32)) hx hb dX4_beat_234 (by decide) ?_
        refine lv_iadd hx hb dX4_beat_236 ?_
        refine lv_iload hx hb dX4_beat_237 (lv_at hl 5 rfl) ?_
        refine lv_iadd hx hb dX4_beat_239 ?_
        refine lv_iconst (v := (1 : Int32)) hx hb dX4_beat_240 (by decide) ?_
        refine lv_iadd hx hb dX4_beat_241 ?_
        refine lv_dup2_11 hx hb dX4_beat_242 rfl rfl ?_
        obtain ⟨h59, hw⟩ := hw
        refine va_iald hx hb hK hP 2 0 rfl rfl h59 dX4_beat_243 ?_
        refine lv_iload hx hb dX4_beat_244 (lv_at hl 0 rfl) ?_
        refine lv_iadd hx hb dX4_beat_246 ?_
        obtain ⟨M60, eM60⟩ : ∃ z : MS, z = (zr2 M44 2 (upd (M44 2) ((r41 + (4 : Int32)) + x4).toNatClampNeg ((upd (M 2) ((r37 + (13 : Int32)) + x4).toNatClampNeg ((M 2 ((r37 + (13 : Int32)) + x4).toNatClampNeg) - (M 7 (((9 : Int32) * x2) + x4).toNatClampNeg)) ((r41 + (4 : Int32)) + x4).toNatClampNeg) + ((M 7 (((9 : Int32) * x2) + x4).toNatClampNeg) - ((3 : Int32) * y36))))) := ⟨_, rfl⟩
        have hw := hw M60 eM60
        rw [← eM60] at hP hD
        obtain ⟨h61, hw⟩ := hw
        refine va_iast hx hb hK hP hD hS 2 0 rfl rfl h61 dX4_beat_247 (fun H locs hP hD hS => ?_)
        have hP : va_P D vwCl (w_Mod cs q (zr2 M60 2 (upd (M60 2) (((r58 + (13 : Int32)) + x4) + (1 : Int32)).toNatClampNeg ((upd (M44 2) ((r41 + (4 : Int32)) + x4).toNatClampNeg ((upd (M 2) ((r37 + (13 : Int32)) + x4).toNatClampNeg ((M 2 ((r37 + (13 : Int32)) + x4).toNatClampNeg) - (M 7 (((9 : Int32) * x2) + x4).toNatClampNeg)) ((r41 + (4 : Int32)) + x4).toNatClampNeg) + ((M 7 (((9 : Int32) * x2) + x4).toNatClampNeg) - ((3 : Int32) * y36))) (((r58 + (13 : Int32)) + x4) + (1 : Int32)).toNatClampNeg) + y36)))) H := hP
        have hD : va_D A (w_Mod cs q (zr2 M60 2 (upd (M60 2) (((r58 + (13 : Int32)) + x4) + (1 : Int32)).toNatClampNeg ((upd (M44 2) ((r41 + (4 : Int32)) + x4).toNatClampNeg ((upd (M 2) ((r37 + (13 : Int32)) + x4).toNatClampNeg ((M 2 ((r37 + (13 : Int32)) + x4).toNatClampNeg) - (M 7 (((9 : Int32) * x2) + x4).toNatClampNeg)) ((r41 + (4 : Int32)) + x4).toNatClampNeg) + ((M 7 (((9 : Int32) * x2) + x4).toNatClampNeg) - ((3 : Int32) * y36))) (((r58 + (13 : Int32)) + x4) + (1 : Int32)).toNatClampNeg) + y36)))) := hD
        refine lv_goto (tgt := 295) hx hb dX4_beat_248 (by decide) ?_
        refine lv_iinc (v := x4 + 1) (lv' := [(4, .int (x4 + 1)), (5, .int y36), (0, .ref (q 0)), (1, .ref (q 2)), (2, .int x2), (3, .int x3)]) hx hb dX4_beat_295 hl (k := 5) rfl rfl (by decide) rfl (fun ls hl => ?_)
        refine lv_goto (tgt := 143) hx hb dX4_beat_298 (by decide) ?_
        exact ih _ _ hw _ _ hP hD hS ls (lv_sub hl [2, 3, 4, 5, 0] rfl)
set_option maxHeartbeats 4000000 in
set_option maxRecDepth 100000 in
theorem t_X4_beat_n_124 {p : Program} {l : Launch} {e : Env} {s : State} {m : MethodId} {args : Array Value} {below : List Frame} {meth : Method} {c : Code} {D : va_G} {cs : Nat → ClassId} {A : Nat → Prop} (hC : MAt p s m args meth c RX4 cX4_beat 6 none wsX4_beat D cs) (q : Nat → Nat) (Q : MS → Prop) (hA : ∀ q : Nat, s.heap.size ≤ q → A q) : ∀ (n : Nat) (M : MS) (x2 : Int32), wl_X4_beat_n_124 Q n M x2 → ∀ (H : Heap) (locs : List Loc), va_P D vwCl (w_Mod cs q M) H → va_D A (w_Mod cs q M) → va_S A s.heap H locs → ∀ ls : Array Slot, lv_has ls 6 [(0, .ref (q 0)), (1, .ref (q 2)), (2, .int x2)] → W p l e ({ frames := 1, cells := 0, slots := 0, locals := 20 } : Room) s m args below meth c H locs 0 0 (MQ below (va_Qv (fun (u : MS) => Q u) (fun (u : MS) t => va_P D vwCl (w_Mod cs q u) t.heap ∧ va_D A (w_Mod cs q u)) A) args s 0 0 A) (F0 m 124 ls []) := by
  obtain ⟨hx, hb, hr, hml, hown, hts, hlocks, hKK⟩ := id hC
  have hK := hKK.1
  intro n
  induction n with
  | zero =>
    intro M x2 hw
    exact False.elim hw
  | succ n ih =>
    intro M x2 hw H locs hP hD hS ls hl
    refine lv_iload_n hx hb dX4_beat_124 rfl (lv_at hl 2 rfl) ?_
    refine lv_aload_n hx hb dX4_beat_125 rfl (lv_at hl 1 rfl) ?_
    refine lv_iconst (v := (0 : Int32)) hx hb dX4_beat_126 (by decide) ?_
    refine va_iald hx hb hK hP 2 0 rfl rfl (show vp_in (0 : Int32) 336 by unfold vp_in; decide) dX4_beat_127 ?_
    refine lv_icmp_ge (tgt := 307) hx hb dX4_beat_128 (by decide) (fun c31 => ?_) (fun c31 => ?_)
    · have hw := hw.1 c31
      refine lv_aload_n hx hb dX4_beat_307 rfl (lv_at hl 1 rfl) ?_
      refine lv_iconst (v := (2 : Int32)) hx hb dX4_beat_308 (by decide) ?_
      refine lv_dup2_11 hx hb dX4_beat_309 rfl rfl ?_
      refine va_iald hx hb hK hP 2 0 rfl rfl (show vp_in (2 : Int32) 336 by unfold vp_in; decide) dX4_beat_310 ?_
      refine lv_iconst (v := (1 : Int32)) hx hb dX4_beat_311 (by decide) ?_
      refine lv_iadd hx hb dX4_beat_312 ?_
      refine va_iast hx hb hK hP hD hS 2 0 rfl rfl (show vp_in (2 : Int32) 336 by unfold vp_in; decide) dX4_beat_313 (fun H locs hP hD hS => ?_)
      have hP : va_P D vwCl (w_Mod cs q (zr2 M 2 (upd (M 2) (2 : Int32).toNatClampNeg ((M 2 (2 : Int32).toNatClampNeg) + (1 : Int32))))) H := hP
      have hD : va_D A (w_Mod cs q (zr2 M 2 (upd (M 2) (2 : Int32).toNatClampNeg ((M 2 (2 : Int32).toNatClampNeg) + (1 : Int32))))) := hD
      exact W.vret hx hb hr (fun t ht hW => ⟨⟨(zr2 M 2 (upd (M 2) (2 : Int32).toNatClampNeg ((M 2 (2 : Int32).toNatClampNeg) + (1 : Int32)))), rfl, hw, by rw [ht]; exact hP, hD⟩, hS.F ht⟩) hS.2.2 dX4_beat_314 hlocks
    · have hw := hw.2 c31
      refine lv_aload_n hx hb dX4_beat_131 rfl (lv_at hl 1 rfl) ?_
      refine lv_iload_n hx hb dX4_beat_132 rfl (lv_at hl 2 rfl) ?_
      have hPc := hP.sub (ws' := ([] : va_W)) [] rfl
      have hDc := hD.sub (ws' := ([] : va_W)) [] (by decide) rfl
      refine z_calli (va_runS (As := [.int x2]) (rest := [.ref (q 2)]) ⟨hx, hb, hml, hown, hts⟩ (c_X4_at l D cs  H.size x2 _ hw) (va_cwS 1 hts gX4_beat_X4_at rfl rfl rfl (by decide +kernel) ⟨Nat.le_of_ble_eq_true rfl, Nat.le_of_ble_eq_true rfl⟩) (PC_S hPc hDc hKK) rfl rfl hl.1 rfl (lv_room (Nat.le_of_ble_eq_true rfl)) dX4_beat_133 ⟨Nat.le_of_ble_eq_true rfl, Nat.le_of_ble_eq_true rfl⟩) (fun r32 hw => ?_)
      refine lv_iconst (v := (0 : Int32)) hx hb dX4_beat_136 (by decide) ?_
      refine lv_iadd hx hb dX4_beat_137 ?_
      obtain ⟨h33, hw⟩ := hw
      refine va_iald hx hb hK hP 2 0 rfl rfl h33 dX4_beat_138 ?_
      refine lv_istore_n (lv' := [(3, .int (M 2 (r32 + (0 : Int32)).toNatClampNeg)), (0, .ref (q 0)), (1, .ref (q 2)), (2, .int x2)]) hx hb dX4_beat_139 rfl hl (by decide) rfl (fun ls hl => ?_)
      refine lv_iconst (v := (0 : Int32)) hx hb dX4_beat_140 (by decide) ?_
      refine lv_istore (lv' := [(4, .int (0 : Int32)), (3, .int (M 2 (r32 + (0 : Int32)).toNatClampNeg)), (0, .ref (q 0)), (1, .ref (q 2)), (2, .int x2)]) hx hb dX4_beat_141 hl (by decide) rfl (fun ls hl => ?_)
      obtain ⟨n63, hw⟩ := hw
      refine t_X4_beat_n_143 hC q _ _ _ _ hA ?_ n63 _ _ hw H locs hP hD hS ls (lv_sub hl [2, 3, 4, 1, 0] rfl)
      · intro v62 hw H locs hP hD hS ls hl
        refine lv_iinc (v := x2 + 1) (lv' := [(2, .int (x2 + 1)), (0, .ref (q 0)), (1, .ref (q 2))]) hx hb dX4_beat_301 hl (k := 2) rfl rfl (by decide) rfl (fun ls hl => ?_)
        refine lv_goto (tgt := 124) hx hb dX4_beat_304 (by decide) ?_
        exact ih _ _ hw _ _ hP hD hS ls (lv_sub hl [1, 2, 0] rfl)
set_option maxHeartbeats 4000000 in
set_option maxRecDepth 100000 in
theorem t_X4_beat_n {p : Program} {l : Launch} {e : Env} {s : State} {m : MethodId} {args : Array Value} {below : List Frame} {meth : Method} {c : Code} {D : va_G} {cs : Nat → ClassId} {A : Nat → Prop} (hC : MAt p s m args meth c RX4 cX4_beat 6 none wsX4_beat D cs) (q : Nat → Nat) (M : MS) (Q : MS → Prop) (hA : ∀ q : Nat, s.heap.size ≤ q → A q) (hw : wp_X4_beat_n M Q) (H : Heap) (locs : List Loc) (hP : va_P D vwCl (w_Mod cs q M) H) (hD : va_D A (w_Mod cs q M)) (hS : va_S A s.heap H locs) (ls : Array Slot) (hl : lv_has ls 6 [(0, .ref (q 0)), (1, .ref (q 2))]) : W p l e ({ frames := 1, cells := 0, slots := 0, locals := 20 } : Room) s m args below meth c H locs 0 0 (MQ below (va_Qv (fun (u : MS) => Q u) (fun (u : MS) t => va_P D vwCl (w_Mod cs q u) t.heap ∧ va_D A (w_Mod cs q u)) A) args s 0 0 A) (F0 m 0 ls []) := by
  obtain ⟨hx, hb, hr, hml, hown, hts, hlocks, hKK⟩ := id hC
  have hK := hKK.1
  refine lv_iconst (v := (0 : Int32)) hx hb dX4_beat_0 (by decide) ?_
  refine lv_istore_n (lv' := [(2, .int (0 : Int32)), (0, .ref (q 0)), (1, .ref (q 2))]) hx hb dX4_beat_1 rfl hl (by decide) rfl (fun ls hl => ?_)
  obtain ⟨n65, hw⟩ := hw
  refine t_X4_beat_n_2 hC q _ _ hA ?_ n65 _ _ hw H locs hP hD hS ls (lv_sub hl [1, 2, 0] rfl)
  · intro v30 hw H locs hP hD hS ls hl
    refine lv_iconst (v := (0 : Int32)) hx hb dX4_beat_122 (by decide) ?_
    refine lv_istore_n (lv' := [(2, .int (0 : Int32)), (0, .ref (q 0)), (1, .ref (q 2))]) hx hb dX4_beat_123 rfl hl (by decide) rfl (fun ls hl => ?_)
    obtain ⟨n64, hw⟩ := hw
    exact t_X4_beat_n_124 hC q _ hA n64 _ _ hw H locs hP hD hS ls (lv_sub hl [1, 2, 0] rfl)
set_option maxHeartbeats 4000000 in
set_option maxRecDepth 100000 in
theorem c_X4_beat_n (l : Launch) (D : va_G) (cs : Nat → ClassId) (q : Nat → Nat) (sz : Nat) (M : MS) (Q : MS → Prop) (hw : wp_X4_beat_n M Q) : Met l yX4_beat wsX4_beat ({ frames := 1, cells := 0, slots := 0, locals := 20 } : Room) (va_Pc [.ref (q 0), .ref (q 2)] (PC D cs (w_Mod cs q M) sz)) (va_Qv (fun (u : MS) => Q u) (fun (u : MS) t => va_P D vwCl (w_Mod cs q u) t.heap ∧ va_D (va_A (w_Mod cs q M) sz) (w_Mod cs q u)) (va_A (w_Mod cs q M) sz)) 0 0 (va_A (w_Mod cs q M) sz) := by
  refine Met.ofW (cc := cX4_beat) (maxL := 6) (ret := none) (by decide) rfl ?_
  intro p e s m args below meth c s₁ B hml hv
  obtain ⟨rfl, hsz, hP, hKK, hD0⟩ := hv
  have hC : MAt p s m _ meth c RX4 cX4_beat 6 none wsX4_beat D cs := ⟨B.exec, B.bytes, B.returns, hml, findClass_of_methodNamed B.named, atoms_spec (ws := wsX4_beat) B.pre, B.notSynchronized, hKK⟩
  have hl := lv_entry ([.ref (q 0), .ref (q 2)]) (n := 6) (Nat.le_of_ble_eq_true rfl)
  rw [lg_entry_eq]
  generalize (lg_sl ([.ref (q 0), .ref (q 2)]) ++ List.replicate (6 - (lg_sl ([.ref (q 0), .ref (q 2)])).length) Slot.unset).toArray = ls at hl ⊢
  subst hsz
  have hD := hD0.self (sz := s.heap.size)
  have hA : ∀ z : Nat, s.heap.size ≤ z → va_A (w_Mod cs q M) s.heap.size z := fun z h => Or.inr h
  exact t_X4_beat_n hC q M Q hA hw s.heap [] hP hD va_S.rf ls hl
theorem h_X4_X4_beat_t : ∀ w ∈ u_ws RX4 TX4 11, w ∈ wsX4_beat := fun _ h => List.mem_cons_of_mem _ (List.mem_append_right _ h)
set_option maxHeartbeats 4000000 in
set_option maxRecDepth 100000 in
theorem t_X4_beat_t_11 {p : Program} {l : Launch} {e : Env} {s : State} {m : MethodId} {args : Array Value} {below : List Frame} {meth : Method} {c : Code} {D : va_G} {cs : Nat → ClassId} {A : Nat → Prop} (hC : MAt p s m args meth c RX4 cX4_beat 6 none wsX4_beat D cs) (q : Nat → Nat) (x2 : Int32) (Q : MS → Prop) (E116 : MS → Prop) (hA : ∀ q : Nat, s.heap.size ≤ q → A q) (hE116 : ∀ (M' : MS) , E116 M' → ∀ (H : Heap) (locs : List Loc), va_P D vwCl (w_Mod cs q M') H → va_D A (w_Mod cs q M') → va_S A s.heap H locs → ∀ ls : Array Slot, lv_has ls 6 [(0, .ref (q 0)), (1, .ref (q 3)), (2, .int x2)] → W p l e ({ frames := 1, cells := 0, slots := 0, locals := 20 } : Room) s m args below meth c H locs 0 0 (MQ below (va_Qv (fun (u : MS) => Q u) (fun (u : MS) t => va_P D vwCl (w_Mod cs q u) t.heap ∧ va_D A (w_Mod cs q u)) A) args s 0 0 A) (F0 m 116 ls [])) : ∀ (n : Nat) (M : MS) (x3 : Int32), wl_X4_beat_t_11 x2 Q E116 n M x3 → ∀ (H : Heap) (locs : List Loc), va_P D vwCl (w_Mod cs q M) H → va_D A (w_Mod cs q M) → va_S A s.heap H locs → ∀ ls : Array Slot, lv_has ls 6 [(0, .ref (q 0)), (1, .ref (q 3)), (2, .int x2), (3, .int x3)] → W p l e ({ frames := 1, cells := 0, slots := 0, locals := 20 } : Room) s m args below meth c H locs 0 0 (MQ below (va_Qv (fun (u : MS) => Q u) (fun (u : MS) t => va_P D vwCl (w_Mod cs q u) t.heap ∧ va_D A (w_Mod cs q u)) A) args s 0 0 A) (F0 m 11 ls []) := by
  obtain ⟨hx, hb, hr, hml, hown, hts, hlocks, hKK⟩ := id hC
  have hK := hKK.1
  intro n
  induction n with
  | zero =>
    intro M x3 hw
    exact False.elim hw
  | succ n ih =>
    intro M x3 hw H locs hP hD hS ls hl
    refine lv_iload_n hx hb dX4_beat_11 rfl (lv_at hl 3 rfl) ?_
    refine lv_aload_n hx hb dX4_beat_12 rfl (lv_at hl 1 rfl) ?_
    refine lv_iload_n hx hb dX4_beat_13 rfl (lv_at hl 2 rfl) ?_
    have hPc := hP.sub (ws' := ([] : va_W)) [] rfl
    have hDc := hD.sub (ws' := ([] : va_W)) [] (by decide) rfl
    refine z_calli (va_runS (As := [.int x2]) (rest := [.ref (q 3), .int x3]) ⟨hx, hb, hml, hown, hts⟩ (c_X4_at l D cs  H.size x2 _ hw) (va_cwS 1 hts gX4_beat_X4_at rfl rfl rfl (by decide +kernel) ⟨Nat.le_of_ble_eq_true rfl, Nat.le_of_ble_eq_true rfl⟩) (PC_S hPc hDc hKK) rfl rfl hl.1 rfl (lv_room (Nat.le_of_ble_eq_true rfl)) dX4_beat_14 ⟨Nat.le_of_ble_eq_true rfl, Nat.le_of_ble_eq_true rfl⟩) (fun r2 hw => ?_)
    refine lv_iconst (v := (0 : Int32)) hx hb dX4_beat_17 (by decide) ?_
    refine lv_iadd hx hb dX4_beat_18 ?_
    obtain ⟨h3, hw⟩ := hw
    refine va_iald hx hb hK hP 3 0 rfl rfl h3 dX4_beat_19 ?_
    refine lv_icmp_ge (tgt := 116) hx hb dX4_beat_20 (by decide) (fun c4 => ?_) (fun c4 => ?_)
    · have hw := hw.1 c4
      exact hE116 _ hw _ _ hP hD hS ls (lv_sub hl [0, 1, 2] rfl)
    · have hw := hw.2 c4
      refine lv_aload_n hx hb dX4_beat_23 rfl (lv_at hl 1 rfl) ?_
      refine lv_iload_n hx hb dX4_beat_24 rfl (lv_at hl 2 rfl) ?_
      have hPc := hP.sub (ws' := ([] : va_W)) [] rfl
      have hDc := hD.sub (ws' := ([] : va_W)) [] (by decide) rfl
      refine z_calli (va_runS (As := [.int x2]) (rest := [.ref (q 3)]) ⟨hx, hb, hml, hown, hts⟩ (c_X4_at l D cs  H.size x2 _ hw) (va_cwS 1 hts gX4_beat_X4_at rfl rfl rfl (by decide +kernel) ⟨Nat.le_of_ble_eq_true rfl, Nat.le_of_ble_eq_true rfl⟩) (PC_S hPc hDc hKK) rfl rfl hl.1 rfl (lv_room (Nat.le_of_ble_eq_true rfl)) dX4_beat_25 ⟨Nat.le_of_ble_eq_true rfl, Nat.le_of_ble_eq_true rfl⟩) (fun r5 hw => ?_)
      refine lv_bipush (v := (13 : Int32)) hx hb dX4_beat_28 (by decide) ?_
      refine lv_iadd hx hb dX4_beat_30 ?_
      refine lv_iload_n hx hb dX4_beat_31 rfl (lv_at hl 3 rfl) ?_
      refine lv_iadd hx hb dX4_beat_32 ?_
      obtain ⟨h6, hw⟩ := hw
      refine va_iald hx hb hK hP 3 0 rfl rfl h6 dX4_beat_33 ?_
      refine lv_topi (fun y7 ey7 => ?_)
      have hw := hw y7 ey7
      refine lv_istore (lv' := [(4, .int y7), (0, .ref (q 0)), (1, .ref (q 3)), (2, .int x2), (3, .int x3)]) hx hb dX4_beat_34 hl (by decide) rfl (fun ls hl => ?_)
      refine lv_iload hx hb dX4_beat_36 (lv_at hl 0 rfl) ?_
      refine lv_aload_n hx hb dX4_beat_38 rfl (lv_at hl 2 rfl) ?_
      refine lv_iconst (v := (1 : Int32)) hx hb dX4_beat_39 (by decide) ?_
      refine va_iald hx hb hK hP 3 0 rfl rfl (show vp_in (1 : Int32) 336 by unfold vp_in; decide) dX4_beat_40 ?_
      refine lv_icmp_le (tgt := 50) hx hb dX4_beat_41 (by decide) (fun c8 => ?_) (fun c8 => ?_)
      · have hw := hw.1 c8
        refine lv_iload hx hb dX4_beat_50 (lv_at hl 0 rfl) ?_
        refine lv_aload_n hx hb dX4_beat_52 rfl (lv_at hl 2 rfl) ?_
        refine lv_iconst (v := (1 : Int32)) hx hb dX4_beat_53 (by decide) ?_
        refine va_iald hx hb hK hP 3 0 rfl rfl (show vp_in (1 : Int32) 336 by unfold vp_in; decide) dX4_beat_54 ?_
        refine lv_ineg hx hb dX4_beat_55 ?_
        refine lv_icmp_ge (tgt := 66) hx hb dX4_beat_56 (by decide) (fun c9 => ?_) (fun c9 => ?_)
        · have hw := hw.1 c9
          refine lv_iload hx hb dX4_beat_66 (lv_at hl 0 rfl) ?_
          refine lv_istore (lv' := [(5, .int y7), (4, .int y7), (0, .ref (q 0)), (1, .ref (q 3)), (2, .int x2), (3, .int x3)]) hx hb dX4_beat_68 hl (by decide) rfl (fun ls hl => ?_)
          refine lv_aload_n hx hb dX4_beat_70 rfl (lv_at hl 2 rfl) ?_
          refine va_get (D := D) (ci := 4) (v := .ref (q 7)) (C := RX4) (T := TX4) (N := 11) hx hb hts (h_X4_X4_beat_t) hown hK hP 0 rfl rfl 9 (by decide) (z_w hts 1 rfl) (fun _ h9 => h9) rfl dX4_beat_71 ?_
          refine lv_bipush (v := (9 : Int32)) hx hb dX4_beat_74 (by decide) ?_
          refine lv_iload_n hx hb dX4_beat_76 rfl (lv_at hl 4 rfl) ?_
          refine lv_imul hx hb dX4_beat_77 ?_
          refine lv_iload_n hx hb dX4_beat_78 rfl (lv_at hl 5 rfl) ?_
          refine lv_iadd hx hb dX4_beat_79 ?_
          refine lv_iload hx hb dX4_beat_80 (lv_at hl 0 rfl) ?_
          obtain ⟨h10, hw⟩ := hw
          refine va_iast hx hb hK hP hD hS 7 0 rfl rfl h10 dX4_beat_82 (fun H locs hP hD hS => ?_)
          have hP : va_P D vwCl (w_Mod cs q (zr2 M 7 (upd (M 7) (((9 : Int32) * x2) + x3).toNatClampNeg y7))) H := hP
          have hD : va_D A (w_Mod cs q (zr2 M 7 (upd (M 7) (((9 : Int32) * x2) + x3).toNatClampNeg y7))) := hD
          refine lv_aload_n hx hb dX4_beat_83 rfl (lv_at hl 2 rfl) ?_
          refine va_get (D := D) (ci := 4) (v := .ref (q 8)) (C := RX4) (T := TX4) (N := 11) hx hb hts (h_X4_X4_beat_t) hown hK hP 0 rfl rfl 10 (by decide) (z_w hts 2 rfl) (fun _ h9 => h9) rfl dX4_beat_84 ?_
          refine lv_bipush (v := (9 : Int32)) hx hb dX4_beat_87 (by decide) ?_
          refine lv_iload_n hx hb dX4_beat_89 rfl (lv_at hl 4 rfl) ?_
          refine lv_imul hx hb dX4_beat_90 ?_
          refine lv_iload_n hx hb dX4_beat_91 rfl (lv_at hl 5 rfl) ?_
          refine lv_iadd hx hb dX4_beat_92 ?_
          refine lv_aload_n hx hb dX4_beat_93 rfl (lv_at hl 3 rfl) ?_
          refine lv_iload_n hx hb dX4_beat_94 rfl (lv_at hl 4 rfl) ?_
          have hPc := hP.sub (ws' := ([] : va_W)) [] rfl
          have hDc := hD.sub (ws' := ([] : va_W)) [] (by decide) rfl
          refine z_calli (va_runS (As := [.int x2]) (rest := [.ref (q 3), .int (((9 : Int32) * x2) + x3), .ref (q 8)]) ⟨hx, hb, hml, hown, hts⟩ (c_X4_at l D cs  H.size x2 _ hw) (va_cwS 1 hts gX4_beat_X4_at rfl rfl rfl (by decide +kernel) ⟨Nat.le_of_ble_eq_true rfl, Nat.le_of_ble_eq_true rfl⟩) (PC_S hPc hDc hKK) rfl rfl hl.1 rfl (lv_room (Nat.le_of_ble_eq_true rfl)) dX4_beat_95 ⟨Nat.le_of_ble_eq_true rfl, Nat.le_of_ble_eq_true rfl⟩) (fun r11 hw => ?_)
          refine lv_iconst (v := (4 : Int32)) hx hb dX4_beat_98 (by decide) ?_
          refine lv_iadd hx hb dX4_beat_99 ?_
          refine lv_iload_n hx hb dX4_beat_100 rfl (lv_at hl 5 rfl) ?_
          refine lv_iadd hx hb dX4_beat_101 ?_
          obtain ⟨h12, hw⟩ := hw
          refine va_iald hx hb hK hP 3 0 rfl rfl h12 dX4_beat_102 ?_
          refine lv_iload hx hb dX4_beat_103 (lv_at hl 0 rfl) ?_
          refine lv_iadd hx hb dX4_beat_105 ?_
          have hPc := hP.sub (ws' := ([] : va_W)) [] rfl
          have hDc := hD.sub (ws' := ([] : va_W)) [] (by decide) rfl
          refine z_calli (va_runS (As := [.int ((M 3 ((r11 + (4 : Int32)) + x3).toNatClampNeg) + y7)]) (rest := [.int (((9 : Int32) * x2) + x3), .ref (q 8)]) ⟨hx, hb, hml, hown, hts⟩ (c_X4_floor l D cs  H.size ((M 3 ((r11 + (4 : Int32)) + x3).toNatClampNeg) + y7) _ hw) (va_cwS 1 hts gX4_beat_X4_floor rfl rfl rfl (by decide +kernel) ⟨Nat.le_of_ble_eq_true rfl, Nat.le_of_ble_eq_true rfl⟩) (PC_S hPc hDc hKK) rfl rfl hl.1 rfl (lv_room (Nat.le_of_ble_eq_true rfl)) dX4_beat_106 ⟨Nat.le_of_ble_eq_true rfl, Nat.le_of_ble_eq_true rfl⟩) (fun r13 hw => ?_)
          obtain ⟨M14, eM14⟩ : ∃ z : MS, z = (zr2 M 7 (upd (M 7) (((9 : Int32) * x2) + x3).toNatClampNeg y7)) := ⟨_, rfl⟩
          have hw := hw M14 eM14
          rw [← eM14] at hP hD
          obtain ⟨h15, hw⟩ := hw
          refine va_iast hx hb hK hP hD hS 8 0 rfl rfl h15 dX4_beat_109 (fun H locs hP hD hS => ?_)
          have hP : va_P D vwCl (w_Mod cs q (zr2 M14 8 (upd (M14 8) (((9 : Int32) * x2) + x3).toNatClampNeg r13))) H := hP
          have hD : va_D A (w_Mod cs q (zr2 M14 8 (upd (M14 8) (((9 : Int32) * x2) + x3).toNatClampNeg r13))) := hD
          refine lv_iinc (v := x3 + 1) (lv' := [(3, .int (x3 + 1)), (5, .int y7), (4, .int y7), (0, .ref (q 0)), (1, .ref (q 3)), (2, .int x2)]) hx hb dX4_beat_110 hl (k := 5) rfl rfl (by decide) rfl (fun ls hl => ?_)
          refine lv_goto (tgt := 11) hx hb dX4_beat_113 (by decide) ?_
          exact ih _ _ hw _ _ hP hD hS ls (lv_sub hl [3, 4, 5, 0] rfl)
        · have hw := hw.2 c9
          refine lv_aload_n hx hb dX4_beat_59 rfl (lv_at hl 2 rfl) ?_
          refine lv_iconst (v := (1 : Int32)) hx hb dX4_beat_60 (by decide) ?_
          refine va_iald hx hb hK hP 3 0 rfl rfl (show vp_in (1 : Int32) 336 by unfold vp_in; decide) dX4_beat_61 ?_
          refine lv_ineg hx hb dX4_beat_62 ?_
          refine lv_goto (tgt := 68) hx hb dX4_beat_63 (by decide) ?_
          refine lv_istore (lv' := [(5, .int (-(M 3 (1 : Int32).toNatClampNeg))), (4, .int y7), (0, .ref (q 0)), (1, .ref (q 3)), (2, .int x2), (3, .int x3)]) hx hb dX4_beat_68 hl (by decide) rfl (fun ls hl => ?_)
          refine lv_aload_n hx hb dX4_beat_70 rfl (lv_at hl 2 rfl) ?_
          refine va_get (D := D) (ci := 4) (v := .ref (q 7)) (C := RX4) (T := TX4) (N := 11) hx hb hts (h_X4_X4_beat_t) hown hK hP 0 rfl rfl 9 (by decide) (z_w hts 1 rfl) (fun _ h9 => h9) rfl dX4_beat_71 ?_
          refine lv_bipush (v := (9 : Int32)) hx hb dX4_beat_74 (by decide) ?_
          refine lv_iload_n hx hb dX4_beat_76 rfl (lv_at hl 4 rfl) ?_
          refine lv_imul hx hb dX4_beat_77 ?_
          refine lv_iload_n hx hb dX4_beat_78 rfl (lv_at hl 5 rfl) ?_
          refine lv_iadd hx hb dX4_beat_79 ?_
          refine lv_iload hx hb dX4_beat_80 (lv_at hl 0 rfl) ?_
          obtain ⟨h16, hw⟩ := hw
          refine va_iast hx hb hK hP hD hS 7 0 rfl rfl h16 dX4_beat_82 (fun H locs hP hD hS => ?_)
          have hP : va_P D vwCl (w_Mod cs q (zr2 M 7 (upd (M 7) (((9 : Int32) * x2) + x3).toNatClampNeg (-(M 3 (1 : Int32).toNatClampNeg))))) H := hP
          have hD : va_D A (w_Mod cs q (zr2 M 7 (upd (M 7) (((9 : Int32) * x2) + x3).toNatClampNeg (-(M 3 (1 : Int32).toNatClampNeg))))) := hD
          refine lv_aload_n hx hb dX4_beat_83 rfl (lv_at hl 2 rfl) ?_
          refine va_get (D := D) (ci := 4) (v := .ref (q 8)) (C := RX4) (T := TX4) (N := 11) hx hb hts (h_X4_X4_beat_t) hown hK hP 0 rfl rfl 10 (by decide) (z_w hts 2 rfl) (fun _ h9 => h9) rfl dX4_beat_84 ?_
          refine lv_bipush (v := (9 : Int32)) hx hb dX4_beat_87 (by decide) ?_
          refine lv_iload_n hx hb dX4_beat_89 rfl (lv_at hl 4 rfl) ?_
          refine lv_imul hx hb dX4_beat_90 ?_
          refine lv_iload_n hx hb dX4_beat_91 rfl (lv_at hl 5 rfl) ?_
          refine lv_iadd hx hb dX4_beat_92 ?_
          refine lv_aload_n hx hb dX4_beat_93 rfl (lv_at hl 3 rfl) ?_
          refine lv_iload_n hx hb dX4_beat_94 rfl (lv_at hl 4 rfl) ?_
          have hPc := hP.sub (ws' := ([] : va_W)) [] rfl
          have hDc := hD.sub (ws' := ([] : va_W)) [] (by decide) rfl
          refine z_calli (va_runS (As := [.int x2]) (rest := [.ref (q 3), .int (((9 : Int32) * x2) + x3), .ref (q 8)]) ⟨hx, hb, hml, hown, hts⟩ (c_X4_at l D cs  H.size x2 _ hw) (va_cwS 1 hts gX4_beat_X4_at rfl rfl rfl (by decide +kernel) ⟨Nat.le_of_ble_eq_true rfl, Nat.le_of_ble_eq_true rfl⟩) (PC_S hPc hDc hKK) rfl rfl hl.1 rfl (lv_room (Nat.le_of_ble_eq_true rfl)) dX4_beat_95 ⟨Nat.le_of_ble_eq_true rfl, Nat.le_of_ble_eq_true rfl⟩) (fun r17 hw => ?_)
          refine lv_iconst (v := (4 : Int32)) hx hb dX4_beat_98 (by decide) ?_
          refine lv_iadd hx hb dX4_beat_99 ?_
          refine lv_iload_n hx hb dX4_beat_100 rfl (lv_at hl 5 rfl) ?_
          refine lv_iadd hx hb dX4_beat_101 ?_
          obtain ⟨h18, hw⟩ := hw
          refine va_iald hx hb hK hP 3 0 rfl rfl h18 dX4_beat_102 ?_
          refine lv_iload hx hb dX4_beat_103 (lv_at hl 0 rfl) ?_
          refine lv_iadd hx hb dX4_beat_105 ?_
          have hPc := hP.sub (ws' := ([] : va_W)) [] rfl
          have hDc := hD.sub (ws' := ([] : va_W)) [] (by decide) rfl
          refine z_calli (va_runS (As := [.int ((M 3 ((r17 + (4 : Int32)) + x3).toNatClampNeg) + (-(M 3 (1 : Int32).toNatClampNeg)))]) (rest := [.int (((9 : Int32) * x2) + x3), .ref (q 8)]) ⟨hx, hb, hml, hown, hts⟩ (c_X4_floor l D cs  H.size ((M 3 ((r17 + (4 : Int32)) + x3).toNatClampNeg) + (-(M 3 (1 : Int32).toNatClampNeg))) _ hw) (va_cwS 1 hts gX4_beat_X4_floor rfl rfl rfl (by decide +kernel) ⟨Nat.le_of_ble_eq_true rfl, Nat.le_of_ble_eq_true rfl⟩) (PC_S hPc hDc hKK) rfl rfl hl.1 rfl (lv_room (Nat.le_of_ble_eq_true rfl)) dX4_beat_106 ⟨Nat.le_of_ble_eq_true rfl, Nat.le_of_ble_eq_true rfl⟩) (fun r19 hw => ?_)
          obtain ⟨M20, eM20⟩ : ∃ z : MS, z = (zr2 M 7 (upd (M 7) (((9 : Int32) * x2) + x3).toNatClampNeg (-(M 3 (1 : Int32).toNatClampNeg)))) := ⟨_, rfl⟩
          have hw := hw M20 eM20
          rw [← eM20] at hP hD
          obtain ⟨h21, hw⟩ := hw
          refine va_iast hx hb hK hP hD hS 8 0 rfl rfl h21 dX4_beat_109 (fun H locs hP hD hS => ?_)
          have hP : va_P D vwCl (w_Mod cs q (zr2 M20 8 (upd (M20 8) (((9 : Int32) * x2) + x3).toNatClampNeg r19))) H := hP
          have hD : va_D A (w_Mod cs q (zr2 M20 8 (upd (M20 8) (((9 : Int32) * x2) + x3).toNatClampNeg r19))) := hD
          refine lv_iinc (v := x3 + 1) (lv' := [(3, .int (x3 + 1)), (5, .int (-(M 3 (1 : Int32).toNatClampNeg))), (4, .int y7), (0, .ref (q 0)), (1, .ref (q 3)), (2, .int x2)]) hx hb dX4_beat_110 hl (k := 5) rfl rfl (by decide) rfl (fun ls hl => ?_)
          refine lv_goto (tgt := 11) hx hb dX4_beat_113 (by decide) ?_
          exact ih _ _ hw _ _ hP hD hS ls (lv_sub hl [3, 4, 5, 0] rfl)
      · have hw := hw.2 c8
        refine lv_aload_n hx hb dX4_beat_44 rfl (lv_at hl 2 rfl) ?_
        refine lv_iconst (v := (1 : Int32)) hx hb dX4_beat_45 (by decide) ?_
        refine va_iald hx hb hK hP 3 0 rfl rfl (show vp_in (1 : Int32) 336 by unfold vp_in; decide) dX4_beat_46 ?_
        refine lv_goto (tgt := 68) hx hb dX4_beat_47 (by decide) ?_
        refine lv_istore (lv' := [(5, .int (M 3 (1 : Int32).toNatClampNeg)), (4, .int y7), (0, .ref (q 0)), (1, .ref (q 3)), (2, .int x2), (3, .int x3)]) hx hb dX4_beat_68 hl (by decide) rfl (fun ls hl => ?_)
        refine lv_aload_n hx hb dX4_beat_70 rfl (lv_at hl 2 rfl) ?_
        refine va_get (D := D) (ci := 4) (v := .ref (q 7)) (C := RX4) (T := TX4) (N := 11) hx hb hts (h_X4_X4_beat_t) hown hK hP 0 rfl rfl 9 (by decide) (z_w hts 1 rfl) (fun _ h9 => h9) rfl dX4_beat_71 ?_
        refine lv_bipush (v := (9 : Int32)) hx hb dX4_beat_74 (by decide) ?_
        refine lv_iload_n hx hb dX4_beat_76 rfl (lv_at hl 4 rfl) ?_
        refine lv_imul hx hb dX4_beat_77 ?_
        refine lv_iload_n hx hb dX4_beat_78 rfl (lv_at hl 5 rfl) ?_
        refine lv_iadd hx hb dX4_beat_79 ?_
        refine lv_iload hx hb dX4_beat_80 (lv_at hl 0 rfl) ?_
        obtain ⟨h22, hw⟩ := hw
        refine va_iast hx hb hK hP hD hS 7 0 rfl rfl h22 dX4_beat_82 (fun H locs hP hD hS => ?_)
        have hP : va_P D vwCl (w_Mod cs q (zr2 M 7 (upd (M 7) (((9 : Int32) * x2) + x3).toNatClampNeg (M 3 (1 : Int32).toNatClampNeg)))) H := hP
        have hD : va_D A (w_Mod cs q (zr2 M 7 (upd (M 7) (((9 : Int32) * x2) + x3).toNatClampNeg (M 3 (1 : Int32).toNatClampNeg)))) := hD
        refine lv_aload_n hx hb dX4_beat_83 rfl (lv_at hl 2 rfl) ?_
        refine va_get (D := D) (ci := 4) (v := .ref (q 8)) (C := RX4) (T := TX4) (N := 11) hx hb hts (h_X4_X4_beat_t) hown hK hP 0 rfl rfl 10 (by decide) (z_w hts 2 rfl) (fun _ h9 => h9) rfl dX4_beat_84 ?_
        refine lv_bipush (v := (9 : Int32)) hx hb dX4_beat_87 (by decide) ?_
        refine lv_iload_n hx hb dX4_beat_89 rfl (lv_at hl 4 rfl) ?_
        refine lv_imul hx hb dX4_beat_90 ?_
        refine lv_iload_n hx hb dX4_beat_91 rfl (lv_at hl 5 rfl) ?_
        refine lv_iadd hx hb dX4_beat_92 ?_
        refine lv_aload_n hx hb dX4_beat_93 rfl (lv_at hl 3 rfl) ?_
        refine lv_iload_n hx hb dX4_beat_94 rfl (lv_at hl 4 rfl) ?_
        have hPc := hP.sub (ws' := ([] : va_W)) [] rfl
        have hDc := hD.sub (ws' := ([] : va_W)) [] (by decide) rfl
        refine z_calli (va_runS (As := [.int x2]) (rest := [.ref (q 3), .int (((9 : Int32) * x2) + x3), .ref (q 8)]) ⟨hx, hb, hml, hown, hts⟩ (c_X4_at l D cs  H.size x2 _ hw) (va_cwS 1 hts gX4_beat_X4_at rfl rfl rfl (by decide +kernel) ⟨Nat.le_of_ble_eq_true rfl, Nat.le_of_ble_eq_true rfl⟩) (PC_S hPc hDc hKK) rfl rfl hl.1 rfl (lv_room (Nat.le_of_ble_eq_true rfl)) dX4_beat_95 ⟨Nat.le_of_ble_eq_true rfl, Nat.le_of_ble_eq_true rfl⟩) (fun r23 hw => ?_)
        refine lv_iconst (v := (4 : Int32)) hx hb dX4_beat_98 (by decide) ?_
        refine lv_iadd hx hb dX4_beat_99 ?_
        refine lv_iload_n hx hb dX4_beat_100 rfl (lv_at hl 5 rfl) ?_
        refine lv_iadd hx hb dX4_beat_101 ?_
        obtain ⟨h24, hw⟩ := hw
        refine va_iald hx hb hK hP 3 0 rfl rfl h24 dX4_beat_102 ?_
        refine lv_iload hx hb dX4_beat_103 (lv_at hl 0 rfl) ?_
        refine lv_iadd hx hb dX4_beat_105 ?_
        have hPc := hP.sub (ws' := ([] : va_W)) [] rfl
        have hDc := hD.sub (ws' := ([] : va_W)) [] (by decide) rfl
        refine z_calli (va_runS (As := [.int ((M 3 ((r23 + (4 : Int32)) + x3).toNatClampNeg) + (M 3 (1 : Int32).toNatClampNeg))]) (rest := [.int (((9 : Int32) * x2) + x3), .ref (q 8)]) ⟨hx, hb, hml, hown, hts⟩ (c_X4_floor l D cs  H.size ((M 3 ((r23 + (4 : Int32)) + x3).toNatClampNeg) + (M 3 (1 : Int32).toNatClampNeg)) _ hw) (va_cwS 1 hts gX4_beat_X4_floor rfl rfl rfl (by decide +kernel) ⟨Nat.le_of_ble_eq_true rfl, Nat.le_of_ble_eq_true rfl⟩) (PC_S hPc hDc hKK) rfl rfl hl.1 rfl (lv_room (Nat.le_of_ble_eq_true rfl)) dX4_beat_106 ⟨Nat.le_of_ble_eq_true rfl, Nat.le_of_ble_eq_true rfl⟩) (fun r25 hw => ?_)
        obtain ⟨M26, eM26⟩ : ∃ z : MS, z = (zr2 M 7 (upd (M 7) (((9 : Int32) * x2) + x3).toNatClampNeg (M 3 (1 : Int32).toNatClampNeg))) := ⟨_, rfl⟩
        have hw := hw M26 eM26
        rw [← eM26] at hP hD
        obtain ⟨h27, hw⟩ := hw
        refine va_iast hx hb hK hP hD hS 8 0 rfl rfl h27 dX4_beat_109 (fun H locs hP hD hS => ?_)
        have hP : va_P D vwCl (w_Mod cs q (zr2 M26 8 (upd (M26 8) (((9 : Int32) * x2) + x3).toNatClampNeg r25))) H := hP
        have hD : va_D A (w_Mod cs q (zr2 M26 8 (upd (M26 8) (((9 : Int32) * x2) + x3).toNatClampNeg r25))) := hD
        refine lv_iinc (v := x3 + 1) (lv' := [(3, .int (x3 + 1)), (5, .int (M 3 (1 : Int32).toNatClampNeg)), (4, .int y7), (0, .ref (q 0)), (1, .ref (q 3)), (2, .int x2)]) hx hb dX4_beat_110 hl (k := 5) rfl rfl (by decide) rfl (fun ls hl => ?_)
        refine lv_goto (tgt := 11) hx hb dX4_beat_113 (by decide) ?_
        exact ih _ _ hw _ _ hP hD hS ls (lv_sub hl [3, 4, 5, 0] rfl)
set_option maxHeartbeats 4000000 in
set_option maxRecDepth 100000 in
theorem t_X4_beat_t_2 {p : Program} {l : Launch} {e : Env} {s : State} {m : MethodId} {args : Array Value} {below : List Frame} {meth : Method} {c : Code} {D : va_G} {cs : Nat → ClassId} {A : Nat → Prop} (hC : MAt p s m args meth c RX4 cX4_beat 6 none wsX4_beat D cs) (q : Nat → Nat) (Q : MS → Prop) (E122 : MS → Prop) (hA : ∀ q : Nat, s.heap.size ≤ q → A q) (hE122 : ∀ (M' : MS) , E122 M' → ∀ (H : Heap) (locs : List Loc), va_P D vwCl (w_Mod cs q M') H → va_D A (w_Mod cs q M') → va_S A s.heap H locs → ∀ ls : Array Slot, lv_has ls 6 [(0, .ref (q 0)), (1, .ref (q 3))] → W p l e ({ frames := 1, cells := 0, slots := 0, locals := 20 } : Room) s m args below meth c H locs 0 0 (MQ below (va_Qv (fun (u : MS) => Q u) (fun (u : MS) t => va_P D vwCl (w_Mod cs q u) t.heap ∧ va_D A (w_Mod cs q u)) A) args s 0 0 A) (F0 m 122 ls [])) : ∀ (n : Nat) (M : MS) (x2 : Int32), wl_X4_beat_t_2 Q E122 n M x2 → ∀ (H : Heap) (locs : List Loc), va_P D vwCl (w_Mod cs q M) H → va_D A (w_Mod cs q M) → va_S A s.heap H locs → ∀ ls : Array Slot, lv_has ls 6 [(0, .ref (q 0)), (1, .ref (q 3)), (2, .int x2)] → W p l e ({ frames := 1, cells := 0, slots := 0, locals := 20 } : Room) s m args below meth c H locs 0 0 (MQ below (va_Qv (fun (u : MS) => Q u) (fun (u : MS) t => va_P D vwCl (w_Mod cs q u) t.heap ∧ va_D A (w_Mod cs q u)) A) args s 0 0 A) (F0 m 2 ls []) := by
  obtain ⟨hx, hb, hr, hml, hown, hts, hlocks, hKK⟩ := id hC
  have hK := hKK.1
  intro n
  induction n with
  | zero =>
    intro M x2 hw
    exact False.elim hw
  | succ n ih =>
    intro M x2 hw H locs hP hD hS ls hl
    refine lv_iload_n hx hb dX4_beat_2 rfl (lv_at hl 2 rfl) ?_
    refine lv_aload_n hx hb dX4_beat_3 rfl (lv_at hl 1 rfl) ?_
    refine lv_iconst (v := (0 : Int32)) hx hb dX4_beat_4 (by decide) ?_
    refine va_iald hx hb hK hP 3 0 rfl rfl (show vp_in (0 : Int32) 336 by unfold vp_in; decide) dX4_beat_5 ?_
    refine lv_icmp_ge (tgt := 122) hx hb dX4_beat_6 (by decide) (fun c1 => ?_) (fun c1 => ?_)
    · have hw := hw.1 c1
      exact hE122 _ hw _ _ hP hD hS ls (lv_sub hl [0, 1] rfl)
    · have hw := hw.2 c1
      refine lv_iconst (v := (0 : Int32)) hx hb dX4_beat_9 (by decide) ?_
      refine lv_istore_n (lv' := [(3, .int (0 : Int32)), (0, .ref (q 0)), (1, .ref (q 3)), (2, .int x2)]) hx hb dX4_beat_10 rfl hl (by decide) rfl (fun ls hl => ?_)
      obtain ⟨n29, hw⟩ := hw
      refine t_X4_beat_t_11 hC q _ _ _ hA ?_ n29 _ _ hw H locs hP hD hS ls (lv_sub hl [1, 2, 3, 0] rfl)
      · intro v28 hw H locs hP hD hS ls hl
        refine lv_iinc (v := x2 + 1) (lv' := [(2, .int (x2 + 1)), (0, .ref (q 0)), (1, .ref (q 3))]) hx hb dX4_beat_116 hl (k := 2) rfl rfl (by decide) rfl (fun ls hl => ?_)
        refine lv_goto (tgt := 2) hx hb dX4_beat_119 (by decide) ?_
        exact ih _ _ hw _ _ hP hD hS ls (lv_sub hl [1, 2, 0] rfl)
set_option maxHeartbeats 4000000 in
set_option maxRecDepth 100000 in
theorem t_X4_beat_t_143 {p : Program} {l : Launch} {e : Env} {s : State} {m : MethodId} {args : Array Value} {below : List Frame} {meth : Method} {c : Code} {D : va_G} {cs : Nat → ClassId} {A : Nat → Prop} (hC : MAt p s m args meth c RX4 cX4_beat 6 none wsX4_beat D cs) (q : Nat → Nat) (x2 : Int32) (x3 : Int32) (Q : MS → Prop) (E301 : MS → Prop) (hA : ∀ q : Nat, s.heap.size ≤ q → A q) (hE301 : ∀ (M' : MS) , E301 M' → ∀ (H : Heap) (locs : List Loc), va_P D vwCl (w_Mod cs q M') H → va_D A (w_Mod cs q M') → va_S A s.heap H locs → ∀ ls : Array Slot, lv_has ls 6 [(0, .ref (q 0)), (1, .ref (q 3)), (2, .int x2)] → W p l e ({ frames := 1, cells := 0, slots := 0, locals := 20 } : Room) s m args below meth c H locs 0 0 (MQ below (va_Qv (fun (u : MS) => Q u) (fun (u : MS) t => va_P D vwCl (w_Mod cs q u) t.heap ∧ va_D A (w_Mod cs q u)) A) args s 0 0 A) (F0 m 301 ls [])) : ∀ (n : Nat) (M : MS) (x4 : Int32), wl_X4_beat_t_143 x2 x3 Q E301 n M x4 → ∀ (H : Heap) (locs : List Loc), va_P D vwCl (w_Mod cs q M) H → va_D A (w_Mod cs q M) → va_S A s.heap H locs → ∀ ls : Array Slot, lv_has ls 6 [(0, .ref (q 0)), (1, .ref (q 3)), (2, .int x2), (3, .int x3), (4, .int x4)] → W p l e ({ frames := 1, cells := 0, slots := 0, locals := 20 } : Room) s m args below meth c H locs 0 0 (MQ below (va_Qv (fun (u : MS) => Q u) (fun (u : MS) t => va_P D vwCl (w_Mod cs q u) t.heap ∧ va_D A (w_Mod cs q u)) A) args s 0 0 A) (F0 m 143 ls []) := by
  obtain ⟨hx, hb, hr, hml, hown, hts, hlocks, hKK⟩ := id hC
  have hK := hKK.1
  intro n
  induction n with
  | zero =>
    intro M x4 hw
    exact False.elim hw
  | succ n ih =>
    intro M x4 hw H locs hP hD hS ls hl
    refine lv_iload hx hb dX4_beat_143 (lv_at hl 4 rfl) ?_
    refine lv_iload_n hx hb dX4_beat_145 rfl (lv_at hl 3 rfl) ?_
    refine lv_icmp_ge (tgt := 301) hx hb dX4_beat_146 (by decide) (fun c34 => ?_) (fun c34 => ?_)
    · have hw := hw.1 c34
      exact hE301 _ hw _ _ hP hD hS ls (lv_sub hl [0, 1, 2] rfl)
    · have hw := hw.2 c34
      refine lv_aload_n hx hb dX4_beat_149 rfl (lv_at hl 0 rfl) ?_
      refine va_get (D := D) (ci := 4) (v := .ref (q 8)) (C := RX4) (T := TX4) (N := 11) hx hb hts (h_X4_X4_beat_t) hown hK hP 0 rfl rfl 10 (by decide) (z_w hts 2 rfl) (fun _ h9 => h9) rfl dX4_beat_150 ?_
      refine lv_bipush (v := (9 : Int32)) hx hb dX4_beat_153 (by decide) ?_
      refine lv_iload_n hx hb dX4_beat_155 rfl (lv_at hl 2 rfl) ?_
      refine lv_imul hx hb dX4_beat_156 ?_
      refine lv_iload hx hb dX4_beat_157 (lv_at hl 4 rfl) ?_
      refine lv_iadd hx hb dX4_beat_159 ?_
      obtain ⟨h35, hw⟩ := hw
      refine va_iald hx hb hK hP 8 0 rfl rfl h35 dX4_beat_160 ?_
      refine lv_topi (fun y36 ey36 => ?_)
      have hw := hw y36 ey36
      refine lv_istore (lv' := [(5, .int y36), (0, .ref (q 0)), (1, .ref (q 3)), (2, .int x2), (3, .int x3), (4, .int x4)]) hx hb dX4_beat_161 hl (by decide) rfl (fun ls hl => ?_)
      refine lv_aload_n hx hb dX4_beat_163 rfl (lv_at hl 2 rfl) ?_
      refine lv_iload_n hx hb dX4_beat_164 rfl (lv_at hl 3 rfl) ?_
      have hPc := hP.sub (ws' := ([] : va_W)) [] rfl
      have hDc := hD.sub (ws' := ([] : va_W)) [] (by decide) rfl
      refine z_calli (va_runS (As := [.int x2]) (rest := [.ref (q 3)]) ⟨hx, hb, hml, hown, hts⟩ (c_X4_at l D cs  H.size x2 _ hw) (va_cwS 1 hts gX4_beat_X4_at rfl rfl rfl (by decide +kernel) ⟨Nat.le_of_ble_eq_true rfl, Nat.le_of_ble_eq_true rfl⟩) (PC_S hPc hDc hKK) rfl rfl hl.1 rfl (lv_room (Nat.le_of_ble_eq_true rfl)) dX4_beat_165 ⟨Nat.le_of_ble_eq_true rfl, Nat.le_of_ble_eq_true rfl⟩) (fun r37 hw => ?_)
      refine lv_bipush (v := (13 : Int32)) hx hb dX4_beat_168 (by decide) ?_
      refine lv_iadd hx hb dX4_beat_170 ?_
      refine lv_iload hx hb dX4_beat_171 (lv_at hl 5 rfl) ?_
      refine lv_iadd hx hb dX4_beat_173 ?_
      refine lv_dup2_11 hx hb dX4_beat_174 rfl rfl ?_
      obtain ⟨h38, hw⟩ := hw
      refine va_iald hx hb hK hP 3 0 rfl rfl h38 dX4_beat_175 ?_
      refine lv_aload_n hx hb dX4_beat_176 rfl (lv_at hl 1 rfl) ?_
      refine va_get (D := D) (ci := 4) (v := .ref (q 7)) (C := RX4) (T := TX4) (N := 11) hx hb hts (h_X4_X4_beat_t) hown hK hP 0 rfl rfl 9 (by decide) (z_w hts 1 rfl) (fun _ h9 => h9) rfl dX4_beat_177 ?_
      refine lv_bipush (v := (9 : Int32)) hx hb dX4_beat_180 (by decide) ?_
      refine lv_iload_n hx hb dX4_beat_182 rfl (lv_at hl 3 rfl) ?_
      refine lv_imul hx hb dX4_beat_183 ?_
      refine lv_iload hx hb dX4_beat_184 (lv_at hl 5 rfl) ?_
      refine lv_iadd hx hb dX4_beat_186 ?_
      obtain ⟨h39, hw⟩ := hw
      refine va_iald hx hb hK hP 7 0 rfl rfl h39 dX4_beat_187 ?_
      refine lv_isub hx hb dX4_beat_188 ?_
      obtain ⟨h40, hw⟩ := hw
      refine va_iast hx hb hK hP hD hS 3 0 rfl rfl h40 dX4_beat_189 (fun H locs hP hD hS => ?_)
      have hP : va_P D vwCl (w_Mod cs q (zr2 M 3 (upd (M 3) ((r37 + (13 : Int32)) + x4).toNatClampNeg ((M 3 ((r37 + (13 : Int32)) + x4).toNatClampNeg) - (M 7 (((9 : Int32) * x2) + x4).toNatClampNeg))))) H := hP
      have hD : va_D A (w_Mod cs q (zr2 M 3 (upd (M 3) ((r37 + (13 : Int32)) + x4).toNatClampNeg ((M 3 ((r37 + (13 : Int32)) + x4).toNatClampNeg) - (M 7 (((9 : Int32) * x2) + x4).toNatClampNeg))))) := hD
      refine lv_aload_n hx hb dX4_beat_190 rfl (lv_at hl 2 rfl) ?_
      refine lv_iload_n hx hb dX4_beat_191 rfl (lv_at hl 3 rfl) ?_
      have hPc := hP.sub (ws' := ([] : va_W)) [] rfl
      have hDc := hD.sub (ws' := ([] : va_W)) [] (by decide) rfl
      refine z_calli (va_runS (As := [.int x2]) (rest := [.ref (q 3)]) ⟨hx, hb, hml, hown, hts⟩ (c_X4_at l D cs  H.size x2 _ hw) (va_cwS 1 hts gX4_beat_X4_at rfl rfl rfl (by decide +kernel) ⟨Nat.le_of_ble_eq_true rfl, Nat.le_of_ble_eq_true rfl⟩) (PC_S hPc hDc hKK) rfl rfl hl.1 rfl (lv_room (Nat.le_of_ble_eq_true rfl)) dX4_beat_192 ⟨Nat.le_of_ble_eq_true rfl, Nat.le_of_ble_eq_true rfl⟩) (fun r41 hw => ?_)
      refine lv_iconst (v := (4 : Int32)) hx hb dX4_beat_195 (by decide) ?_
      refine lv_iadd hx hb dX4_beat_196 ?_
      refine lv_iload hx hb dX4_beat_197 (lv_at hl 5 rfl) ?_
      refine lv_iadd hx hb dX4_beat_199 ?_
      refine lv_dup2_11 hx hb dX4_beat_200 rfl rfl ?_
      obtain ⟨h42, hw⟩ := hw
      refine va_iald hx hb hK hP 3 0 rfl rfl h42 dX4_beat_201 ?_
      refine lv_aload_n hx hb dX4_beat_202 rfl (lv_at hl 1 rfl) ?_
      refine va_get (D := D) (ci := 4) (v := .ref (q 7)) (C := RX4) (T := TX4) (N := 11) hx hb hts (h_X4_X4_beat_t) hown hK hP 0 rfl rfl 9 (by decide) (z_w hts 1 rfl) (fun _ h9 => h9) rfl dX4_beat_203 ?_
      refine lv_bipush (v := (9 : Int32)) hx hb dX4_beat_206 (by decide) ?_
      refine lv_iload_n hx hb dX4_beat_208 rfl (lv_at hl 3 rfl) ?_
      refine lv_imul hx hb dX4_beat_209 ?_
      refine lv_iload hx hb dX4_beat_210 (lv_at hl 5 rfl) ?_
      refine lv_iadd hx hb dX4_beat_212 ?_
      obtain ⟨h43, hw⟩ := hw
      refine va_iald hx hb hK hP 7 0 rfl rfl h43 dX4_beat_213 ?_
      refine lv_iconst (v := (3 : Int32)) hx hb dX4_beat_214 (by decide) ?_
      refine lv_iload hx hb dX4_beat_215 (lv_at hl 0 rfl) ?_
      refine lv_imul hx hb dX4_beat_217 ?_
      refine lv_isub hx hb dX4_beat_218 ?_
      refine lv_iadd hx hb dX4_beat_219 ?_
      obtain ⟨M44, eM44⟩ : ∃ z : MS, z = (zr2 M 3 (upd (M 3) ((r37 + (13 : Int32)) + x4).toNatClampNeg ((M 3 ((r37 + (13 : Int32)) + x4).toNatClampNeg) - (M 7 (((9 : Int32) * x2) + x4).toNatClampNeg)))) := ⟨_, rfl⟩
      have hw := hw M44 eM44
      rw [← eM44] at hP hD
      obtain ⟨h45, hw⟩ := hw
      refine va_iast hx hb hK hP hD hS 3 0 rfl rfl h45 dX4_beat_220 (fun H locs hP hD hS => ?_)
      have hP : va_P D vwCl (w_Mod cs q (zr2 M44 3 (upd (M44 3) ((r41 + (4 : Int32)) + x4).toNatClampNeg ((upd (M 3) ((r37 + (13 : Int32)) + x4).toNatClampNeg ((M 3 ((r37 + (13 : Int32)) + x4).toNatClampNeg) - (M 7 (((9 : Int32) * x2) + x4).toNatClampNeg)) ((r41 + (4 : Int32)) + x4).toNatClampNeg) + ((M 7 (((9 : Int32) * x2) + x4).toNatClampNeg) - ((3 : Int32) * y36)))))) H := hP
      have hD : va_D A (w_Mod cs q (zr2 M44 3 (upd (M44 3) ((r41 + (4 : Int32)) + x4).toNatClampNeg ((upd (M 3) ((r37 + (13 : Int32)) + x4).toNatClampNeg ((M 3 ((r37 + (13 : Int32)) + x4).toNatClampNeg) - (M 7 (((9 : Int32) * x2) + x4).toNatClampNeg)) ((r41 + (4 : Int32)) + x4).toNatClampNeg) + ((M 7 (((9 : Int32) * x2) + x4).toNatClampNeg) - ((3 : Int32) * y36)))))) := hD
      refine lv_iload hx hb dX4_beat_221 (lv_at hl 5 rfl) ?_
      refine lv_iload_n hx hb dX4_beat_223 rfl (lv_at hl 4 rfl) ?_
      refine lv_iconst (v := (1 : Int32)) hx hb dX4_beat_224 (by decide) ?_
      refine lv_isub hx hb dX4_beat_225 ?_
      refine lv_icmp_ge (tgt := 251) hx hb dX4_beat_226 (by decide) (fun c46 => ?_) (fun c46 => ?_)
      · have hw := hw.1 c46
        refine lv_aload_n hx hb dX4_beat_251 rfl (lv_at hl 2 rfl) ?_
        refine lv_iload_n hx hb dX4_beat_252 rfl (lv_at hl 3 rfl) ?_
        have hPc := hP.sub (ws' := ([] : va_W)) [] rfl
        have hDc := hD.sub (ws' := ([] : va_W)) [] (by decide) rfl
        refine z_calli (va_runS (As := [.int x2]) (rest := [.ref (q 3)]) ⟨hx, hb, hml, hown, hts⟩ (c_X4_at l D cs  H.size x2 _ hw) (va_cwS 1 hts gX4_beat_X4_at rfl rfl rfl (by decide +kernel) ⟨Nat.le_of_ble_eq_true rfl, Nat.le_of_ble_eq_true rfl⟩) (PC_S hPc hDc hKK) rfl rfl hl.1 rfl (lv_room (Nat.le_of_ble_eq_true rfl)) dX4_beat_253 ⟨Nat.le_of_ble_eq_true rfl, Nat.le_of_ble_eq_true rfl⟩) (fun r47 hw => ?_)
        refine lv_iconst (v := (1 : Int32)) hx hb dX4_beat_256 (by decide) ?_
        refine lv_iadd hx hb dX4_beat_257 ?_
        obtain ⟨h48, hw⟩ := hw
        refine va_iald hx hb hK hP 3 0 rfl rfl h48 dX4_beat_258 ?_
        refine lv_iconst (v := (1 : Int32)) hx hb dX4_beat_259 (by decide) ?_
        refine lv_icmp_ne (tgt := 282) hx hb dX4_beat_260 (by decide) (fun c49 => ?_) (fun c49 => ?_)
        · have hw := hw.2 c49
          refine lv_aload_n hx hb dX4_beat_282 rfl (lv_at hl 2 rfl) ?_
          refine lv_iload_n hx hb dX4_beat_283 rfl (lv_at hl 3 rfl) ?_
          have hPc := hP.sub (ws' := ([] : va_W)) [] rfl
          have hDc := hD.sub (ws' := ([] : va_W)) [] (by decide) rfl
          refine z_calli (va_runS (As := [.int x2]) (rest := [.ref (q 3)]) ⟨hx, hb, hml, hown, hts⟩ (c_X4_at l D cs  H.size x2 _ hw) (va_cwS 1 hts gX4_beat_X4_at rfl rfl rfl (by decide +kernel) ⟨Nat.le_of_ble_eq_true rfl, Nat.le_of_ble_eq_true rfl⟩) (PC_S hPc hDc hKK) rfl rfl hl.1 rfl (lv_room (Nat.le_of_ble_eq_true rfl)) dX4_beat_284 ⟨Nat.le_of_ble_eq_true rfl, Nat.le_of_ble_eq_true rfl⟩) (fun r50 hw => ?_)
          refine lv_iconst (v := (2 : Int32)) hx hb dX4_beat_287 (by decide) ?_
          refine lv_iadd hx hb dX4_beat_288 ?_
          refine lv_dup2_11 hx hb dX4_beat_289 rfl rfl ?_
          obtain ⟨h51, hw⟩ := hw
          refine va_iald hx hb hK hP 3 0 rfl rfl h51 dX4_beat_290 ?_
          refine lv_iload hx hb dX4_beat_291 (lv_at hl 0 rfl) ?_
          refine lv_iadd hx hb dX4_beat_293 ?_
          obtain ⟨M52, eM52⟩ : ∃ z : MS, z = (zr2 M44 3 (upd (M44 3) ((r41 + (4 : Int32)) + x4).toNatClampNeg ((upd (M 3) ((r37 + (13 : Int32)) + x4).toNatClampNeg ((M 3 ((r37 + (13 : Int32)) + x4).toNatClampNeg) - (M 7 (((9 : Int32) * x2) + x4).toNatClampNeg)) ((r41 + (4 : Int32)) + x4).toNatClampNeg) + ((M 7 (((9 : Int32) * x2) + x4).toNatClampNeg) - ((3 : Int32) * y36))))) := ⟨_, rfl⟩
          have hw := hw M52 eM52
          rw [← eM52] at hP hD
          obtain ⟨h53, hw⟩ := hw
          refine va_iast hx hb hK hP hD hS 3 0 rfl rfl h53 dX4_beat_294 (fun H locs hP hD hS => ?_)
          have hP : va_P D vwCl (w_Mod cs q (zr2 M52 3 (upd (M52 3) (r50 + (2 : Int32)).toNatClampNeg ((upd (M44 3) ((r41 + (4 : Int32)) + x4).toNatClampNeg ((upd (M 3) ((r37 + (13 : Int32)) + x4).toNatClampNeg ((M 3 ((r37 + (13 : Int32)) + x4).toNatClampNeg) - (M 7 (((9 : Int32) * x2) + x4).toNatClampNeg)) ((r41 + (4 : Int32)) + x4).toNatClampNeg) + ((M 7 (((9 : Int32) * x2) + x4).toNatClampNeg) - ((3 : Int32) * y36))) (r50 + (2 : Int32)).toNatClampNeg) + y36)))) H := hP
          have hD : va_D A (w_Mod cs q (zr2 M52 3 (upd (M52 3) (r50 + (2 : Int32)).toNatClampNeg ((upd (M44 3) ((r41 + (4 : Int32)) + x4).toNatClampNeg ((upd (M 3) ((r37 + (13 : Int32)) + x4).toNatClampNeg ((M 3 ((r37 + (13 : Int32)) + x4).toNatClampNeg) - (M 7 (((9 : Int32) * x2) + x4).toNatClampNeg)) ((r41 + (4 : Int32)) + x4).toNatClampNeg) + ((M 7 (((9 : Int32) * x2) + x4).toNatClampNeg) - ((3 : Int32) * y36))) (r50 + (2 : Int32)).toNatClampNeg) + y36)))) := hD
          refine lv_iinc (v := x4 + 1) (lv' := [(4, .int (x4 + 1)), (5, .int y36), (0, .ref (q 0)), (1, .ref (q 3)), (2, .int x2), (3, .int x3)]) hx hb dX4_beat_295 hl (k := 5) rfl rfl (by decide) rfl (fun ls hl => ?_)
          refine lv_goto (tgt := 143) hx hb dX4_beat_298 (by decide) ?_
          exact ih _ _ hw _ _ hP hD hS ls (lv_sub hl [2, 3, 4, 5, 0] rfl)
        · have hw := hw.1 c49
          refine lv_aload_n hx hb dX4_beat_263 rfl (lv_at hl 2 rfl) ?_
          refine lv_iload_n hx hb dX4_beat_264 rfl (lv_at hl 3 rfl) ?_
          refine lv_iconst (v := (1 : Int32)) hx hb dX4_beat_265 (by decide) ?_
          refine lv_iadd hx hb dX4_beat_266 ?_
          have hPc := hP.sub (ws' := ([] : va_W)) [] rfl
          have hDc := hD.sub (ws' := ([] : va_W)) [] (by decide) rfl
          refine z_calli (va_runS (As := [.int (x2 + (1 : Int32))]) (rest := [.ref (q 3)]) ⟨hx, hb, hml, hown, hts⟩ (c_X4_at l D cs  H.size (x2 + (1 : Int32)) _ hw) (va_cwS 1 hts gX4_beat_X4_at rfl rfl rfl (by decide +kernel) ⟨Nat.le_of_ble_eq_true rfl, Nat.le_of_ble_eq_true rfl⟩) (PC_S hPc hDc hKK) rfl rfl hl.1 rfl (lv_room (Nat.le_of_ble_eq_true rfl)) dX4_beat_267 ⟨Nat.le_of_ble_eq_true rfl, Nat.le_of_ble_eq_true rfl⟩) (fun r54 hw => ?_)
          refine lv_bipush (v := (13 : Int32)) hx hb dX4_beat_270 (by decide) ?_
          refine lv_iadd hx hb dX4_beat_272 ?_
          refine lv_dup2_11 hx hb dX4_beat_273 rfl rfl ?_
          obtain ⟨h55, hw⟩ := hw
          refine va_iald hx hb hK hP 3 0 rfl rfl h55 dX4_beat_274 ?_
          refine lv_iload hx hb dX4_beat_275 (lv_at hl 0 rfl) ?_
          refine lv_iadd hx hb dX4_beat_277 ?_
          obtain ⟨M56, eM56⟩ : ∃ z : MS, z = (zr2 M44 3 (upd (M44 3) ((r41 + (4 : Int32)) + x4).toNatClampNeg ((upd (M 3) ((r37 + (13 : Int32)) + x4).toNatClampNeg ((M 3 ((r37 + (13 : Int32)) + x4).toNatClampNeg) - (M 7 (((9 : Int32) * x2) + x4).toNatClampNeg)) ((r41 + (4 : Int32)) + x4).toNatClampNeg) + ((M 7 (((9 : Int32) * x2) + x4).toNatClampNeg) - ((3 : Int32) * y36))))) := ⟨_, rfl⟩
          have hw := hw M56 eM56
          rw [← eM56] at hP hD
          obtain ⟨h57, hw⟩ := hw
          refine va_iast hx hb hK hP hD hS 3 0 rfl rfl h57 dX4_beat_278 (fun H locs hP hD hS => ?_)
          have hP : va_P D vwCl (w_Mod cs q (zr2 M56 3 (upd (M56 3) (r54 + (13 : Int32)).toNatClampNeg ((upd (M44 3) ((r41 + (4 : Int32)) + x4).toNatClampNeg ((upd (M 3) ((r37 + (13 : Int32)) + x4).toNatClampNeg ((M 3 ((r37 + (13 : Int32)) + x4).toNatClampNeg) - (M 7 (((9 : Int32) * x2) + x4).toNatClampNeg)) ((r41 + (4 : Int32)) + x4).toNatClampNeg) + ((M 7 (((9 : Int32) * x2) + x4).toNatClampNeg) - ((3 : Int32) * y36))) (r54 + (13 : Int32)).toNatClampNeg) + y36)))) H := hP
          have hD : va_D A (w_Mod cs q (zr2 M56 3 (upd (M56 3) (r54 + (13 : Int32)).toNatClampNeg ((upd (M44 3) ((r41 + (4 : Int32)) + x4).toNatClampNeg ((upd (M 3) ((r37 + (13 : Int32)) + x4).toNatClampNeg ((M 3 ((r37 + (13 : Int32)) + x4).toNatClampNeg) - (M 7 (((9 : Int32) * x2) + x4).toNatClampNeg)) ((r41 + (4 : Int32)) + x4).toNatClampNeg) + ((M 7 (((9 : Int32) * x2) + x4).toNatClampNeg) - ((3 : Int32) * y36))) (r54 + (13 : Int32)).toNatClampNeg) + y36)))) := hD
          refine lv_goto (tgt := 295) hx hb dX4_beat_279 (by decide) ?_
          refine lv_iinc (v := x4 + 1) (lv' := [(4, .int (x4 + 1)), (5, .int y36), (0, .ref (q 0)), (1, .ref (q 3)), (2, .int x2), (3, .int x3)]) hx hb dX4_beat_295 hl (k := 5) rfl rfl (by decide) rfl (fun ls hl => ?_)
          refine lv_goto (tgt := 143) hx hb dX4_beat_298 (by decide) ?_
          exact ih _ _ hw _ _ hP hD hS ls (lv_sub hl [2, 3, 4, 5, 0] rfl)
      · have hw := hw.2 c46
        refine lv_aload_n hx hb dX4_beat_229 rfl (lv_at hl 2 rfl) ?_
        refine lv_iload_n hx hb dX4_beat_230 rfl (lv_at hl 3 rfl) ?_
        have hPc := hP.sub (ws' := ([] : va_W)) [] rfl
        have hDc := hD.sub (ws' := ([] : va_W)) [] (by decide) rfl
        refine z_calli (va_runS (As := [.int x2]) (rest := [.ref (q 3)]) ⟨hx, hb, hml, hown, hts⟩ (c_X4_at l D cs  H.size x2 _ hw) (va_cwS 1 hts gX4_beat_X4_at rfl rfl rfl (by decide +kernel) ⟨Nat.le_of_ble_eq_true rfl, Nat.le_of_ble_eq_true rfl⟩) (PC_S hPc hDc hKK) rfl rfl hl.1 rfl (lv_room (Nat.le_of_ble_eq_true rfl)) dX4_beat_231 ⟨Nat.le_of_ble_eq_true rfl, Nat.le_of_ble_eq_true rfl⟩) (fun r58 hw => ?_)
        refine lv_bipush (v := (13 : Int32)) hx hb dX4_beat_234 (by decide) ?_
        refine lv_iadd hx hb dX4_beat_236 ?_
        refine lv_iload hx hb dX4_beat_237 (lv_at hl 5 rfl) ?_
        refine lv_iadd hx hb dX4_beat_239 ?_
        refine lv_iconst (v := (1 : Int32)) hx hb dX4_beat_240 (by decide) ?_
        refine lv_iadd hx hb dX4_beat_241 ?_
        refine lv_dup2_11 hx hb dX4_beat_242 rfl rfl ?_
        obtain ⟨h59, hw⟩ := hw
        refine va_iald hx hb hK hP 3 0 rfl rfl h59 dX4_beat_243 ?_
        refine lv_iload hx hb dX4_beat_244 (lv_at hl 0 rfl) ?_
        refine lv_iadd hx hb dX4_beat_246 ?_
        obtain ⟨M60, eM60⟩ : ∃ z : MS, z = (zr2 M44 3 (upd (M44 3) ((r41 + (4 : Int32)) + x4).toNatClampNeg ((upd (M 3) ((r37 + (13 : Int32)) + x4).toNatClampNeg ((M 3 ((r37 + (13 : Int32)) + x4).toNatClampNeg) - (M 7 (((9 : Int32) * x2) + x4).toNatClampNeg)) ((r41 + (4 : Int32)) + x4).toNatClampNeg) + ((M 7 (((9 : Int32) * x2) + x4).toNatClampNeg) - ((3 : Int32) * y36))))) := ⟨_, rfl⟩
        have hw := hw M60 eM60
        rw [← eM60] at hP hD
        obtain ⟨h61, hw⟩ := hw
        refine va_iast hx hb hK hP hD hS 3 0 rfl rfl h61 dX4_beat_247 (fun H locs hP hD hS => ?_)
        have hP : va_P D vwCl (w_Mod cs q (zr2 M60 3 (upd (M60 3) (((r58 + (13 : Int32)) + x4) + (1 : Int32)).toNatClampNeg ((upd (M44 3) ((r41 + (4 : Int32)) + x4).toNatClampNeg ((upd (M 3) ((r37 + (13 : Int32)) + x4).toNatClampNeg ((M 3 ((r37 + (13 : Int32)) + x4).toNatClampNeg) - (M 7 (((9 : Int32) * x2) + x4).toNatClampNeg)) ((r41 + (4 : Int32)) + x4).toNatClampNeg) + ((M 7 (((9 : Int32) * x2) + x4).toNatClampNeg) - ((3 : Int32) * y36))) (((r58 + (13 : Int32)) + x4) + (1 : Int32)).toNatClampNeg) + y36)))) H := hP
        have hD : va_D A (w_Mod cs q (zr2 M60 3 (upd (M60 3) (((r58 + (13 : Int32)) + x4) + (1 : Int32)).toNatClampNeg ((upd (M44 3) ((r41 + (4 : Int32)) + x4).toNatClampNeg ((upd (M 3) ((r37 + (13 : Int32)) + x4).toNatClampNeg ((M 3 ((r37 + (13 : Int32)) + x4).toNatClampNeg) - (M 7 (((9 : Int32) * x2) + x4).toNatClampNeg)) ((r41 + (4 : Int32)) + x4).toNatClampNeg) + ((M 7 (((9 : Int32) * x2) + x4).toNatClampNeg) - ((3 : Int32) * y36))) (((r58 + (13 : Int32)) + x4) + (1 : Int32)).toNatClampNeg) + y36)))) := hD
        refine lv_goto (tgt := 295) hx hb dX4_beat_248 (by decide) ?_
        refine lv_iinc (v := x4 + 1) (lv' := [(4, .int (x4 + 1)), (5, .int y36), (0, .ref (q 0)), (1, .ref (q 3)), (2, .int x2), (3, .int x3)]) hx hb dX4_beat_295 hl (k := 5) rfl rfl (by decide) rfl (fun ls hl => ?_)
        refine lv_goto (tgt := 143) hx hb dX4_beat_298 (by decide) ?_
        exact ih _ _ hw _ _ hP hD hS ls (lv_sub hl [2, 3, 4, 5, 0] rfl)
set_option maxHeartbeats 4000000 in
set_option maxRecDepth 100000 in
theorem t_X4_beat_t_124 {p : Program} {l : Launch} {e : Env} {s : State} {m : MethodId} {args : Array Value} {below : List Frame} {meth : Method} {c : Code} {D : va_G} {cs : Nat → ClassId} {A : Nat → Prop} (hC : MAt p s m args meth c RX4 cX4_beat 6 none wsX4_beat D cs) (q : Nat → Nat) (Q : MS → Prop) (hA : ∀ q : Nat, s.heap.size ≤ q → A q) : ∀ (n : Nat) (M : MS) (x2 : Int32), wl_X4_beat_t_124 Q n M x2 → ∀ (H : Heap) (locs : List Loc), va_P D vwCl (w_Mod cs q M) H → va_D A (w_Mod cs q M) → va_S A s.heap H locs → ∀ ls : Array Slot, lv_has ls 6 [(0, .ref (q 0)), (1, .ref (q 3)), (2, .int x2)] → W p l e ({ frames := 1, cells := 0, slots := 0, locals := 20 } : Room) s m args below meth c H locs 0 0 (MQ below (va_Qv (fun (u : MS) => Q u) (fun (u : MS) t => va_P D vwCl (w_Mod cs q u) t.heap ∧ va_D A (w_Mod cs q u)) A) args s 0 0 A) (F0 m 124 ls []) := by
  obtain ⟨hx, hb, hr, hml, hown, hts, hlocks, hKK⟩ := id hC
  have hK := hKK.1
  intro n
  induction n with
  | zero =>
    intro M x2 hw
    exact False.elim hw
  | succ n ih =>
    intro M x2 hw H locs hP hD hS ls hl
    refine lv_iload_n hx hb dX4_beat_124 rfl (lv_at hl 2 rfl) ?_
    refine lv_aload_n hx hb dX4_beat_125 rfl (lv_at hl 1 rfl) ?_
    refine lv_iconst (v := (0 : Int32)) hx hb dX4_beat_126 (by decide) ?_
    refine va_iald hx hb hK hP 3 0 rfl rfl (show vp_in (0 : Int32) 336 by unfold vp_in; decide) dX4_beat_127 ?_
    refine lv_icmp_ge (tgt := 307) hx hb dX4_beat_128 (by decide) (fun c31 => ?_) (fun c31 => ?_)
    · have hw := hw.1 c31
      refine lv_aload_n hx hb dX4_beat_307 rfl (lv_at hl 1 rfl) ?_
      refine lv_iconst (v := (2 : Int32)) hx hb dX4_beat_308 (by decide) ?_
      refine lv_dup2_11 hx hb dX4_beat_309 rfl rfl ?_
      refine va_iald hx hb hK hP 3 0 rfl rfl (show vp_in (2 : Int32) 336 by unfold vp_in; decide) dX4_beat_310 ?_
      refine lv_iconst (v := (1 : Int32)) hx hb dX4_beat_311 (by decide) ?_
      refine lv_iadd hx hb dX4_beat_312 ?_
      refine va_iast hx hb hK hP hD hS 3 0 rfl rfl (show vp_in (2 : Int32) 336 by unfold vp_in; decide) dX4_beat_313 (fun H locs hP hD hS => ?_)
      have hP : va_P D vwCl (w_Mod cs q (zr2 M 3 (upd (M 3) (2 : Int32).toNatClampNeg ((M 3 (2 : Int32).toNatClampNeg) + (1 : Int32))))) H := hP
      have hD : va_D A (w_Mod cs q (zr2 M 3 (upd (M 3) (2 : Int32).toNatClampNeg ((M 3 (2 : Int32).toNatClampNeg) + (1 : Int32))))) := hD
      exact W.vret hx hb hr (fun t ht hW => ⟨⟨(zr2 M 3 (upd (M 3) (2 : Int32).toNatClampNeg ((M 3 (2 : Int32).toNatClampNeg) + (1 : Int32)))), rfl, hw, by rw [ht]; exact hP, hD⟩, hS.F ht⟩) hS.2.2 dX4_beat_314 hlocks
    · have hw := hw.2 c31
      refine lv_aload_n hx hb dX4_beat_131 rfl (lv_at hl 1 rfl) ?_
      refine lv_iload_n hx hb dX4_beat_132 rfl (lv_at hl 2 rfl) ?_
      have hPc := hP.sub (ws' := ([] : va_W)) [] rfl
      have hDc := hD.sub (ws' := ([] : va_W)) [] (by decide) rfl
      refine z_calli (va_runS (As := [.int x2]) (rest := [.ref (q 3)]) ⟨hx, hb, hml, hown, hts⟩ (c_X4_at l D cs  H.size x2 _ hw) (va_cwS 1 hts gX4_beat_X4_at rfl rfl rfl (by decide +kernel) ⟨Nat.le_of_ble_eq_true rfl, Nat.le_of_ble_eq_true rfl⟩) (PC_S hPc hDc hKK) rfl rfl hl.1 rfl (lv_room (Nat.le_of_ble_eq_true rfl)) dX4_beat_133 ⟨Nat.le_of_ble_eq_true rfl, Nat.le_of_ble_eq_true rfl⟩) (fun r32 hw => ?_)
      refine lv_iconst (v := (0 : Int32)) hx hb dX4_beat_136 (by decide) ?_
      refine lv_iadd hx hb dX4_beat_137 ?_
      obtain ⟨h33, hw⟩ := hw
      refine va_iald hx hb hK hP 3 0 rfl rfl h33 dX4_beat_138 ?_
      refine lv_istore_n (lv' := [(3, .int (M 3 (r32 + (0 : Int32)).toNatClampNeg)), (0, .ref (q 0)), (1, .ref (q 3)), (2, .int x2)]) hx hb dX4_beat_139 rfl hl (by decide) rfl (fun ls hl => ?_)
      refine lv_iconst (v := (0 : Int32)) hx hb dX4_beat_140 (by decide) ?_
      refine lv_istore (lv' := [(4, .int (0 : Int32)), (3, .int (M 3 (r32 + (0 : Int32)).toNatClampNeg)), (0, .ref (q 0)), (1, .ref (q 3)), (2, .int x2)]) hx hb dX4_beat_141 hl (by decide) rfl (fun ls hl => ?_)
      obtain ⟨n63, hw⟩ := hw
      refine t_X4_beat_t_143 hC q _ _ _ _ hA ?_ n63 _ _ hw H locs hP hD hS ls (lv_sub hl [2, 3, 4, 1, 0] rfl)
      · intro v62 hw H locs hP hD hS ls hl
        refine lv_iinc (v := x2 + 1) (lv' := [(2, .int (x2 + 1)), (0, .ref (q 0)), (1, .ref (q 3))]) hx hb dX4_beat_301 hl (k := 2) rfl rfl (by decide) rfl (fun ls hl => ?_)
        refine lv_goto (tgt := 124) hx hb dX4_beat_304 (by decide) ?_
        exact ih _ _ hw _ _ hP hD hS ls (lv_sub hl [1, 2, 0] rfl)
set_option maxHeartbeats 4000000 in
set_option maxRecDepth 100000 in
theorem t_X4_beat_t {p : Program} {l : Launch} {e : Env} {s : State} {m : MethodId} {args : Array Value} {below : List Frame} {meth : Method} {c : Code} {D : va_G} {cs : Nat → ClassId} {A : Nat → Prop} (hC : MAt p s m args meth c RX4 cX4_beat 6 none wsX4_beat D cs) (q : Nat → Nat) (M : MS) (Q : MS → Prop) (hA : ∀ q : Nat, s.heap.size ≤ q → A q) (hw : wp_X4_beat_t M Q) (H : Heap) (locs : List Loc) (hP : va_P D vwCl (w_Mod cs q M) H) (hD : va_D A (w_Mod cs q M)) (hS : va_S A s.heap H locs) (ls : Array Slot) (hl : lv_has ls 6 [(0, .ref (q 0)), (1, .ref (q 3))]) : W p l e ({ frames := 1, cells := 0, slots := 0, locals := 20 } : Room) s m args below meth c H locs 0 0 (MQ below (va_Qv (fun (u : MS) => Q u) (fun (u : MS) t => va_P D vwCl (w_Mod cs q u) t.heap ∧ va_D A (w_Mod cs q u)) A) args s 0 0 A) (F0 m 0 ls []) := by
  obtain ⟨hx, hb, hr, hml, hown, hts, hlocks, hKK⟩ := id hC
  have hK := hKK.1
  refine lv_iconst (v := (0 : Int32)) hx hb dX4_beat_0 (by decide) ?_
  refine lv_istore_n (lv' := [(2, .int (0 : Int32)), (0, .ref (q 0)), (1, .ref (q 3))]) hx hb dX4_beat_1 rfl hl (by decide) rfl (fun ls hl => ?_)
  obtain ⟨n65, hw⟩ := hw
  refine t_X4_beat_t_2 hC q _ _ hA ?_ n65 _ _ hw H locs hP hD hS ls (lv_sub hl [1, 2, 0] rfl)
  · intro v30 hw H locs hP hD hS ls hl
    refine lv_iconst (v := (0 : Int32)) hx hb dX4_beat_122 (by decide) ?_
    refine lv_istore_n (lv' := [(2, .int (0 : Int32)), (0, .ref (q 0)), (1, .ref (q 3))]) hx hb dX4_beat_123 rfl hl (by decide) rfl (fun ls hl => ?_)
    obtain ⟨n64, hw⟩ := hw
    exact t_X4_beat_t_124 hC q _ hA n64 _ _ hw H locs hP hD hS ls (lv_sub hl [1, 2, 0] rfl)
set_option maxHeartbeats 4000000 in
set_option maxRecDepth 100000 in
theorem c_X4_beat_t (l : Launch) (D : va_G) (cs : Nat → ClassId) (q : Nat → Nat) (sz : Nat) (M : MS) (Q : MS → Prop) (hw : wp_X4_beat_t M Q) : Met l yX4_beat wsX4_beat ({ frames := 1, cells := 0, slots := 0, locals := 20 } : Room) (va_Pc [.ref (q 0), .ref (q 3)] (PC D cs (w_Mod cs q M) sz)) (va_Qv (fun (u : MS) => Q u) (fun (u : MS) t => va_P D vwCl (w_Mod cs q u) t.heap ∧ va_D (va_A (w_Mod cs q M) sz) (w_Mod cs q u)) (va_A (w_Mod cs q M) sz)) 0 0 (va_A (w_Mod cs q M) sz) := by
  refine Met.ofW (cc := cX4_beat) (maxL := 6) (ret := none) (by decide) rfl ?_
  intro p e s m args below meth c s₁ B hml hv
  obtain ⟨rfl, hsz, hP, hKK, hD0⟩ := hv
  have hC : MAt p s m _ meth c RX4 cX4_beat 6 none wsX4_beat D cs := ⟨B.exec, B.bytes, B.returns, hml, findClass_of_methodNamed B.named, atoms_spec (ws := wsX4_beat) B.pre, B.notSynchronized, hKK⟩
  have hl := lv_entry ([.ref (q 0), .ref (q 3)]) (n := 6) (Nat.le_of_ble_eq_true rfl)
  rw [lg_entry_eq]
  generalize (lg_sl ([.ref (q 0), .ref (q 3)]) ++ List.replicate (6 - (lg_sl ([.ref (q 0), .ref (q 3)])).length) Slot.unset).toArray = ls at hl ⊢
  subst hsz
  have hD := hD0.self (sz := s.heap.size)
  have hA : ∀ z : Nat, s.heap.size ≤ z → va_A (w_Mod cs q M) s.heap.size z := fun z h => Or.inr h
  exact t_X4_beat_t hC q M Q hA hw s.heap [] hP hD va_S.rf ls hl
set_option maxHeartbeats 4000000 in
set_option maxRecDepth 100000 in
theorem t_X4_beatsOn_n_2 {p : Program} {l : Launch} {e : Env} {s : State} {m : MethodId} {args : Array Value} {below : List Frame} {meth : Method} {c : Code} {D : va_G} {cs : Nat → ClassId} {A : Nat → Prop} (hC : MAt p s m args meth c RX4 cX4_beatsOn 4 (some .int) wsX4_beatsOn D cs) (q : Nat → Nat) (x2 : Int32) (Q : Int32 → MS → Prop) (hA : ∀ q : Nat, s.heap.size ≤ q → A q) : ∀ (n : Nat) (M : MS) (x3 : Int32), wl_X4_beatsOn_n_2 x2 Q n M x3 → ∀ (H : Heap) (locs : List Loc), va_P D vwCl (w_Mod cs q M) H → va_D A (w_Mod cs q M) → va_S A s.heap H locs → ∀ ls : Array Slot, lv_has ls 4 [(0, .ref (q 0)), (1, .ref (q 2)), (2, .int x2), (3, .int x3)] → W p l e ({ frames := 3, cells := 0, slots := 0, locals := 65 } : Room) s m args below meth c H locs 0 0 (MQ below (va_Qi (fun r (u : MS) => Q r u) (fun (u : MS) t => va_P D vwCl (w_Mod cs q u) t.heap ∧ va_D A (w_Mod cs q u)) A) args s 0 0 A) (F0 m 2 ls []) := by
  obtain ⟨hx, hb, hr, hml, hown, hts, hlocks, hKK⟩ := id hC
  have hK := hKK.1
  intro n
  induction n with
  | zero =>
    intro M x3 hw
    exact False.elim hw
  | succ n ih =>
    intro M x3 hw H locs hP hD hS ls hl
    refine lv_iload_n hx hb dX4_beatsOn_2 rfl (lv_at hl 3 rfl) ?_
    refine lv_iload_n hx hb dX4_beatsOn_3 rfl (lv_at hl 2 rfl) ?_
    refine lv_icmp_ge (tgt := 18) hx hb dX4_beatsOn_4 (by decide) (fun c1 => ?_) (fun c1 => ?_)
    · have hw := hw.1 c1
      refine lv_aload_n hx hb dX4_beatsOn_18 rfl (lv_at hl 1 rfl) ?_
      have hPc := hP.sub (ws' := w_Row cs (q 2) 336 (M 2)) [2] rfl
      have hDc := hD.sub (ws' := w_Row cs (q 2) 336 (M 2)) [2] (by decide) rfl
      refine z_calli (va_runS (As := [.ref (q 2)]) (rest := []) ⟨hx, hb, hml, hown, hts⟩ (c_X4_settledOn l D cs (q 2) H.size (M 2) _ hw) (va_cwS 1 hts gX4_beatsOn_X4_settledOn rfl rfl rfl (by decide +kernel) ⟨Nat.le_of_ble_eq_true rfl, Nat.le_of_ble_eq_true rfl⟩) (PC_S hPc hDc hKK) rfl rfl hl.1 rfl (lv_room (Nat.le_of_ble_eq_true rfl)) dX4_beatsOn_19 ⟨Nat.le_of_ble_eq_true rfl, Nat.le_of_ble_eq_true rfl⟩) (fun r2 hw => ?_)
      exact W.iret (v := r2) hx hb hr (fun t ht hW => ⟨⟨r2, (M), rfl, hw, by rw [ht]; exact hP, hD⟩, hS.F ht⟩) hS.2.2 dX4_beatsOn_22 hlocks
    · have hw := hw.2 c1
      refine lv_aload_n hx hb dX4_beatsOn_7 rfl (lv_at hl 0 rfl) ?_
      refine lv_aload_n hx hb dX4_beatsOn_8 rfl (lv_at hl 1 rfl) ?_
      have hFc := va_free (wc := w_Mod cs q M) hD hS hA [0, 1, 2, 3, 4, 5, 6, 7, 8] rfl
      refine va_callv (va_runV (As := [.ref (q 2)]) (rest := []) ⟨hx, hb, hml, hown, hts⟩ (c_X4_beat_n l D cs q H.size M _ hw) (cwV 1 hts gX4_beatsOn_X4_beat rfl rfl rfl (by decide +kernel) ⟨Nat.le_of_ble_eq_true rfl, Nat.le_of_ble_eq_true rfl⟩) (PC_V hP hD hKK 0 4 rfl rfl) rfl rfl hl.1 rfl (lv_room (Nat.le_of_ble_eq_true rfl)) dX4_beatsOn_9 ⟨Nat.le_of_ble_eq_true rfl, Nat.le_of_ble_eq_true rfl⟩) hS (fun q _ h => hFc q h) hFc (fun u3 t H locs ht hvm hw hB hz1 hk1 hS => ?_)
      obtain ⟨hP1, hD1⟩ := hB
      rw [ht] at hP1
      have hD : va_D A (w_Mod cs q u3) := hD1.weaken (fun k q _ h => hFc q.1 h)
      have hP : va_P D vwCl (w_Mod cs q u3) H := hP1
      refine lv_iinc (v := x3 + 1) (lv' := [(3, .int (x3 + 1)), (0, .ref (q 0)), (1, .ref (q 2)), (2, .int x2)]) hx hb dX4_beatsOn_12 hl (k := 3) rfl rfl (by decide) rfl (fun ls hl => ?_)
      refine lv_goto (tgt := 2) hx hb dX4_beatsOn_15 (by decide) ?_
      exact ih _ _ hw _ _ hP hD hS ls (lv_sub hl [1, 2, 3, 0] rfl)
set_option maxHeartbeats 4000000 in
set_option maxRecDepth 100000 in
theorem t_X4_beatsOn_n {p : Program} {l : Launch} {e : Env} {s : State} {m : MethodId} {args : Array Value} {below : List Frame} {meth : Method} {c : Code} {D : va_G} {cs : Nat → ClassId} {A : Nat → Prop} (hC : MAt p s m args meth c RX4 cX4_beatsOn 4 (some .int) wsX4_beatsOn D cs) (q : Nat → Nat) (M : MS) (x2 : Int32) (Q : Int32 → MS → Prop) (hA : ∀ q : Nat, s.heap.size ≤ q → A q) (hw : wp_X4_beatsOn_n M x2 Q) (H : Heap) (locs : List Loc) (hP : va_P D vwCl (w_Mod cs q M) H) (hD : va_D A (w_Mod cs q M)) (hS : va_S A s.heap H locs) (ls : Array Slot) (hl : lv_has ls 4 [(0, .ref (q 0)), (1, .ref (q 2)), (2, .int x2)]) : W p l e ({ frames := 3, cells := 0, slots := 0, locals := 65 } : Room) s m args below meth c H locs 0 0 (MQ below (va_Qi (fun r (u : MS) => Q r u) (fun (u : MS) t => va_P D vwCl (w_Mod cs q u) t.heap ∧ va_D A (w_Mod cs q u)) A) args s 0 0 A) (F0 m 0 ls []) := by
  obtain ⟨hx, hb, hr, hml, hown, hts, hlocks, hKK⟩ := id hC
  have hK := hKK.1
  refine lv_iconst (v := (0 : Int32)) hx hb dX4_beatsOn_0 (by decide) ?_
  refine lv_istore_n (lv' := [(3, .int (0 : Int32)), (0, .ref (q 0)), (1, .ref (q 2)), (2, .int x2)]) hx hb dX4_beatsOn_1 rfl hl (by decide) rfl (fun ls hl => ?_)
  obtain ⟨n4, hw⟩ := hw
  exact t_X4_beatsOn_n_2 hC q _ _ hA n4 _ _ hw H locs hP hD hS ls (lv_sub hl [1, 2, 3, 0] rfl)
set_option maxHeartbeats 4000000 in
set_option maxRecDepth 100000 in
theorem c_X4_beatsOn_n (l : Launch) (D : va_G) (cs : Nat → ClassId) (q : Nat → Nat) (sz : Nat) (M : MS) (x2 : Int32) (Q : Int32 → MS → Prop) (hw : wp_X4_beatsOn_n M x2 Q) : Met l yX4_beatsOn wsX4_beatsOn ({ frames := 3, cells := 0, slots := 0, locals := 65 } : Room) (va_Pc [.ref (q 0), .ref (q 2), .int x2] (PC D cs (w_Mod cs q M) sz)) (va_Qi (fun r (u : MS) => Q r u) (fun (u : MS) t => va_P D vwCl (w_Mod cs q u) t.heap ∧ va_D (va_A (w_Mod cs q M) sz) (w_Mod cs q u)) (va_A (w_Mod cs q M) sz)) 0 0 (va_A (w_Mod cs q M) sz) := by
  refine Met.ofW (cc := cX4_beatsOn) (maxL := 4) (ret := (some .int)) (by decide) rfl ?_
  intro p e s m args below meth c s₁ B hml hv
  obtain ⟨rfl, hsz, hP, hKK, hD0⟩ := hv
  have hC : MAt p s m _ meth c RX4 cX4_beatsOn 4 (some .int) wsX4_beatsOn D cs := ⟨B.exec, B.bytes, B.returns, hml, findClass_of_methodNamed B.named, atoms_spec (ws := wsX4_beatsOn) B.pre, B.notSynchronized, hKK⟩
  have hl := lv_entry ([.ref (q 0), .ref (q 2), .int x2]) (n := 4) (Nat.le_of_ble_eq_true rfl)
  rw [lg_entry_eq]
  generalize (lg_sl ([.ref (q 0), .ref (q 2), .int x2]) ++ List.replicate (4 - (lg_sl ([.ref (q 0), .ref (q 2), .int x2])).length) Slot.unset).toArray = ls at hl ⊢
  subst hsz
  have hD := hD0.self (sz := s.heap.size)
  have hA : ∀ z : Nat, s.heap.size ≤ z → va_A (w_Mod cs q M) s.heap.size z := fun z h => Or.inr h
  exact t_X4_beatsOn_n hC q M x2 Q hA hw s.heap [] hP hD va_S.rf ls hl
set_option maxHeartbeats 4000000 in
set_option maxRecDepth 100000 in
theorem t_X4_beatsOn_t_2 {p : Program} {l : Launch} {e : Env} {s : State} {m : MethodId} {args : Array Value} {below : List Frame} {meth : Method} {c : Code} {D : va_G} {cs : Nat → ClassId} {A : Nat → Prop} (hC : MAt p s m args meth c RX4 cX4_beatsOn 4 (some .int) wsX4_beatsOn D cs) (q : Nat → Nat) (x2 : Int32) (Q : Int32 → MS → Prop) (hA : ∀ q : Nat, s.heap.size ≤ q → A q) : ∀ (n : Nat) (M : MS) (x3 : Int32), wl_X4_beatsOn_t_2 x2 Q n M x3 → ∀ (H : Heap) (locs : List Loc), va_P D vwCl (w_Mod cs q M) H → va_D A (w_Mod cs q M) → va_S A s.heap H locs → ∀ ls : Array Slot, lv_has ls 4 [(0, .ref (q 0)), (1, .ref (q 3)), (2, .int x2), (3, .int x3)] → W p l e ({ frames := 3, cells := 0, slots := 0, locals := 65 } : Room) s m args below meth c H locs 0 0 (MQ below (va_Qi (fun r (u : MS) => Q r u) (fun (u : MS) t => va_P D vwCl (w_Mod cs q u) t.heap ∧ va_D A (w_Mod cs q u)) A) args s 0 0 A) (F0 m 2 ls []) := by
  obtain ⟨hx, hb, hr, hml, hown, hts, hlocks, hKK⟩ := id hC
  have hK := hKK.1
  intro n
  induction n with
  | zero =>
    intro M x3 hw
    exact False.elim hw
  | succ n ih =>
    intro M x3 hw H locs hP hD hS ls hl
    refine lv_iload_n hx hb dX4_beatsOn_2 rfl (lv_at hl 3 rfl) ?_
    refine lv_iload_n hx hb dX4_beatsOn_3 rfl (lv_at hl 2 rfl) ?_
    refine lv_icmp_ge (tgt := 18) hx hb dX4_beatsOn_4 (by decide) (fun c1 => ?_) (fun c1 => ?_)
    · have hw := hw.1 c1
      refine lv_aload_n hx hb dX4_beatsOn_18 rfl (lv_at hl 1 rfl) ?_
      have hPc := hP.sub (ws' := w_Row cs (q 3) 336 (M 3)) [3] rfl
      have hDc := hD.sub (ws' := w_Row cs (q 3) 336 (M 3)) [3] (by decide) rfl
      refine z_calli (va_runS (As := [.ref (q 3)]) (rest := []) ⟨hx, hb, hml, hown, hts⟩ (c_X4_settledOn l D cs (q 3) H.size (M 3) _ hw) (va_cwS 1 hts gX4_beatsOn_X4_settledOn rfl rfl rfl (by decide +kernel) ⟨Nat.le_of_ble_eq_true rfl, Nat.le_of_ble_eq_true rfl⟩) (PC_S hPc hDc hKK) rfl rfl hl.1 rfl (lv_room (Nat.le_of_ble_eq_true rfl)) dX4_beatsOn_19 ⟨Nat.le_of_ble_eq_true rfl, Nat.le_of_ble_eq_true rfl⟩) (fun r2 hw => ?_)
      exact W.iret (v := r2) hx hb hr (fun t ht hW => ⟨⟨r2, (M), rfl, hw, by rw [ht]; exact hP, hD⟩, hS.F ht⟩) hS.2.2 dX4_beatsOn_22 hlocks
    · have hw := hw.2 c1
      refine lv_aload_n hx hb dX4_beatsOn_7 rfl (lv_at hl 0 rfl) ?_
      refine lv_aload_n hx hb dX4_beatsOn_8 rfl (lv_at hl 1 rfl) ?_
      have hFc := va_free (wc := w_Mod cs q M) hD hS hA [0, 1, 2, 3, 4, 5, 6, 7, 8] rfl
      refine va_callv (va_runV (As := [.ref (q 3)]) (rest := []) ⟨hx, hb, hml, hown, hts⟩ (c_X4_beat_t l D cs q H.size M _ hw) (cwV 1 hts gX4_beatsOn_X4_beat rfl rfl rfl (by decide +kernel) ⟨Nat.le_of_ble_eq_true rfl, Nat.le_of_ble_eq_true rfl⟩) (PC_V hP hD hKK 0 4 rfl rfl) rfl rfl hl.1 rfl (lv_room (Nat.le_of_ble_eq_true rfl)) dX4_beatsOn_9 ⟨Nat.le_of_ble_eq_true rfl, Nat.le_of_ble_eq_true rfl⟩) hS (fun q _ h => hFc q h) hFc (fun u3 t H locs ht hvm hw hB hz1 hk1 hS => ?_)
      obtain ⟨hP1, hD1⟩ := hB
      rw [ht] at hP1
      have hD : va_D A (w_Mod cs q u3) := hD1.weaken (fun k q _ h => hFc q.1 h)
      have hP : va_P D vwCl (w_Mod cs q u3) H := hP1
      refine lv_iinc (v := x3 + 1) (lv' := [(3, .int (x3 + 1)), (0, .ref (q 0)), (1, .ref (q 3)), (2, .int x2)]) hx hb dX4_beatsOn_12 hl (k := 3) rfl rfl (by decide) rfl (fun ls hl => ?_)
      refine lv_goto (tgt := 2) hx hb dX4_beatsOn_15 (by decide) ?_
      exact ih _ _ hw _ _ hP hD hS ls (lv_sub hl [1, 2, 3, 0] rfl)
set_option maxHeartbeats 4000000 in
set_option maxRecDepth 100000 in
theorem t_X4_beatsOn_t {p : Program} {l : Launch} {e : Env} {s : State} {m : MethodId} {args : Array Value} {below : List Frame} {meth : Method} {c : Code} {D : va_G} {cs : Nat → ClassId} {A : Nat → Prop} (hC : MAt p s m args meth c RX4 cX4_beatsOn 4 (some .int) wsX4_beatsOn D cs) (q : Nat → Nat) (M : MS) (x2 : Int32) (Q : Int32 → MS → Prop) (hA : ∀ q : Nat, s.heap.size ≤ q → A q) (hw : wp_X4_beatsOn_t M x2 Q) (H : Heap) (locs : List Loc) (hP : va_P D vwCl (w_Mod cs q M) H) (hD : va_D A (w_Mod cs q M)) (hS : va_S A s.heap H locs) (ls : Array Slot) (hl : lv_has ls 4 [(0, .ref (q 0)), (1, .ref (q 3)), (2, .int x2)]) : W p l e ({ frames := 3, cells := 0, slots := 0, locals := 65 } : Room) s m args below meth c H locs 0 0 (MQ below (va_Qi (fun r (u : MS) => Q r u) (fun (u : MS) t => va_P D vwCl (w_Mod cs q u) t.heap ∧ va_D A (w_Mod cs q u)) A) args s 0 0 A) (F0 m 0 ls []) := by
  obtain ⟨hx, hb, hr, hml, hown, hts, hlocks, hKK⟩ := id hC
  have hK := hKK.1
  refine lv_iconst (v := (0 : Int32)) hx hb dX4_beatsOn_0 (by decide) ?_
  refine lv_istore_n (lv' := [(3, .int (0 : Int32)), (0, .ref (q 0)), (1, .ref (q 3)), (2, .int x2)]) hx hb dX4_beatsOn_1 rfl hl (by decide) rfl (fun ls hl => ?_)
  obtain ⟨n4, hw⟩ := hw
  exact t_X4_beatsOn_t_2 hC q _ _ hA n4 _ _ hw H locs hP hD hS ls (lv_sub hl [1, 2, 3, 0] rfl)
set_option maxHeartbeats 4000000 in
set_option maxRecDepth 100000 in
theorem c_X4_beatsOn_t (l : Launch) (D : va_G) (cs : Nat → ClassId) (q : Nat → Nat) (sz : Nat) (M : MS) (x2 : Int32) (Q : Int32 → MS → Prop) (hw : wp_X4_beatsOn_t M x2 Q) : Met l yX4_beatsOn wsX4_beatsOn ({ frames := 3, cells := 0, slots := 0, locals := 65 } : Room) (va_Pc [.ref (q 0), .ref (q 3), .int x2] (PC D cs (w_Mod cs q M) sz)) (va_Qi (fun r (u : MS) => Q r u) (fun (u : MS) t => va_P D vwCl (w_Mod cs q u) t.heap ∧ va_D (va_A (w_Mod cs q M) sz) (w_Mod cs q u)) (va_A (w_Mod cs q M) sz)) 0 0 (va_A (w_Mod cs q M) sz) := by
  refine Met.ofW (cc := cX4_beatsOn) (maxL := 4) (ret := (some .int)) (by decide) rfl ?_
  intro p e s m args below meth c s₁ B hml hv
  obtain ⟨rfl, hsz, hP, hKK, hD0⟩ := hv
  have hC : MAt p s m _ meth c RX4 cX4_beatsOn 4 (some .int) wsX4_beatsOn D cs := ⟨B.exec, B.bytes, B.returns, hml, findClass_of_methodNamed B.named, atoms_spec (ws := wsX4_beatsOn) B.pre, B.notSynchronized, hKK⟩
  have hl := lv_entry ([.ref (q 0), .ref (q 3), .int x2]) (n := 4) (Nat.le_of_ble_eq_true rfl)
  rw [lg_entry_eq]
  generalize (lg_sl ([.ref (q 0), .ref (q 3), .int x2]) ++ List.replicate (4 - (lg_sl ([.ref (q 0), .ref (q 3), .int x2])).length) Slot.unset).toArray = ls at hl ⊢
  subst hsz
  have hD := hD0.self (sz := s.heap.size)
  have hA : ∀ z : Nat, s.heap.size ≤ z → va_A (w_Mod cs q M) s.heap.size z := fun z h => Or.inr h
  exact t_X4_beatsOn_t hC q M x2 Q hA hw s.heap [] hP hD va_S.rf ls hl

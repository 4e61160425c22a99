set_option maxHeartbeats 4000000 in
set_option maxRecDepth 100000 in
theorem t_J9_floorMod_7cf53 {p : Program} {l : Launch} {e : Env} {s : State} {m : MethodId} {args : Array Value} {below : List Frame} {meth : Method} {c : Code} {D : va_G} {cs : Nat → ClassId} {A : Nat → Prop} (hC : MAt p s m args meth c RJ9 cJ9_floorMod_7cf53 3 (some .int) wsJ9_floorMod_7cf53 D cs) (x0 : Int32) (x1 : Int32) (Q : Int32 → Prop) (hw : wp_J9_floorMod_7cf53 x0 x1 Q) (hP : va_P D vwCl (([] : va_W)) s.heap) (hD : va_D A (([] : va_W))) (ls : Array Slot) (hl : lv_has ls 3 [(0, .int x0), (1, .int x1)]) : W p l e ({ frames := 0, cells := 0, slots := 0, locals := 0 } : Room) s m args below meth c s.heap [] 0 0 (MQ below (vp_Si Q) args s 0 0 (fun _ => False)) (F0 m 0 ls []) := by
  obtain ⟨hx, hb, hr, hml, hown, hts, hlocks, hKK⟩ := id hC
  have hK := hKK.1
  refine lv_iload_n hx hb dJ9_floorMod_7cf53_0 rfl (lv_at hl 0 rfl) ?_
  refine lv_iload_n hx hb dJ9_floorMod_7cf53_1 rfl (lv_at hl 1 rfl) ?_
  obtain ⟨h1, hw⟩ := hw
  refine lv_irem hx hb dJ9_floorMod_7cf53_2 h1 ?_
  refine lv_istore_n (lv' := [(2, .int (x0 - x0 / x1 * x1)), (0, .int x0), (1, .int x1)]) hx hb dJ9_floorMod_7cf53_3 rfl hl (by decide) rfl (fun ls hl => ?_)
  refine lv_iload_n hx hb dJ9_floorMod_7cf53_4 rfl (lv_at hl 1 rfl) ?_
  refine lv_iload_n hx hb dJ9_floorMod_7cf53_5 rfl (lv_at hl 2 rfl) ?_
  refine lv_ixor hx hb dJ9_floorMod_7cf53_6 ?_
  refine lv_if_ge (tgt := 18) hx hb dJ9_floorMod_7cf53_7 (by decide) (fun c2 => ?_) (fun c2 => ?_)
  · have hw := hw.1 c2
    refine lv_iload_n hx hb dJ9_floorMod_7cf53_18 rfl (lv_at hl 0 rfl) ?_
    exact W.iret (v := x0 - x0 / x1 * x1) hx hb hr (fun t ht hW => ⟨x0 - x0 / x1 * x1, rfl, hw, ht⟩) (fun q h => nomatch h) dJ9_floorMod_7cf53_19 hlocks
  · have hw := hw.2 c2
    refine lv_iload_n hx hb dJ9_floorMod_7cf53_10 rfl (lv_at hl 0 rfl) ?_
    refine lv_if_eq (tgt := 18) hx hb dJ9_floorMod_7cf53_11 (by decide) (fun c3 => ?_) (fun c3 => ?_)
    · have hw := hw.1 c3
      refine lv_iload_n hx hb dJ9_floorMod_7cf53_18 rfl (lv_at hl 0 rfl) ?_
      exact W.iret (v := x0 - x0 / x1 * x1) hx hb hr (fun t ht hW => ⟨x0 - x0 / x1 * x1, rfl, hw, ht⟩) (fun q h => nomatch h) dJ9_floorMod_7cf53_19 hlocks
    · have hw := hw.2 c3
      refine lv_iload_n hx hb dJ9_floorMod_7cf53_14 rfl (lv_at hl 0 rfl) ?_
      refine lv_iload_n hx hb dJ9_floorMod_7cf53_15 rfl (lv_at hl 2 rfl) ?_
      refine lv_iadd hx hb dJ9_floorMod_7cf53_16 ?_
      exact W.iret (v := (x0 - x0 / x1 * x1) + x1) hx hb hr (fun t ht hW => ⟨(x0 - x0 / x1 * x1) + x1, rfl, hw, ht⟩) (fun q h => nomatch h) dJ9_floorMod_7cf53_17 hlocks
set_option maxHeartbeats 4000000 in
set_option maxRecDepth 100000 in
theorem c_J9_floorMod_7cf53 (l : Launch) (D : va_G) (cs : Nat → ClassId)  (sz : Nat) (x0 : Int32) (x1 : Int32) (Q : Int32 → Prop) (hw : wp_J9_floorMod_7cf53 x0 x1 Q) : Met l yJ9_floorMod_7cf53 wsJ9_floorMod_7cf53 ({ frames := 0, cells := 0, slots := 0, locals := 0 } : Room) (va_Pc [.int x0, .int x1] (PC D cs (([] : va_W)) sz)) (vp_Si Q) 0 0 (fun _ => False) := by
  refine Met_ofWF (cc := cJ9_floorMod_7cf53) (maxL := 3) (ret := (some .int)) (by decide +kernel) rfl ?_
  intro p e s m args below meth c s₁ B hml hv
  obtain ⟨rfl, hsz, hP, hKK, hD0⟩ := hv
  have hC : MAt p s m _ meth c RJ9 cJ9_floorMod_7cf53 3 (some .int) wsJ9_floorMod_7cf53 D cs := ⟨B.exec, B.bytes, B.returns, hml, findClass_of_methodNamed B.named, atoms_spec (ws := wsJ9_floorMod_7cf53) B.pre, B.notSynchronized, hKK⟩
  have hl := lv_entry ([.int x0, .int x1]) (n := 3) (Nat.le_of_ble_eq_true rfl)
  rw [lg_entry_eq]
  generalize (lg_sl ([.int x0, .int x1]) ++ List.replicate (3 - (lg_sl ([.int x0, .int x1])).length) Slot.unset).toArray = ls at hl ⊢
  exact t_J9_floorMod_7cf53 hC  x0 x1 Q hw hP hD0 ls hl
set_option maxHeartbeats 4000000 in
set_option maxRecDepth 100000 in
theorem t_J9_floorDiv_7cf53 {p : Program} {l : Launch} {e : Env} {s : State} {m : MethodId} {args : Array Value} {below : List Frame} {meth : Method} {c : Code} {D : va_G} {cs : Nat → ClassId} {A : Nat → Prop} (hC : MAt p s m args meth c RJ9 cJ9_floorDiv_7cf53 3 (some .int) wsJ9_floorDiv_7cf53 D cs) (x0 : Int32) (x1 : Int32) (Q : Int32 → Prop) (hw : wp_J9_floorDiv_7cf53 x0 x1 Q) (hP : va_P D vwCl (([] : va_W)) s.heap) (hD : va_D A (([] : va_W))) (ls : Array Slot) (hl : lv_has ls 3 [(0, .int x0), (1, .int x1)]) : W p l e ({ frames := 0, cells := 0, slots := 0, locals := 0 } : Room) s m args below meth c s.heap [] 0 0 (MQ below (vp_Si Q) args s 0 0 (fun _ => False)) (F0 m 0 ls []) := by
  obtain ⟨hx, hb, hr, hml, hown, hts, hlocks, hKK⟩ := id hC
  have hK := hKK.1
  refine lv_iload_n hx hb dJ9_floorDiv_7cf53_0 rfl (lv_at hl 0 rfl) ?_
  refine lv_iload_n hx hb dJ9_floorDiv_7cf53_1 rfl (lv_at hl 1 rfl) ?_
  obtain ⟨h1, hw⟩ := hw
  refine lv_idiv hx hb dJ9_floorDiv_7cf53_2 h1 ?_
  refine lv_istore_n (lv' := [(2, .int (x0 / x1)), (0, .int x0), (1, .int x1)]) hx hb dJ9_floorDiv_7cf53_3 rfl hl (by decide) rfl (fun ls hl => ?_)
  refine lv_iload_n hx hb dJ9_floorDiv_7cf53_4 rfl (lv_at hl 1 rfl) ?_
  refine lv_iload_n hx hb dJ9_floorDiv_7cf53_5 rfl (lv_at hl 2 rfl) ?_
  refine lv_ixor hx hb dJ9_floorDiv_7cf53_6 ?_
  refine lv_if_ge (tgt := 21) hx hb dJ9_floorDiv_7cf53_7 (by decide) (fun c2 => ?_) (fun c2 => ?_)
  · have hw := hw.1 c2
    refine lv_iload_n hx hb dJ9_floorDiv_7cf53_21 rfl (lv_at hl 0 rfl) ?_
    exact W.iret (v := x0 / x1) hx hb hr (fun t ht hW => ⟨x0 / x1, rfl, hw, ht⟩) (fun q h => nomatch h) dJ9_floorDiv_7cf53_22 hlocks
  · have hw := hw.2 c2
    refine lv_iload_n hx hb dJ9_floorDiv_7cf53_10 rfl (lv_at hl 0 rfl) ?_
    refine lv_iload_n hx hb dJ9_floorDiv_7cf53_11 rfl (lv_at hl 2 rfl) ?_
    refine lv_imul hx hb dJ9_floorDiv_7cf53_12 ?_
    refine lv_iload_n hx hb dJ9_floorDiv_7cf53_13 rfl (lv_at hl 1 rfl) ?_
    refine lv_icmp_eq (tgt := 21) hx hb dJ9_floorDiv_7cf53_14 (by decide) (fun c3 => ?_) (fun c3 => ?_)
    · have hw := hw.1 c3
      refine lv_iload_n hx hb dJ9_floorDiv_7cf53_21 rfl (lv_at hl 0 rfl) ?_
      exact W.iret (v := x0 / x1) hx hb hr (fun t ht hW => ⟨x0 / x1, rfl, hw, ht⟩) (fun q h => nomatch h) dJ9_floorDiv_7cf53_22 hlocks
    · have hw := hw.2 c3
      refine lv_iload_n hx hb dJ9_floorDiv_7cf53_17 rfl (lv_at hl 0 rfl) ?_
      refine lv_iconst (v := (1 : Int32)) hx hb dJ9_floorDiv_7cf53_18 (by decide) ?_
      refine lv_isub hx hb dJ9_floorDiv_7cf53_19 ?_
      exact W.iret (v := (x0 / x1) - (1 : Int32)) hx hb hr (fun t ht hW => ⟨(x0 / x1) - (1 : Int32), rfl, hw, ht⟩) (fun q h => nomatch h) dJ9_floorDiv_7cf53_20 hlocks
set_option maxHeartbeats 4000000 in
set_option maxRecDepth 100000 in
theorem c_J9_floorDiv_7cf53 (l : Launch) (D : va_G) (cs : Nat → ClassId)  (sz : Nat) (x0 : Int32) (x1 : Int32) (Q : Int32 → Prop) (hw : wp_J9_floorDiv_7cf53 x0 x1 Q) : Met l yJ9_floorDiv_7cf53 wsJ9_floorDiv_7cf53 ({ frames := 0, cells := 0, slots := 0, locals := 0 } : Room) (va_Pc [.int x0, .int x1] (PC D cs (([] : va_W)) sz)) (vp_Si Q) 0 0 (fun _ => False) := by
  refine Met_ofWF (cc := cJ9_floorDiv_7cf53) (maxL := 3) (ret := (some .int)) (by decide +kernel) rfl ?_
  intro p e s m args below meth c s₁ B hml hv
  obtain ⟨rfl, hsz, hP, hKK, hD0⟩ := hv
  have hC : MAt p s m _ meth c RJ9 cJ9_floorDiv_7cf53 3 (some .int) wsJ9_floorDiv_7cf53 D cs := ⟨B.exec, B.bytes, B.returns, hml, findClass_of_methodNamed B.named, atoms_spec (ws := wsJ9_floorDiv_7cf53) B.pre, B.notSynchronized, hKK⟩
  have hl := lv_entry ([.int x0, .int x1]) (n := 3) (Nat.le_of_ble_eq_true rfl)
  rw [lg_entry_eq]
  generalize (lg_sl ([.int x0, .int x1]) ++ List.replicate (3 - (lg_sl ([.int x0, .int x1])).length) Slot.unset).toArray = ls at hl ⊢
  exact t_J9_floorDiv_7cf53 hC  x0 x1 Q hw hP hD0 ls hl
set_option maxHeartbeats 4000000 in
set_option maxRecDepth 100000 in
theorem t_X3_cellOf {p : Program} {l : Launch} {e : Env} {s : State} {m : MethodId} {args : Array Value} {below : List Frame} {meth : Method} {c : Code} {D : va_G} {cs : Nat → ClassId} {A : Nat → Prop} (hC : MAt p s m args meth c RX3 cX3_cellOf 2 (some .int) wsX3_cellOf D cs) (x0 : Int32) (x1 : Int32) (Q : Int32 → Prop) (hw : wp_X3_cellOf x0 x1 Q) (hP : va_P D vwCl (([] : va_W)) s.heap) (hD : va_D A (([] : va_W))) (ls : Array Slot) (hl : lv_has ls 2 [(0, .int x0), (1, .int x1)]) : W p l e ({ frames := 0, cells := 0, slots := 0, locals := 0 } : Room) s m args below meth c s.heap [] 0 0 (MQ below (vp_Si Q) args s 0 0 (fun _ => False)) (F0 m 0 ls []) := by
  obtain ⟨hx, hb, hr, hml, hown, hts, hlocks, hKK⟩ := id hC
  have hK := hKK.1
  refine lv_iload_n hx hb dX3_cellOf_0 rfl (lv_at hl 0 rfl) ?_
  refine lv_bipush (v := (9 : Int32)) hx hb dX3_cellOf_1 (by decide) ?_
  refine lv_imul hx hb dX3_cellOf_3 ?_
  refine lv_iload_n hx hb dX3_cellOf_4 rfl (lv_at hl 1 rfl) ?_
  refine lv_iadd hx hb dX3_cellOf_5 ?_
  exact W.iret (v := (x0 * (9 : Int32)) + x1) hx hb hr (fun t ht hW => ⟨(x0 * (9 : Int32)) + x1, rfl, hw, ht⟩) (fun q h => nomatch h) dX3_cellOf_6 hlocks
set_option maxHeartbeats 4000000 in
set_option maxRecDepth 100000 in
theorem c_X3_cellOf (l : Launch) (D : va_G) (cs : Nat → ClassId)  (sz : Nat) (x0 : Int32) (x1 : Int32) (Q : Int32 → Prop) (hw : wp_X3_cellOf x0 x1 Q) : Met l yX3_cellOf wsX3_cellOf ({ frames := 0, cells := 0, slots := 0, locals := 0 } : Room) (va_Pc [.int x0, .int x1] (PC D cs (([] : va_W)) sz)) (vp_Si Q) 0 0 (fun _ => False) := by
  refine Met.ofW (cc := cX3_cellOf) (maxL := 2) (ret := (some .int)) (by decide) rfl ?_
  intro p e s m args below meth c s₁ B hml hv
  obtain ⟨rfl, hsz, hP, hKK, hD0⟩ := hv
  have hC : MAt p s m _ meth c RX3 cX3_cellOf 2 (some .int) wsX3_cellOf D cs := ⟨B.exec, B.bytes, B.returns, hml, findClass_of_methodNamed B.named, atoms_spec (ws := wsX3_cellOf) B.pre, B.notSynchronized, hKK⟩
  have hl := lv_entry ([.int x0, .int x1]) (n := 2) (Nat.le_of_ble_eq_true rfl)
  rw [lg_entry_eq]
  generalize (lg_sl ([.int x0, .int x1]) ++ List.replicate (2 - (lg_sl ([.int x0, .int x1])).length) Slot.unset).toArray = ls at hl ⊢
  exact t_X3_cellOf hC  x0 x1 Q hw hP hD0 ls hl
theorem h_X1_X1_hasCounter : ∀ w ∈ u_ws RX1 TX1 13, w ∈ wsX1_hasCounter := fun _ h => List.mem_cons_of_mem _ (List.mem_append_right _ h)
set_option maxHeartbeats 4000000 in
set_option maxRecDepth 100000 in
theorem t_X1_hasCounter {p : Program} {l : Launch} {e : Env} {s : State} {m : MethodId} {args : Array Value} {below : List Frame} {meth : Method} {c : Code} {D : va_G} {cs : Nat → ClassId} {A : Nat → Prop} (hC : MAt p s m args meth c RX1 cX1_hasCounter 2 (some .boolean) wsX1_hasCounter D cs) (q : Nat → Nat) (L : LnS) (x1 : Int32) (Q : Int32 → Prop) (hw : wp_X1_hasCounter L x1 Q) (hP : va_P D vwCl (w_Line cs q L) s.heap) (hD : va_D A (w_Line cs q L)) (ls : Array Slot) (hl : lv_has ls 2 [(0, .ref (q 0)), (1, .int x1)]) : W p l e ({ frames := 0, cells := 0, slots := 0, locals := 0 } : Room) s m args below meth c s.heap [] 0 0 (MQ below (vp_Si (fun r => (r = 0 ∨ r = 1) ∧ Q r)) args s 0 0 (fun _ => False)) (F0 m 0 ls []) := by
  obtain ⟨hx, hb, hr, hml, hown, hts, hlocks, hKK⟩ := id hC
  have hK := hKK.1
  refine lv_iload_n hx hb dX1_hasCounter_0 rfl (lv_at hl 1 rfl) ?_
  refine lv_if_lt (tgt := 16) hx hb dX1_hasCounter_1 (by decide) (fun c1 => ?_) (fun c1 => ?_)
  · have hw := hw.1 c1
    refine lv_iconst (v := (0 : Int32)) hx hb dX1_hasCounter_16 (by decide) ?_
    exact W.zret (v := (0 : Int32)) hx hb hr rfl (fun t ht hW => ⟨(0 : Int32), rfl, ⟨Or.inl rfl, hw⟩, ht⟩) (fun q h => nomatch h) dX1_hasCounter_17 hlocks
  · have hw := hw.2 c1
    refine lv_iload_n hx hb dX1_hasCounter_4 rfl (lv_at hl 1 rfl) ?_
    refine lv_aload_n hx hb dX1_hasCounter_5 rfl (lv_at hl 0 rfl) ?_
    refine va_get (D := D) (ci := 1) (v := .int (L.1 0 0)) (C := RX1) (T := TX1) (N := 13) hx hb hts (h_X1_X1_hasCounter) hown hK hP 0 rfl rfl 0 (by decide) (z_w hts 1 rfl) (fun _ h9 => h9) rfl dX1_hasCounter_6 ?_
    refine lv_icmp_ge (tgt := 16) hx hb dX1_hasCounter_9 (by decide) (fun c2 => ?_) (fun c2 => ?_)
    · have hw := hw.1 c2
      refine lv_iconst (v := (0 : Int32)) hx hb dX1_hasCounter_16 (by decide) ?_
      exact W.zret (v := (0 : Int32)) hx hb hr rfl (fun t ht hW => ⟨(0 : Int32), rfl, ⟨Or.inl rfl, hw⟩, ht⟩) (fun q h => nomatch h) dX1_hasCounter_17 hlocks
    · have hw := hw.2 c2
      refine lv_iconst (v := (1 : Int32)) hx hb dX1_hasCounter_12 (by decide) ?_
      refine lv_goto (tgt := 17) hx hb dX1_hasCounter_13 (by decide) ?_
      exact W.zret (v := (1 : Int32)) hx hb hr rfl (fun t ht hW => ⟨(1 : Int32), rfl, ⟨Or.inr rfl, hw⟩, ht⟩) (fun q h => nomatch h) dX1_hasCounter_17 hlocks
set_option maxHeartbeats 4000000 in
set_option maxRecDepth 100000 in
theorem c_X1_hasCounter (l : Launch) (D : va_G) (cs : Nat → ClassId) (q : Nat → Nat) (sz : Nat) (L : LnS) (x1 : Int32) (Q : Int32 → Prop) (hw : wp_X1_hasCounter L x1 Q) : Met l yX1_hasCounter wsX1_hasCounter ({ frames := 0, cells := 0, slots := 0, locals := 0 } : Room) (va_Pc [.ref (q 0), .int x1] (PC D cs (w_Line cs q L) sz)) (vp_Si (fun r => (r = 0 ∨ r = 1) ∧ Q r)) 0 0 (fun _ => False) := by
  refine Met.ofW (cc := cX1_hasCounter) (maxL := 2) (ret := (some .boolean)) (by decide) rfl ?_
  intro p e s m args below meth c s₁ B hml hv
  obtain ⟨rfl, hsz, hP, hKK, hD0⟩ := hv
  have hC : MAt p s m _ meth c RX1 cX1_hasCounter 2 (some .boolean) wsX1_hasCounter D cs := ⟨B.exec, B.bytes, B.returns, hml, findClass_of_methodNamed B.named, atoms_spec (ws := wsX1_hasCounter) B.pre, B.notSynchronized, hKK⟩
  have hl := lv_entry ([.ref (q 0), .int x1]) (n := 2) (Nat.le_of_ble_eq_true rfl)
  rw [lg_entry_eq]
  generalize (lg_sl ([.ref (q 0), .int x1]) ++ List.replicate (2 - (lg_sl ([.ref (q 0), .int x1])).length) Slot.unset).toArray = ls at hl ⊢
  exact t_X1_hasCounter hC q L x1 Q hw hP hD0 ls hl
theorem h_X1_X1_canLink : ∀ w ∈ u_ws RX1 TX1 13, w ∈ wsX1_canLink := fun _ h => List.mem_cons_of_mem _ (List.mem_append_right _ h)
set_option maxHeartbeats 4000000 in
set_option maxRecDepth 100000 in
theorem t_X1_canLink {p : Program} {l : Launch} {e : Env} {s : State} {m : MethodId} {args : Array Value} {below : List Frame} {meth : Method} {c : Code} {D : va_G} {cs : Nat → ClassId} {A : Nat → Prop} (hC : MAt p s m args meth c RX1 cX1_canLink 2 (some .boolean) wsX1_canLink D cs) (q : Nat → Nat) (L : LnS) (x1 : Int32) (Q : Int32 → Prop) (hw : wp_X1_canLink L x1 Q) (hP : va_P D vwCl (w_Line cs q L) s.heap) (hD : va_D A (w_Line cs q L)) (ls : Array Slot) (hl : lv_has ls 2 [(0, .ref (q 0)), (1, .int x1)]) : W p l e ({ frames := 0, cells := 0, slots := 0, locals := 0 } : Room) s m args below meth c s.heap [] 0 0 (MQ below (vp_Si (fun r => (r = 0 ∨ r = 1) ∧ Q r)) args s 0 0 (fun _ => False)) (F0 m 0 ls []) := by
  obtain ⟨hx, hb, hr, hml, hown, hts, hlocks, hKK⟩ := id hC
  have hK := hKK.1
  refine lv_iload_n hx hb dX1_canLink_0 rfl (lv_at hl 1 rfl) ?_
  refine lv_if_lt (tgt := 18) hx hb dX1_canLink_1 (by decide) (fun c1 => ?_) (fun c1 => ?_)
  · have hw := hw.1 c1
    refine lv_iconst (v := (0 : Int32)) hx hb dX1_canLink_18 (by decide) ?_
    exact W.zret (v := (0 : Int32)) hx hb hr rfl (fun t ht hW => ⟨(0 : Int32), rfl, ⟨Or.inl rfl, hw⟩, ht⟩) (fun q h => nomatch h) dX1_canLink_19 hlocks
  · have hw := hw.2 c1
    refine lv_iload_n hx hb dX1_canLink_4 rfl (lv_at hl 1 rfl) ?_
    refine lv_aload_n hx hb dX1_canLink_5 rfl (lv_at hl 0 rfl) ?_
    refine va_get (D := D) (ci := 1) (v := .int (L.1 0 0)) (C := RX1) (T := TX1) (N := 13) hx hb hts (h_X1_X1_canLink) hown hK hP 0 rfl rfl 0 (by decide) (z_w hts 1 rfl) (fun _ h9 => h9) rfl dX1_canLink_6 ?_
    refine lv_iconst (v := (1 : Int32)) hx hb dX1_canLink_9 (by decide) ?_
    refine lv_isub hx hb dX1_canLink_10 ?_
    refine lv_icmp_ge (tgt := 18) hx hb dX1_canLink_11 (by decide) (fun c2 => ?_) (fun c2 => ?_)
    · have hw := hw.1 c2
      refine lv_iconst (v := (0 : Int32)) hx hb dX1_canLink_18 (by decide) ?_
      exact W.zret (v := (0 : Int32)) hx hb hr rfl (fun t ht hW => ⟨(0 : Int32), rfl, ⟨Or.inl rfl, hw⟩, ht⟩) (fun q h => nomatch h) dX1_canLink_19 hlocks
    · have hw := hw.2 c2
      refine lv_iconst (v := (1 : Int32)) hx hb dX1_canLink_14 (by decide) ?_
      refine lv_goto (tgt := 19) hx hb dX1_canLink_15 (by decide) ?_
      exact W.zret (v := (1 : Int32)) hx hb hr rfl (fun t ht hW => ⟨(1 : Int32), rfl, ⟨Or.inr rfl, hw⟩, ht⟩) (fun q h => nomatch h) dX1_canLink_19 hlocks
set_option maxHeartbeats 4000000 in
set_option maxRecDepth 100000 in
theorem c_X1_canLink (l : Launch) (D : va_G) (cs : Nat → ClassId) (q : Nat → Nat) (sz : Nat) (L : LnS) (x1 : Int32) (Q : Int32 → Prop) (hw : wp_X1_canLink L x1 Q) : Met l yX1_canLink wsX1_canLink ({ frames := 0, cells := 0, slots := 0, locals := 0 } : Room) (va_Pc [.ref (q 0), .int x1] (PC D cs (w_Line cs q L) sz)) (vp_Si (fun r => (r = 0 ∨ r = 1) ∧ Q r)) 0 0 (fun _ => False) := by
  refine Met.ofW (cc := cX1_canLink) (maxL := 2) (ret := (some .boolean)) (by decide) rfl ?_
  intro p e s m args below meth c s₁ B hml hv
  obtain ⟨rfl, hsz, hP, hKK, hD0⟩ := hv
  have hC : MAt p s m _ meth c RX1 cX1_canLink 2 (some .boolean) wsX1_canLink D cs := ⟨B.exec, B.bytes, B.returns, hml, findClass_of_methodNamed B.named, atoms_spec (ws := wsX1_canLink) B.pre, B.notSynchronized, hKK⟩
  have hl := lv_entry ([.ref (q 0), .int x1]) (n := 2) (Nat.le_of_ble_eq_true rfl)
  rw [lg_entry_eq]
  generalize (lg_sl ([.ref (q 0), .int x1]) ++ List.replicate (2 - (lg_sl ([.ref (q 0), .int x1])).length) Slot.unset).toArray = ls at hl ⊢
  exact t_X1_canLink hC q L x1 Q hw hP hD0 ls hl
theorem h_X1_X1_hasPlacesFor : ∀ w ∈ u_ws RX1 TX1 13, w ∈ wsX1_hasPlacesFor := fun _ h => List.mem_cons_of_mem _ (List.mem_append_right _ h)
set_option maxHeartbeats 4000000 in
set_option maxRecDepth 100000 in
theorem t_X1_hasPlacesFor_8 {p : Program} {l : Launch} {e : Env} {s : State} {m : MethodId} {args : Array Value} {below : List Frame} {meth : Method} {c : Code} {D : va_G} {cs : Nat → ClassId} {A : Nat → Prop} (hC : MAt p s m args meth c RX1 cX1_hasPlacesFor 5 (some .boolean) wsX1_hasPlacesFor D cs) (q : Nat → Nat) (L : LnS) (x1 : Int32) (Q : Int32 → Prop) (hP : va_P D vwCl (w_Line cs q L) s.heap) (hD : va_D A (w_Line cs q L)) : ∀ (n : Nat) (x3 : Int32) (x4 : Int32), wl_X1_hasPlacesFor_8 L x1 Q n x3 x4 → ∀ ls : Array Slot, lv_has ls 5 [(0, .ref (q 0)), (1, .int x1), (3, .int x3), (4, .int x4)] → W p l e ({ frames := 1, cells := 0, slots := 0, locals := 13 } : Room) s m args below meth c s.heap [] 0 0 (MQ below (vp_Si (fun r => (r = 0 ∨ r = 1) ∧ Q r)) args s 0 0 (fun _ => False)) (F0 m 8 ls []) := by
  obtain ⟨hx, hb, hr, hml, hown, hts, hlocks, hKK⟩ := id hC
  have hK := hKK.1
  intro n
  induction n with
  | zero =>
    intro x3 x4 hw
    exact False.elim hw
  | succ n ih =>
    intro x3 x4 hw ls hl
    refine lv_iload hx hb dX1_hasPlacesFor_8 (lv_at hl 3 rfl) ?_
    refine lv_aload_n hx hb dX1_hasPlacesFor_10 rfl (lv_at hl 0 rfl) ?_
    refine va_get (D := D) (ci := 1) (v := .ref (q 1)) (C := RX1) (T := TX1) (N := 13) hx hb hts (h_X1_X1_hasPlacesFor) hown hK hP 0 rfl rfl 4 (by decide) (z_w hts 5 rfl) (fun _ h9 => h9) rfl dX1_hasPlacesFor_11 ?_
    refine lv_iload_n hx hb dX1_hasPlacesFor_14 rfl (lv_at hl 1 rfl) ?_
    obtain ⟨h1, hw⟩ := hw
    refine va_iald hx hb hK hP 1 0 rfl rfl h1 dX1_hasPlacesFor_15 ?_
    refine lv_icmp_ge (tgt := 29) hx hb dX1_hasPlacesFor_16 (by decide) (fun c2 => ?_) (fun c2 => ?_)
    · have hw := hw.1 c2
      refine lv_iload_n hx hb dX1_hasPlacesFor_29 rfl (lv_at hl 2 rfl) ?_
      refine lv_if_ne (tgt := 37) hx hb dX1_hasPlacesFor_30 (by decide) (fun c3 => ?_) (fun c3 => ?_)
      · have hw := hw.2 c3
        refine lv_iconst (v := (0 : Int32)) hx hb dX1_hasPlacesFor_37 (by decide) ?_
        exact W.zret (v := (0 : Int32)) hx hb hr rfl (fun t ht hW => ⟨(0 : Int32), rfl, ⟨Or.inl rfl, hw⟩, ht⟩) (fun q h => nomatch h) dX1_hasPlacesFor_38 hlocks
      · have hw := hw.1 c3
        refine lv_iconst (v := (1 : Int32)) hx hb dX1_hasPlacesFor_33 (by decide) ?_
        refine lv_goto (tgt := 38) hx hb dX1_hasPlacesFor_34 (by decide) ?_
        exact W.zret (v := (1 : Int32)) hx hb hr rfl (fun t ht hW => ⟨(1 : Int32), rfl, ⟨Or.inr rfl, hw⟩, ht⟩) (fun q h => nomatch h) dX1_hasPlacesFor_38 hlocks
    · have hw := hw.2 c2
      refine lv_iload_n hx hb dX1_hasPlacesFor_19 rfl (lv_at hl 2 rfl) ?_
      refine lv_iconst (v := (3 : Int32)) hx hb dX1_hasPlacesFor_20 (by decide) ?_
      refine lv_idiv hx hb dX1_hasPlacesFor_21 (by decide) ?_
      refine lv_istore_n (lv' := [(3, .int (x3 / (3 : Int32))), (0, .ref (q 0)), (1, .int x1), (4, .int x4)]) hx hb dX1_hasPlacesFor_22 rfl hl (by decide) rfl (fun ls hl => ?_)
      refine lv_iinc (v := x4 + 1) (lv' := [(4, .int (x4 + 1)), (3, .int (x3 / (3 : Int32))), (0, .ref (q 0)), (1, .int x1)]) hx hb dX1_hasPlacesFor_23 hl (k := 3) rfl rfl (by decide) rfl (fun ls hl => ?_)
      refine lv_goto (tgt := 8) hx hb dX1_hasPlacesFor_26 (by decide) ?_
      exact ih _ _ hw ls (lv_sub hl [2, 3, 1, 0] rfl)
set_option maxHeartbeats 4000000 in
set_option maxRecDepth 100000 in
theorem t_X1_hasPlacesFor {p : Program} {l : Launch} {e : Env} {s : State} {m : MethodId} {args : Array Value} {below : List Frame} {meth : Method} {c : Code} {D : va_G} {cs : Nat → ClassId} {A : Nat → Prop} (hC : MAt p s m args meth c RX1 cX1_hasPlacesFor 5 (some .boolean) wsX1_hasPlacesFor D cs) (q : Nat → Nat) (L : LnS) (x1 : Int32) (x2 : Int32) (Q : Int32 → Prop) (hw : wp_X1_hasPlacesFor L x1 x2 Q) (hP : va_P D vwCl (w_Line cs q L) s.heap) (hD : va_D A (w_Line cs q L)) (ls : Array Slot) (hl : lv_has ls 5 [(0, .ref (q 0)), (1, .int x1), (2, .int x2)]) : W p l e ({ frames := 1, cells := 0, slots := 0, locals := 13 } : Room) s m args below meth c s.heap [] 0 0 (MQ below (vp_Si (fun r => (r = 0 ∨ r = 1) ∧ Q r)) args s 0 0 (fun _ => False)) (F0 m 0 ls []) := by
  obtain ⟨hx, hb, hr, hml, hown, hts, hlocks, hKK⟩ := id hC
  have hK := hKK.1
  refine lv_iload_n hx hb dX1_hasPlacesFor_0 rfl (lv_at hl 2 rfl) ?_
  refine va_mabs hx hb (hml.trans hl.1.symm) hown (z_w hts 1 rfl) (z_w hts 2 rfl) (z_w hts 3 rfl) (z_w hts 4 rfl) (Nat.le_of_ble_eq_true rfl) (Nat.le_of_ble_eq_true rfl) (Nat.le_of_ble_eq_true rfl) (Nat.le_of_ble_eq_true rfl) dX1_hasPlacesFor_1 ?_
  refine lv_istore_n (lv' := [(3, .int (if 0 ≤ x2 then x2 else 0 - x2)), (0, .ref (q 0)), (1, .int x1), (2, .int x2)]) hx hb dX1_hasPlacesFor_4 rfl hl (by decide) rfl (fun ls hl => ?_)
  refine lv_iconst (v := (0 : Int32)) hx hb dX1_hasPlacesFor_5 (by decide) ?_
  refine lv_istore (lv' := [(4, .int (0 : Int32)), (3, .int (if 0 ≤ x2 then x2 else 0 - x2)), (0, .ref (q 0)), (1, .int x1), (2, .int x2)]) hx hb dX1_hasPlacesFor_6 hl (by decide) rfl (fun ls hl => ?_)
  obtain ⟨n4, hw⟩ := hw
  exact t_X1_hasPlacesFor_8 hC q _ _ _ hP hD n4 _ _ hw ls (lv_sub hl [2, 3, 1, 0] rfl)
set_option maxHeartbeats 4000000 in
set_option maxRecDepth 100000 in
theorem c_X1_hasPlacesFor (l : Launch) (D : va_G) (cs : Nat → ClassId) (q : Nat → Nat) (sz : Nat) (L : LnS) (x1 : Int32) (x2 : Int32) (Q : Int32 → Prop) (hw : wp_X1_hasPlacesFor L x1 x2 Q) : Met l yX1_hasPlacesFor wsX1_hasPlacesFor ({ frames := 1, cells := 0, slots := 0, locals := 13 } : Room) (va_Pc [.ref (q 0), .int x1, .int x2] (PC D cs (w_Line cs q L) sz)) (vp_Si (fun r => (r = 0 ∨ r = 1) ∧ Q r)) 0 0 (fun _ => False) := by
  refine Met.ofW (cc := cX1_hasPlacesFor) (maxL := 5) (ret := (some .boolean)) (by decide) rfl ?_
  intro p e s m args below meth c s₁ B hml hv
  obtain ⟨rfl, hsz, hP, hKK, hD0⟩ := hv
  have hC : MAt p s m _ meth c RX1 cX1_hasPlacesFor 5 (some .boolean) wsX1_hasPlacesFor D cs := ⟨B.exec, B.bytes, B.returns, hml, findClass_of_methodNamed B.named, atoms_spec (ws := wsX1_hasPlacesFor) B.pre, B.notSynchronized, hKK⟩
  have hl := lv_entry ([.ref (q 0), .int x1, .int x2]) (n := 5) (Nat.le_of_ble_eq_true rfl)
  rw [lg_entry_eq]
  generalize (lg_sl ([.ref (q 0), .int x1, .int x2]) ++ List.replicate (5 - (lg_sl ([.ref (q 0), .int x1, .int x2])).length) Slot.unset).toArray = ls at hl ⊢
  exact t_X1_hasPlacesFor hC q L x1 x2 Q hw hP hD0 ls hl
theorem h_X1_X1_reading : ∀ w ∈ u_ws RX1 TX1 13, w ∈ wsX1_reading := fun _ h => List.mem_cons_of_mem _ (List.mem_append_right _ h)
set_option maxHeartbeats 4000000 in
set_option maxRecDepth 100000 in
theorem t_X1_reading_11 {p : Program} {l : Launch} {e : Env} {s : State} {m : MethodId} {args : Array Value} {below : List Frame} {meth : Method} {c : Code} {D : va_G} {cs : Nat → ClassId} {A : Nat → Prop} (hC : MAt p s m args meth c RX1 cX1_reading 4 (some .int) wsX1_reading D cs) (q : Nat → Nat) (L : LnS) (x1 : Int32) (Q : Int32 → Prop) (hP : va_P D vwCl (w_Line cs q L) s.heap) (hD : va_D A (w_Line cs q L)) : ∀ (n : Nat) (x2 : Int32) (x3 : Int32), wl_X1_reading_11 L x1 Q n x2 x3 → ∀ ls : Array Slot, lv_has ls 4 [(0, .ref (q 0)), (1, .int x1), (2, .int x2), (3, .int x3)] → W p l e ({ frames := 1, cells := 0, slots := 0, locals := 21 } : Room) s m args below meth c s.heap [] 0 0 (MQ below (vp_Si Q) args s 0 0 (fun _ => False)) (F0 m 11 ls []) := by
  obtain ⟨hx, hb, hr, hml, hown, hts, hlocks, hKK⟩ := id hC
  have hK := hKK.1
  intro n
  induction n with
  | zero =>
    intro x2 x3 hw
    exact False.elim hw
  | succ n ih =>
    intro x2 x3 hw ls hl
    refine lv_iload_n hx hb dX1_reading_11 rfl (lv_at hl 3 rfl) ?_
    refine lv_if_lt (tgt := 36) hx hb dX1_reading_12 (by decide) (fun c2 => ?_) (fun c2 => ?_)
    · have hw := hw.1 c2
      refine lv_iload_n hx hb dX1_reading_36 rfl (lv_at hl 2 rfl) ?_
      exact W.iret (v := x2) hx hb hr (fun t ht hW => ⟨x2, rfl, hw, ht⟩) (fun q h => nomatch h) dX1_reading_37 hlocks
    · have hw := hw.2 c2
      refine lv_iload_n hx hb dX1_reading_15 rfl (lv_at hl 2 rfl) ?_
      refine lv_iconst (v := (3 : Int32)) hx hb dX1_reading_16 (by decide) ?_
      refine lv_imul hx hb dX1_reading_17 ?_
      refine lv_aload_n hx hb dX1_reading_18 rfl (lv_at hl 0 rfl) ?_
      refine va_get (D := D) (ci := 1) (v := .ref (q 4)) (C := RX1) (T := TX1) (N := 13) hx hb hts (h_X1_X1_reading) hown hK hP 0 rfl rfl 7 (by decide) (z_w hts 2 rfl) (fun _ h9 => h9) rfl dX1_reading_19 ?_
      refine lv_iload_n hx hb dX1_reading_22 rfl (lv_at hl 1 rfl) ?_
      refine lv_iload_n hx hb dX1_reading_23 rfl (lv_at hl 3 rfl) ?_
      have hPc := hP.sub (ws' := ([] : va_W)) [] rfl
      have hDc := hD.sub (ws' := ([] : va_W)) [] (by decide) rfl
      refine z_calli (va_runSN (As := [.int x1, .int x3]) (rest := [.ref (q 4), .int (x2 * (3 : Int32))]) ⟨hx, hb, hml, hown, hts⟩ (c_X3_cellOf l D cs  s.heap.size x1 x3 _ hw) ⟨va_cnB 2 hts gX1_reading_X3_cellOf_n66 rfl rfl rfl hKK.2.2.1 (z_w hts 4 rfl) (by decide +kernel) ⟨Nat.le_of_ble_eq_true rfl, Nat.le_of_ble_eq_true rfl⟩, z_w hts 3 rfl, trivial⟩ (PC_S hPc hDc hKK) rfl rfl hl.1 rfl (lv_room (Nat.le_of_ble_eq_true rfl)) dX1_reading_24 ⟨Nat.le_of_ble_eq_true rfl, Nat.le_of_ble_eq_true rfl⟩) (fun r3 hw => ?_)
      obtain ⟨h4, hw⟩ := hw
      refine va_iald hx hb hK hP 4 0 rfl rfl h4 dX1_reading_27 ?_
      refine lv_iadd hx hb dX1_reading_28 ?_
      refine lv_topi (fun y5 ey5 => ?_)
      have hw := hw y5 ey5
      refine lv_istore_n (lv' := [(2, .int y5), (0, .ref (q 0)), (1, .int x1), (3, .int x3)]) hx hb dX1_reading_29 rfl hl (by decide) rfl (fun ls hl => ?_)
      refine lv_iinc (v := x3 + (-1)) (lv' := [(3, .int (x3 + (-1))), (2, .int y5), (0, .ref (q 0)), (1, .int x1)]) hx hb dX1_reading_30 hl (k := 3) rfl rfl (by decide) rfl (fun ls hl => ?_)
      refine lv_goto (tgt := 11) hx hb dX1_reading_33 (by decide) ?_
      exact ih _ _ hw ls (lv_sub hl [2, 3, 1, 0] rfl)
set_option maxHeartbeats 4000000 in
set_option maxRecDepth 100000 in
theorem t_X1_reading {p : Program} {l : Launch} {e : Env} {s : State} {m : MethodId} {args : Array Value} {below : List Frame} {meth : Method} {c : Code} {D : va_G} {cs : Nat → ClassId} {A : Nat → Prop} (hC : MAt p s m args meth c RX1 cX1_reading 4 (some .int) wsX1_reading D cs) (q : Nat → Nat) (L : LnS) (x1 : Int32) (Q : Int32 → Prop) (hw : wp_X1_reading L x1 Q) (hP : va_P D vwCl (w_Line cs q L) s.heap) (hD : va_D A (w_Line cs q L)) (ls : Array Slot) (hl : lv_has ls 4 [(0, .ref (q 0)), (1, .int x1)]) : W p l e ({ frames := 1, cells := 0, slots := 0, locals := 21 } : Room) s m args below meth c s.heap [] 0 0 (MQ below (vp_Si Q) args s 0 0 (fun _ => False)) (F0 m 0 ls []) := by
  obtain ⟨hx, hb, hr, hml, hown, hts, hlocks, hKK⟩ := id hC
  have hK := hKK.1
  refine lv_iconst (v := (0 : Int32)) hx hb dX1_reading_0 (by decide) ?_
  refine lv_istore_n (lv' := [(2, .int (0 : Int32)), (0, .ref (q 0)), (1, .int x1)]) hx hb dX1_reading_1 rfl hl (by decide) rfl (fun ls hl => ?_)
  refine lv_aload_n hx hb dX1_reading_2 rfl (lv_at hl 1 rfl) ?_
  refine va_get (D := D) (ci := 1) (v := .ref (q 1)) (C := RX1) (T := TX1) (N := 13) hx hb hts (h_X1_X1_reading) hown hK hP 0 rfl rfl 4 (by decide) (z_w hts 1 rfl) (fun _ h9 => h9) rfl dX1_reading_3 ?_
  refine lv_iload_n hx hb dX1_reading_6 rfl (lv_at hl 2 rfl) ?_
  obtain ⟨h1, hw⟩ := hw
  refine va_iald hx hb hK hP 1 0 rfl rfl h1 dX1_reading_7 ?_
  refine lv_iconst (v := (1 : Int32)) hx hb dX1_reading_8 (by decide) ?_
  refine lv_isub hx hb dX1_reading_9 ?_
  refine lv_istore_n (lv' := [(3, .int ((L.1 1 x1.toNatClampNeg) - (1 : Int32))), (2, .int (0 : Int32)), (0, .ref (q 0)), (1, .int x1)]) hx hb dX1_reading_10 rfl hl (by decide) rfl (fun ls hl => ?_)
  obtain ⟨n6, hw⟩ := hw
  exact t_X1_reading_11 hC q _ _ _ hP hD n6 _ _ hw ls (lv_sub hl [2, 3, 1, 0] rfl)
set_option maxHeartbeats 4000000 in
set_option maxRecDepth 100000 in
theorem c_X1_reading (l : Launch) (D : va_G) (cs : Nat → ClassId) (q : Nat → Nat) (sz : Nat) (L : LnS) (x1 : Int32) (Q : Int32 → Prop) (hw : wp_X1_reading L x1 Q) : Met l yX1_reading wsX1_reading ({ frames := 1, cells := 0, slots := 0, locals := 21 } : Room) (va_Pc [.ref (q 0), .int x1] (PC D cs (w_Line cs q L) sz)) (vp_Si Q) 0 0 (fun _ => False) := by
  refine Met.ofW (cc := cX1_reading) (maxL := 4) (ret := (some .int)) (by decide) rfl ?_
  intro p e s m args below meth c s₁ B hml hv
  obtain ⟨rfl, hsz, hP, hKK, hD0⟩ := hv
  have hC : MAt p s m _ meth c RX1 cX1_reading 4 (some .int) wsX1_reading D cs := ⟨B.exec, B.bytes, B.returns, hml, findClass_of_methodNamed B.named, atoms_spec (ws := wsX1_reading) B.pre, B.notSynchronized, hKK⟩
  have hl := lv_entry ([.ref (q 0), .int x1]) (n := 4) (Nat.le_of_ble_eq_true rfl)
  rw [lg_entry_eq]
  generalize (lg_sl ([.ref (q 0), .int x1]) ++ List.replicate (4 - (lg_sl ([.ref (q 0), .int x1])).length) Slot.unset).toArray = ls at hl ⊢
  exact t_X1_reading hC q L x1 Q hw hP hD0 ls hl
theorem h_X1_X1_fullReading : ∀ w ∈ u_ws RX1 TX1 13, w ∈ wsX1_fullReading := fun _ h => List.mem_cons_of_mem _ (List.mem_append_right _ h)
set_option maxHeartbeats 4000000 in
set_option maxRecDepth 100000 in
theorem t_X1_fullReading_12 {p : Program} {l : Launch} {e : Env} {s : State} {m : MethodId} {args : Array Value} {below : List Frame} {meth : Method} {c : Code} {D : va_G} {cs : Nat → ClassId} {A : Nat → Prop} (hC : MAt p s m args meth c RX1 cX1_fullReading 6 (some .long) wsX1_fullReading D cs) (q : Nat → Nat) (L : LnS) (x1 : Int32) (Q : Int64 → Prop) (hP : va_P D vwCl (w_Line cs q L) s.heap) (hD : va_D A (w_Line cs q L)) : ∀ (n : Nat) (x2 : Int64) (x4 : Int32), wl_X1_fullReading_12 L x1 Q n x2 x4 → ∀ ls : Array Slot, lv_has ls 6 [(0, .ref (q 0)), (1, .int x1), (2, .long x2), (4, .int x4)] → W p l e ({ frames := 1, cells := 0, slots := 0, locals := 21 } : Room) s m args below meth c s.heap [] 0 0 (MQ below (vp_Sl Q) args s 0 0 (fun _ => False)) (F0 m 12 ls []) := by
  obtain ⟨hx, hb, hr, hml, hown, hts, hlocks, hKK⟩ := id hC
  have hK := hKK.1
  intro n
  induction n with
  | zero =>
    intro x2 x4 hw
    exact False.elim hw
  | succ n ih =>
    intro x2 x4 hw ls hl
    refine lv_iload hx hb dX1_fullReading_12 (lv_at hl 3 rfl) ?_
    refine lv_if_lt (tgt := 55) hx hb dX1_fullReading_14 (by decide) (fun c2 => ?_) (fun c2 => ?_)
    · have hw := hw.1 c2
      refine lv_lload_n hx hb dX1_fullReading_55 rfl (lv_at hl 2 rfl) ?_
      exact W.lret (v := x2) hx hb hr (fun t ht hW => ⟨x2, rfl, hw, ht⟩) (fun q h => nomatch h) dX1_fullReading_56 hlocks
    · have hw := hw.2 c2
      refine lv_iload_n hx hb dX1_fullReading_17 rfl (lv_at hl 1 rfl) ?_
      refine lv_iload hx hb dX1_fullReading_18 (lv_at hl 3 rfl) ?_
      have hPc := hP.sub (ws' := ([] : va_W)) [] rfl
      have hDc := hD.sub (ws' := ([] : va_W)) [] (by decide) rfl
      refine z_calli (va_runSN (As := [.int x1, .int x4]) (rest := []) ⟨hx, hb, hml, hown, hts⟩ (c_X3_cellOf l D cs  s.heap.size x1 x4 _ hw) ⟨va_cnB 2 hts gX1_fullReading_X3_cellOf_n66 rfl rfl rfl hKK.2.2.1 (z_w hts 6 rfl) (by decide +kernel) ⟨Nat.le_of_ble_eq_true rfl, Nat.le_of_ble_eq_true rfl⟩, z_w hts 5 rfl, trivial⟩ (PC_S hPc hDc hKK) rfl rfl hl.1 rfl (lv_room (Nat.le_of_ble_eq_true rfl)) dX1_fullReading_20 ⟨Nat.le_of_ble_eq_true rfl, Nat.le_of_ble_eq_true rfl⟩) (fun r3 hw => ?_)
      refine lv_istore (lv' := [(5, .int r3), (0, .ref (q 0)), (1, .int x1), (2, .long x2), (4, .int x4)]) hx hb dX1_fullReading_23 hl (by decide) rfl (fun ls hl => ?_)
      refine lv_lload_n hx hb dX1_fullReading_25 rfl (lv_at hl 3 rfl) ?_
      refine lv_ldc2 (v := (3 : Int64)) hx hb hown (z_w hts 2 (w := .constantLong RX1 70 (3)) rfl) dX1_fullReading_26 ?_
      refine lv_lmul hx hb dX1_fullReading_29 ?_
      refine lv_aload_n hx hb dX1_fullReading_30 rfl (lv_at hl 1 rfl) ?_
      refine va_get (D := D) (ci := 1) (v := .ref (q 4)) (C := RX1) (T := TX1) (N := 13) hx hb hts (h_X1_X1_fullReading) hown hK hP 0 rfl rfl 7 (by decide) (z_w hts 3 rfl) (fun _ h9 => h9) rfl dX1_fullReading_31 ?_
      refine lv_iload hx hb dX1_fullReading_34 (lv_at hl 0 rfl) ?_
      obtain ⟨h4, hw⟩ := hw
      refine va_iald hx hb hK hP 4 0 rfl rfl h4 dX1_fullReading_36 ?_
      refine lv_i2l (v := (L.1 4 r3.toNatClampNeg).toInt64) hx hb dX1_fullReading_37 rfl ?_
      refine lv_ladd hx hb dX1_fullReading_38 ?_
      refine lv_aload_n hx hb dX1_fullReading_39 rfl (lv_at hl 1 rfl) ?_
      refine va_get (D := D) (ci := 1) (v := .ref (q 5)) (C := RX1) (T := TX1) (N := 13) hx hb hts (h_X1_X1_fullReading) hown hK hP 0 rfl rfl 8 (by decide) (z_w hts 4 rfl) (fun _ h9 => h9) rfl dX1_fullReading_40 ?_
      refine lv_iload hx hb dX1_fullReading_43 (lv_at hl 0 rfl) ?_
      obtain ⟨h5, hw⟩ := hw
      refine va_iald hx hb hK hP 5 0 rfl rfl h5 dX1_fullReading_45 ?_
      refine lv_i2l (v := (L.1 5 r3.toNatClampNeg).toInt64) hx hb dX1_fullReading_46 rfl ?_
      refine lv_ladd hx hb dX1_fullReading_47 ?_
      refine lv_topl (fun y6 ey6 => ?_)
      have hw := hw y6 ey6
      refine lv_lstore_n (lv' := [(2, .long y6), (5, .int r3), (0, .ref (q 0)), (1, .int x1), (4, .int x4)]) hx hb dX1_fullReading_48 rfl hl (by decide) rfl (fun ls hl => ?_)
      refine lv_iinc (v := x4 + (-1)) (lv' := [(4, .int (x4 + (-1))), (2, .long y6), (5, .int r3), (0, .ref (q 0)), (1, .int x1)]) hx hb dX1_fullReading_49 hl (k := 4) rfl rfl (by decide) rfl (fun ls hl => ?_)
      refine lv_goto (tgt := 12) hx hb dX1_fullReading_52 (by decide) ?_
      exact ih _ _ hw ls (lv_sub hl [3, 4, 1, 0] rfl)
set_option maxHeartbeats 4000000 in
set_option maxRecDepth 100000 in
theorem t_X1_fullReading {p : Program} {l : Launch} {e : Env} {s : State} {m : MethodId} {args : Array Value} {below : List Frame} {meth : Method} {c : Code} {D : va_G} {cs : Nat → ClassId} {A : Nat → Prop} (hC : MAt p s m args meth c RX1 cX1_fullReading 6 (some .long) wsX1_fullReading D cs) (q : Nat → Nat) (L : LnS) (x1 : Int32) (Q : Int64 → Prop) (hw : wp_X1_fullReading L x1 Q) (hP : va_P D vwCl (w_Line cs q L) s.heap) (hD : va_D A (w_Line cs q L)) (ls : Array Slot) (hl : lv_has ls 6 [(0, .ref (q 0)), (1, .int x1)]) : W p l e ({ frames := 1, cells := 0, slots := 0, locals := 21 } : Room) s m args below meth c s.heap [] 0 0 (MQ below (vp_Sl Q) args s 0 0 (fun _ => False)) (F0 m 0 ls []) := by
  obtain ⟨hx, hb, hr, hml, hown, hts, hlocks, hKK⟩ := id hC
  have hK := hKK.1
  refine lv_lconst (v := (0 : Int64)) hx hb dX1_fullReading_0 (by decide) ?_
  refine lv_lstore_n (lv' := [(2, .long (0 : Int64)), (0, .ref (q 0)), (1, .int x1)]) hx hb dX1_fullReading_1 rfl hl (by decide) rfl (fun ls hl => ?_)
  refine lv_aload_n hx hb dX1_fullReading_2 rfl (lv_at hl 1 rfl) ?_
  refine va_get (D := D) (ci := 1) (v := .ref (q 1)) (C := RX1) (T := TX1) (N := 13) hx hb hts (h_X1_X1_fullReading) hown hK hP 0 rfl rfl 4 (by decide) (z_w hts 1 rfl) (fun _ h9 => h9) rfl dX1_fullReading_3 ?_
  refine lv_iload_n hx hb dX1_fullReading_6 rfl (lv_at hl 2 rfl) ?_
  obtain ⟨h1, hw⟩ := hw
  refine va_iald hx hb hK hP 1 0 rfl rfl h1 dX1_fullReading_7 ?_
  refine lv_iconst (v := (1 : Int32)) hx hb dX1_fullReading_8 (by decide) ?_
  refine lv_isub hx hb dX1_fullReading_9 ?_
  refine lv_istore (lv' := [(4, .int ((L.1 1 x1.toNatClampNeg) - (1 : Int32))), (2, .long (0 : Int64)), (0, .ref (q 0)), (1, .int x1)]) hx hb dX1_fullReading_10 hl (by decide) rfl (fun ls hl => ?_)
  obtain ⟨n7, hw⟩ := hw
  exact t_X1_fullReading_12 hC q _ _ _ hP hD n7 _ _ hw ls (lv_sub hl [2, 3, 1, 0] rfl)
set_option maxHeartbeats 4000000 in
set_option maxRecDepth 100000 in
theorem c_X1_fullReading (l : Launch) (D : va_G) (cs : Nat → ClassId) (q : Nat → Nat) (sz : Nat) (L : LnS) (x1 : Int32) (Q : Int64 → Prop) (hw : wp_X1_fullReading L x1 Q) : Met l yX1_fullReading wsX1_fullReading ({ frames := 1, cells := 0, slots := 0, locals := 21 } : Room) (va_Pc [.ref (q 0), .int x1] (PC D cs (w_Line cs q L) sz)) (vp_Sl Q) 0 0 (fun _ => False) := by
  refine Met.ofW (cc := cX1_fullReading) (maxL := 6) (ret := (some .long)) (by decide) rfl ?_
  intro p e s m args below meth c s₁ B hml hv
  obtain ⟨rfl, hsz, hP, hKK, hD0⟩ := hv
  have hC : MAt p s m _ meth c RX1 cX1_fullReading 6 (some .long) wsX1_fullReading D cs := ⟨B.exec, B.bytes, B.returns, hml, findClass_of_methodNamed B.named, atoms_spec (ws := wsX1_fullReading) B.pre, B.notSynchronized, hKK⟩
  have hl := lv_entry ([.ref (q 0), .int x1]) (n := 6) (Nat.le_of_ble_eq_true rfl)
  rw [lg_entry_eq]
  generalize (lg_sl ([.ref (q 0), .int x1]) ++ List.replicate (6 - (lg_sl ([.ref (q 0), .int x1])).length) Slot.unset).toArray = ls at hl ⊢
  exact t_X1_fullReading hC q L x1 Q hw hP hD0 ls hl
theorem h_X1_X1_digitSum : ∀ w ∈ u_ws RX1 TX1 13, w ∈ wsX1_digitSum := fun _ h => List.mem_cons_of_mem _ (List.mem_append_right _ h)
set_option maxHeartbeats 4000000 in
set_option maxRecDepth 100000 in
theorem t_X1_digitSum_4 {p : Program} {l : Launch} {e : Env} {s : State} {m : MethodId} {args : Array Value} {below : List Frame} {meth : Method} {c : Code} {D : va_G} {cs : Nat → ClassId} {A : Nat → Prop} (hC : MAt p s m args meth c RX1 cX1_digitSum 4 (some .int) wsX1_digitSum D cs) (q : Nat → Nat) (L : LnS) (x1 : Int32) (Q : Int32 → Prop) (hP : va_P D vwCl (w_Line cs q L) s.heap) (hD : va_D A (w_Line cs q L)) : ∀ (n : Nat) (x2 : Int32) (x3 : Int32), wl_X1_digitSum_4 L x1 Q n x2 x3 → ∀ ls : Array Slot, lv_has ls 4 [(0, .ref (q 0)), (1, .int x1), (2, .int x2), (3, .int x3)] → W p l e ({ frames := 1, cells := 0, slots := 0, locals := 21 } : Room) s m args below meth c s.heap [] 0 0 (MQ below (vp_Si Q) args s 0 0 (fun _ => False)) (F0 m 4 ls []) := by
  obtain ⟨hx, hb, hr, hml, hown, hts, hlocks, hKK⟩ := id hC
  have hK := hKK.1
  intro n
  induction n with
  | zero =>
    intro x2 x3 hw
    exact False.elim hw
  | succ n ih =>
    intro x2 x3 hw ls hl
    refine lv_iload_n hx hb dX1_digitSum_4 rfl (lv_at hl 3 rfl) ?_
    refine lv_aload_n hx hb dX1_digitSum_5 rfl (lv_at hl 0 rfl) ?_
    refine va_get (D := D) (ci := 1) (v := .ref (q 1)) (C := RX1) (T := TX1) (N := 13) hx hb hts (h_X1_X1_digitSum) hown hK hP 0 rfl rfl 4 (by decide) (z_w hts 1 rfl) (fun _ h9 => h9) rfl dX1_digitSum_6 ?_
    refine lv_iload_n hx hb dX1_digitSum_9 rfl (lv_at hl 1 rfl) ?_
    obtain ⟨h1, hw⟩ := hw
    refine va_iald hx hb hK hP 1 0 rfl rfl h1 dX1_digitSum_10 ?_
    refine lv_icmp_ge (tgt := 33) hx hb dX1_digitSum_11 (by decide) (fun c2 => ?_) (fun c2 => ?_)
    · have hw := hw.1 c2
      refine lv_iload_n hx hb dX1_digitSum_33 rfl (lv_at hl 2 rfl) ?_
      exact W.iret (v := x2) hx hb hr (fun t ht hW => ⟨x2, rfl, hw, ht⟩) (fun q h => nomatch h) dX1_digitSum_34 hlocks
    · have hw := hw.2 c2
      refine lv_iload_n hx hb dX1_digitSum_14 rfl (lv_at hl 2 rfl) ?_
      refine lv_aload_n hx hb dX1_digitSum_15 rfl (lv_at hl 0 rfl) ?_
      refine va_get (D := D) (ci := 1) (v := .ref (q 4)) (C := RX1) (T := TX1) (N := 13) hx hb hts (h_X1_X1_digitSum) hown hK hP 0 rfl rfl 7 (by decide) (z_w hts 2 rfl) (fun _ h9 => h9) rfl dX1_digitSum_16 ?_
      refine lv_iload_n hx hb dX1_digitSum_19 rfl (lv_at hl 1 rfl) ?_
      refine lv_iload_n hx hb dX1_digitSum_20 rfl (lv_at hl 3 rfl) ?_
      have hPc := hP.sub (ws' := ([] : va_W)) [] rfl
      have hDc := hD.sub (ws' := ([] : va_W)) [] (by decide) rfl
      refine z_calli (va_runSN (As := [.int x1, .int x3]) (rest := [.ref (q 4), .int x2]) ⟨hx, hb, hml, hown, hts⟩ (c_X3_cellOf l D cs  s.heap.size x1 x3 _ hw) ⟨va_cnB 2 hts gX1_digitSum_X3_cellOf_n66 rfl rfl rfl hKK.2.2.1 (z_w hts 4 rfl) (by decide +kernel) ⟨Nat.le_of_ble_eq_true rfl, Nat.le_of_ble_eq_true rfl⟩, z_w hts 3 rfl, trivial⟩ (PC_S hPc hDc hKK) rfl rfl hl.1 rfl (lv_room (Nat.le_of_ble_eq_true rfl)) dX1_digitSum_21 ⟨Nat.le_of_ble_eq_true rfl, Nat.le_of_ble_eq_true rfl⟩) (fun r3 hw => ?_)
      obtain ⟨h4, hw⟩ := hw
      refine va_iald hx hb hK hP 4 0 rfl rfl h4 dX1_digitSum_24 ?_
      refine lv_iadd hx hb dX1_digitSum_25 ?_
      refine lv_istore_n (lv' := [(2, .int (x2 + (L.1 4 r3.toNatClampNeg))), (0, .ref (q 0)), (1, .int x1), (3, .int x3)]) hx hb dX1_digitSum_26 rfl hl (by decide) rfl (fun ls hl => ?_)
      refine lv_iinc (v := x3 + 1) (lv' := [(3, .int (x3 + 1)), (2, .int (x2 + (L.1 4 r3.toNatClampNeg))), (0, .ref (q 0)), (1, .int x1)]) hx hb dX1_digitSum_27 hl (k := 3) rfl rfl (by decide) rfl (fun ls hl => ?_)
      refine lv_goto (tgt := 4) hx hb dX1_digitSum_30 (by decide) ?_
      exact ih _ _ hw ls (lv_sub hl [2, 3, 1, 0] rfl)
set_option maxHeartbeats 4000000 in
set_option maxRecDepth 100000 in
theorem t_X1_digitSum {p : Program} {l : Launch} {e : Env} {s : State} {m : MethodId} {args : Array Value} {below : List Frame} {meth : Method} {c : Code} {D : va_G} {cs : Nat → ClassId} {A : Nat → Prop} (hC : MAt p s m args meth c RX1 cX1_digitSum 4 (some .int) wsX1_digitSum D cs) (q : Nat → Nat) (L : LnS) (x1 : Int32) (Q : Int32 → Prop) (hw : wp_X1_digitSum L x1 Q) (hP : va_P D vwCl (w_Line cs q L) s.heap) (hD : va_D A (w_Line cs q L)) (ls : Array Slot) (hl : lv_has ls 4 [(0, .ref (q 0)), (1, .int x1)]) : W p l e ({ frames := 1, cells := 0, slots := 0, locals := 21 } : Room) s m args below meth c s.heap [] 0 0 (MQ below (vp_Si Q) args s 0 0 (fun _ => False)) (F0 m 0 ls []) := by
  obtain ⟨hx, hb, hr, hml, hown, hts, hlocks, hKK⟩ := id hC
  have hK := hKK.1
  refine lv_iconst (v := (0 : Int32)) hx hb dX1_digitSum_0 (by decide) ?_
  refine lv_istore_n (lv' := [(2, .int (0 : Int32)), (0, .ref (q 0)), (1, .int x1)]) hx hb dX1_digitSum_1 rfl hl (by decide) rfl (fun ls hl => ?_)
  refine lv_iconst (v := (0 : Int32)) hx hb dX1_digitSum_2 (by decide) ?_
  refine lv_istore_n (lv' := [(3, .int (0 : Int32)), (2, .int (0 : Int32)), (0, .ref (q 0)), (1, .int x1)]) hx hb dX1_digitSum_3 rfl hl (by decide) rfl (fun ls hl => ?_)
  obtain ⟨n5, hw⟩ := hw
  exact t_X1_digitSum_4 hC q _ _ _ hP hD n5 _ _ hw ls (lv_sub hl [2, 3, 1, 0] rfl)
set_option maxHeartbeats 4000000 in
set_option maxRecDepth 100000 in
theorem c_X1_digitSum (l : Launch) (D : va_G) (cs : Nat → ClassId) (q : Nat → Nat) (sz : Nat) (L : LnS) (x1 : Int32) (Q : Int32 → Prop) (hw : wp_X1_digitSum L x1 Q) : Met l yX1_digitSum wsX1_digitSum ({ frames := 1, cells := 0, slots := 0, locals := 21 } : Room) (va_Pc [.ref (q 0), .int x1] (PC D cs (w_Line cs q L) sz)) (vp_Si Q) 0 0 (fun _ => False) := by
  refine Met.ofW (cc := cX1_digitSum) (maxL := 4) (ret := (some .int)) (by decide) rfl ?_
  intro p e s m args below meth c s₁ B hml hv
  obtain ⟨rfl, hsz, hP, hKK, hD0⟩ := hv
  have hC : MAt p s m _ meth c RX1 cX1_digitSum 4 (some .int) wsX1_digitSum D cs := ⟨B.exec, B.bytes, B.returns, hml, findClass_of_methodNamed B.named, atoms_spec (ws := wsX1_digitSum) B.pre, B.notSynchronized, hKK⟩
  have hl := lv_entry ([.ref (q 0), .int x1]) (n := 4) (Nat.le_of_ble_eq_true rfl)
  rw [lg_entry_eq]
  generalize (lg_sl ([.ref (q 0), .int x1]) ++ List.replicate (4 - (lg_sl ([.ref (q 0), .int x1])).length) Slot.unset).toArray = ls at hl ⊢
  exact t_X1_digitSum hC q L x1 Q hw hP hD0 ls hl
theorem h_X1_X1_waitingAt : ∀ w ∈ u_ws RX1 TX1 13, w ∈ wsX1_waitingAt := fun _ h => List.mem_cons_of_mem _ (List.mem_append_right _ h)
set_option maxHeartbeats 4000000 in
set_option maxRecDepth 100000 in
theorem t_X1_waitingAt_4 {p : Program} {l : Launch} {e : Env} {s : State} {m : MethodId} {args : Array Value} {below : List Frame} {meth : Method} {c : Code} {D : va_G} {cs : Nat → ClassId} {A : Nat → Prop} (hC : MAt p s m args meth c RX1 cX1_waitingAt 4 (some .int) wsX1_waitingAt D cs) (q : Nat → Nat) (L : LnS) (x1 : Int32) (Q : Int32 → Prop) (hP : va_P D vwCl (w_Line cs q L) s.heap) (hD : va_D A (w_Line cs q L)) : ∀ (n : Nat) (x2 : Int32) (x3 : Int32), wl_X1_waitingAt_4 L x1 Q n x2 x3 → ∀ ls : Array Slot, lv_has ls 4 [(0, .ref (q 0)), (1, .int x1), (2, .int x2), (3, .int x3)] → W p l e ({ frames := 1, cells := 0, slots := 0, locals := 21 } : Room) s m args below meth c s.heap [] 0 0 (MQ below (vp_Si Q) args s 0 0 (fun _ => False)) (F0 m 4 ls []) := by
  obtain ⟨hx, hb, hr, hml, hown, hts, hlocks, hKK⟩ := id hC
  have hK := hKK.1
  intro n
  induction n with
  | zero =>
    intro x2 x3 hw
    exact False.elim hw
  | succ n ih =>
    intro x2 x3 hw ls hl
    refine lv_iload_n hx hb dX1_waitingAt_4 rfl (lv_at hl 3 rfl) ?_
    refine lv_aload_n hx hb dX1_waitingAt_5 rfl (lv_at hl 0 rfl) ?_
    refine va_get (D := D) (ci := 1) (v := .ref (q 1)) (C := RX1) (T := TX1) (N := 13) hx hb hts (h_X1_X1_waitingAt) hown hK hP 0 rfl rfl 4 (by decide) (z_w hts 1 rfl) (fun _ h9 => h9) rfl dX1_waitingAt_6 ?_
    refine lv_iload_n hx hb dX1_waitingAt_9 rfl (lv_at hl 1 rfl) ?_
    obtain ⟨h1, hw⟩ := hw
    refine va_iald hx hb hK hP 1 0 rfl rfl h1 dX1_waitingAt_10 ?_
    refine lv_icmp_ge (tgt := 36) hx hb dX1_waitingAt_11 (by decide) (fun c2 => ?_) (fun c2 => ?_)
    · have hw := hw.1 c2
      refine lv_iload_n hx hb dX1_waitingAt_36 rfl (lv_at hl 2 rfl) ?_
      exact W.iret (v := x2) hx hb hr (fun t ht hW => ⟨x2, rfl, hw, ht⟩) (fun q h => nomatch h) dX1_waitingAt_37 hlocks
    · have hw := hw.2 c2
      refine lv_aload_n hx hb dX1_waitingAt_14 rfl (lv_at hl 0 rfl) ?_
      refine va_get (D := D) (ci := 1) (v := .ref (q 5)) (C := RX1) (T := TX1) (N := 13) hx hb hts (h_X1_X1_waitingAt) hown hK hP 0 rfl rfl 8 (by decide) (z_w hts 2 rfl) (fun _ h9 => h9) rfl dX1_waitingAt_15 ?_
      refine lv_iload_n hx hb dX1_waitingAt_18 rfl (lv_at hl 1 rfl) ?_
      refine lv_iload_n hx hb dX1_waitingAt_19 rfl (lv_at hl 3 rfl) ?_
      have hPc := hP.sub (ws' := ([] : va_W)) [] rfl
      have hDc := hD.sub (ws' := ([] : va_W)) [] (by decide) rfl
      refine z_calli (va_runSN (As := [.int x1, .int x3]) (rest := [.ref (q 5)]) ⟨hx, hb, hml, hown, hts⟩ (c_X3_cellOf l D cs  s.heap.size x1 x3 _ hw) ⟨va_cnB 2 hts gX1_waitingAt_X3_cellOf_n66 rfl rfl rfl hKK.2.2.1 (z_w hts 4 rfl) (by decide +kernel) ⟨Nat.le_of_ble_eq_true rfl, Nat.le_of_ble_eq_true rfl⟩, z_w hts 3 rfl, trivial⟩ (PC_S hPc hDc hKK) rfl rfl hl.1 rfl (lv_room (Nat.le_of_ble_eq_true rfl)) dX1_waitingAt_20 ⟨Nat.le_of_ble_eq_true rfl, Nat.le_of_ble_eq_true rfl⟩) (fun r3 hw => ?_)
      obtain ⟨h4, hw⟩ := hw
      refine va_iald hx hb hK hP 5 0 rfl rfl h4 dX1_waitingAt_23 ?_
      refine lv_if_eq (tgt := 30) hx hb dX1_waitingAt_24 (by decide) (fun c5 => ?_) (fun c5 => ?_)
      · have hw := hw.1 c5
        refine lv_iinc (v := x3 + 1) (lv' := [(3, .int (x3 + 1)), (0, .ref (q 0)), (1, .int x1), (2, .int x2)]) hx hb dX1_waitingAt_30 hl (k := 3) rfl rfl (by decide) rfl (fun ls hl => ?_)
        refine lv_goto (tgt := 4) hx hb dX1_waitingAt_33 (by decide) ?_
        exact ih _ _ hw ls (lv_sub hl [1, 2, 3, 0] rfl)
      · have hw := hw.2 c5
        refine lv_iinc (v := x2 + 1) (lv' := [(2, .int (x2 + 1)), (0, .ref (q 0)), (1, .int x1), (3, .int x3)]) hx hb dX1_waitingAt_27 hl (k := 2) rfl rfl (by decide) rfl (fun ls hl => ?_)
        refine lv_iinc (v := x3 + 1) (lv' := [(3, .int (x3 + 1)), (2, .int (x2 + 1)), (0, .ref (q 0)), (1, .int x1)]) hx hb dX1_waitingAt_30 hl (k := 3) rfl rfl (by decide) rfl (fun ls hl => ?_)
        refine lv_goto (tgt := 4) hx hb dX1_waitingAt_33 (by decide) ?_
        exact ih _ _ hw ls (lv_sub hl [2, 3, 1, 0] rfl)
set_option maxHeartbeats 4000000 in
set_option maxRecDepth 100000 in
theorem t_X1_waitingAt {p : Program} {l : Launch} {e : Env} {s : State} {m : MethodId} {args : Array Value} {below : List Frame} {meth : Method} {c : Code} {D : va_G} {cs : Nat → ClassId} {A : Nat → Prop} (hC : MAt p s m args meth c RX1 cX1_waitingAt 4 (some .int) wsX1_waitingAt D cs) (q : Nat → Nat) (L : LnS) (x1 : Int32) (Q : Int32 → Prop) (hw : wp_X1_waitingAt L x1 Q) (hP : va_P D vwCl (w_Line cs q L) s.heap) (hD : va_D A (w_Line cs q L)) (ls : Array Slot) (hl : lv_has ls 4 [(0, .ref (q 0)), (1, .int x1)]) : W p l e ({ frames := 1, cells := 0, slots := 0, locals := 21 } : Room) s m args below meth c s.heap [] 0 0 (MQ below (vp_Si Q) args s 0 0 (fun _ => False)) (F0 m 0 ls []) := by
  obtain ⟨hx, hb, hr, hml, hown, hts, hlocks, hKK⟩ := id hC
  have hK := hKK.1
  refine lv_iconst (v := (0 : Int32)) hx hb dX1_waitingAt_0 (by decide) ?_
  refine lv_istore_n (lv' := [(2, .int (0 : Int32)), (0, .ref (q 0)), (1, .int x1)]) hx hb dX1_waitingAt_1 rfl hl (by decide) rfl (fun ls hl => ?_)
  refine lv_iconst (v := (0 : Int32)) hx hb dX1_waitingAt_2 (by decide) ?_
  refine lv_istore_n (lv' := [(3, .int (0 : Int32)), (2, .int (0 : Int32)), (0, .ref (q 0)), (1, .int x1)]) hx hb dX1_waitingAt_3 rfl hl (by decide) rfl (fun ls hl => ?_)
  obtain ⟨n6, hw⟩ := hw
  exact t_X1_waitingAt_4 hC q _ _ _ hP hD n6 _ _ hw ls (lv_sub hl [2, 3, 1, 0] rfl)
set_option maxHeartbeats 4000000 in
set_option maxRecDepth 100000 in
theorem c_X1_waitingAt (l : Launch) (D : va_G) (cs : Nat → ClassId) (q : Nat → Nat) (sz : Nat) (L : LnS) (x1 : Int32) (Q : Int32 → Prop) (hw : wp_X1_waitingAt L x1 Q) : Met l yX1_waitingAt wsX1_waitingAt ({ frames := 1, cells := 0, slots := 0, locals := 21 } : Room) (va_Pc [.ref (q 0), .int x1] (PC D cs (w_Line cs q L) sz)) (vp_Si Q) 0 0 (fun _ => False) := by
  refine Met.ofW (cc := cX1_waitingAt) (maxL := 4) (ret := (some .int)) (by decide) rfl ?_
  intro p e s m args below meth c s₁ B hml hv
  obtain ⟨rfl, hsz, hP, hKK, hD0⟩ := hv
  have hC : MAt p s m _ meth c RX1 cX1_waitingAt 4 (some .int) wsX1_waitingAt D cs := ⟨B.exec, B.bytes, B.returns, hml, findClass_of_methodNamed B.named, atoms_spec (ws := wsX1_waitingAt) B.pre, B.notSynchronized, hKK⟩
  have hl := lv_entry ([.ref (q 0), .int x1]) (n := 4) (Nat.le_of_ble_eq_true rfl)
  rw [lg_entry_eq]
  generalize (lg_sl ([.ref (q 0), .int x1]) ++ List.replicate (4 - (lg_sl ([.ref (q 0), .int x1])).length) Slot.unset).toArray = ls at hl ⊢
  exact t_X1_waitingAt hC q L x1 Q hw hP hD0 ls hl
theorem h_X1_X1_waitingInAll : ∀ w ∈ u_ws RX1 TX1 13, w ∈ wsX1_waitingInAll := fun _ h => List.mem_cons_of_mem _ (List.mem_append_right _ h)
set_option maxHeartbeats 4000000 in
set_option maxRecDepth 100000 in
theorem t_X1_waitingInAll_4 {p : Program} {l : Launch} {e : Env} {s : State} {m : MethodId} {args : Array Value} {below : List Frame} {meth : Method} {c : Code} {D : va_G} {cs : Nat → ClassId} {A : Nat → Prop} (hC : MAt p s m args meth c RX1 cX1_waitingInAll 3 (some .int) wsX1_waitingInAll D cs) (q : Nat → Nat) (L : LnS) (Q : Int32 → Prop) (hP : va_P D vwCl (w_Line cs q L) s.heap) (hD : va_D A (w_Line cs q L)) : ∀ (n : Nat) (x1 : Int32) (x2 : Int32), wl_X1_waitingInAll_4 L Q n x1 x2 → ∀ ls : Array Slot, lv_has ls 3 [(0, .ref (q 0)), (1, .int x1), (2, .int x2)] → W p l e ({ frames := 2, cells := 0, slots := 0, locals := 44 } : Room) s m args below meth c s.heap [] 0 0 (MQ below (vp_Si Q) args s 0 0 (fun _ => False)) (F0 m 4 ls []) := by
  obtain ⟨hx, hb, hr, hml, hown, hts, hlocks, hKK⟩ := id hC
  have hK := hKK.1
  intro n
  induction n with
  | zero =>
    intro x1 x2 hw
    exact False.elim hw
  | succ n ih =>
    intro x1 x2 hw ls hl
    refine lv_iload_n hx hb dX1_waitingInAll_4 rfl (lv_at hl 2 rfl) ?_
    refine lv_aload_n hx hb dX1_waitingInAll_5 rfl (lv_at hl 0 rfl) ?_
    refine va_get (D := D) (ci := 1) (v := .int (L.1 0 0)) (C := RX1) (T := TX1) (N := 13) hx hb hts (h_X1_X1_waitingInAll) hown hK hP 0 rfl rfl 0 (by decide) (z_w hts 1 rfl) (fun _ h9 => h9) rfl dX1_waitingInAll_6 ?_
    refine lv_icmp_ge (tgt := 26) hx hb dX1_waitingInAll_9 (by decide) (fun c1 => ?_) (fun c1 => ?_)
    · have hw := hw.1 c1
      refine lv_iload_n hx hb dX1_waitingInAll_26 rfl (lv_at hl 1 rfl) ?_
      exact W.iret (v := x1) hx hb hr (fun t ht hW => ⟨x1, rfl, hw, ht⟩) (fun q h => nomatch h) dX1_waitingInAll_27 hlocks
    · have hw := hw.2 c1
      refine lv_iload_n hx hb dX1_waitingInAll_12 rfl (lv_at hl 1 rfl) ?_
      refine lv_aload_n hx hb dX1_waitingInAll_13 rfl (lv_at hl 0 rfl) ?_
      refine lv_iload_n hx hb dX1_waitingInAll_14 rfl (lv_at hl 2 rfl) ?_
      refine z_calli (va_runV (As := [.int x2]) (rest := [.int x1]) ⟨hx, hb, hml, hown, hts⟩ (c_X1_waitingAt l D cs q s.heap.size L x2 _ hw) (cwV 1 hts gX1_waitingInAll_X1_waitingAt rfl rfl rfl (by decide +kernel) ⟨Nat.le_of_ble_eq_true rfl, Nat.le_of_ble_eq_true rfl⟩) (PC_V hP hD hKK 0 1 rfl rfl) rfl rfl hl.1 rfl (lv_room (Nat.le_of_ble_eq_true rfl)) dX1_waitingInAll_15 ⟨Nat.le_of_ble_eq_true rfl, Nat.le_of_ble_eq_true rfl⟩) (fun r2 hw => ?_)
      refine lv_iadd hx hb dX1_waitingInAll_18 ?_
      refine lv_istore_n (lv' := [(1, .int (x1 + r2)), (0, .ref (q 0)), (2, .int x2)]) hx hb dX1_waitingInAll_19 rfl hl (by decide) rfl (fun ls hl => ?_)
      refine lv_iinc (v := x2 + 1) (lv' := [(2, .int (x2 + 1)), (1, .int (x1 + r2)), (0, .ref (q 0))]) hx hb dX1_waitingInAll_20 hl (k := 2) rfl rfl (by decide) rfl (fun ls hl => ?_)
      refine lv_goto (tgt := 4) hx hb dX1_waitingInAll_23 (by decide) ?_
      exact ih _ _ hw ls (lv_sub hl [2, 1, 0] rfl)
set_option maxHeartbeats 4000000 in
set_option maxRecDepth 100000 in
theorem t_X1_waitingInAll {p : Program} {l : Launch} {e : Env} {s : State} {m : MethodId} {args : Array Value} {below : List Frame} {meth : Method} {c : Code} {D : va_G} {cs : Nat → ClassId} {A : Nat → Prop} (hC : MAt p s m args meth c RX1 cX1_waitingInAll 3 (some .int) wsX1_waitingInAll D cs) (q : Nat → Nat) (L : LnS) (Q : Int32 → Prop) (hw : wp_X1_waitingInAll L Q) (hP : va_P D vwCl (w_Line cs q L) s.heap) (hD : va_D A (w_Line cs q L)) (ls : Array Slot) (hl : lv_has ls 3 [(0, .ref (q 0))]) : W p l e ({ frames := 2, cells := 0, slots := 0, locals := 44 } : Room) s m args below meth c s.heap [] 0 0 (MQ below (vp_Si Q) args s 0 0 (fun _ => False)) (F0 m 0 ls []) := by
  obtain ⟨hx, hb, hr, hml, hown, hts, hlocks, hKK⟩ := id hC
  have hK := hKK.1
  refine lv_iconst (v := (0 : Int32)) hx hb dX1_waitingInAll_0 (by decide) ?_
  refine lv_istore_n (lv' := [(1, .int (0 : Int32)), (0, .ref (q 0))]) hx hb dX1_waitingInAll_1 rfl hl (by decide) rfl (fun ls hl => ?_)
  refine lv_iconst (v := (0 : Int32)) hx hb dX1_waitingInAll_2 (by decide) ?_
  refine lv_istore_n (lv' := [(2, .int (0 : Int32)), (1, .int (0 : Int32)), (0, .ref (q 0))]) hx hb dX1_waitingInAll_3 rfl hl (by decide) rfl (fun ls hl => ?_)
  obtain ⟨n3, hw⟩ := hw
  exact t_X1_waitingInAll_4 hC q _ _ hP hD n3 _ _ hw ls (lv_sub hl [2, 1, 0] rfl)
set_option maxHeartbeats 4000000 in
set_option maxRecDepth 100000 in
theorem c_X1_waitingInAll (l : Launch) (D : va_G) (cs : Nat → ClassId) (q : Nat → Nat) (sz : Nat) (L : LnS) (Q : Int32 → Prop) (hw : wp_X1_waitingInAll L Q) : Met l yX1_waitingInAll wsX1_waitingInAll ({ frames := 2, cells := 0, slots := 0, locals := 44 } : Room) (va_Pc [.ref (q 0)] (PC D cs (w_Line cs q L) sz)) (vp_Si Q) 0 0 (fun _ => False) := by
  refine Met.ofW (cc := cX1_waitingInAll) (maxL := 3) (ret := (some .int)) (by decide) rfl ?_
  intro p e s m args below meth c s₁ B hml hv
  obtain ⟨rfl, hsz, hP, hKK, hD0⟩ := hv
  have hC : MAt p s m _ meth c RX1 cX1_waitingInAll 3 (some .int) wsX1_waitingInAll D cs := ⟨B.exec, B.bytes, B.returns, hml, findClass_of_methodNamed B.named, atoms_spec (ws := wsX1_waitingInAll) B.pre, B.notSynchronized, hKK⟩
  have hl := lv_entry ([.ref (q 0)]) (n := 3) (Nat.le_of_ble_eq_true rfl)
  rw [lg_entry_eq]
  generalize (lg_sl ([.ref (q 0)]) ++ List.replicate (3 - (lg_sl ([.ref (q 0)])).length) Slot.unset).toArray = ls at hl ⊢
  exact t_X1_waitingInAll hC q L Q hw hP hD0 ls hl
set_option maxHeartbeats 4000000 in
set_option maxRecDepth 100000 in
theorem t_X1_isAtRest {p : Program} {l : Launch} {e : Env} {s : State} {m : MethodId} {args : Array Value} {below : List Frame} {meth : Method} {c : Code} {D : va_G} {cs : Nat → ClassId} {A : Nat → Prop} (hC : MAt p s m args meth c RX1 cX1_isAtRest 2 (some .boolean) wsX1_isAtRest D cs) (q : Nat → Nat) (L : LnS) (x1 : Int32) (Q : Int32 → Prop) (hw : wp_X1_isAtRest L x1 Q) (hP : va_P D vwCl (w_Line cs q L) s.heap) (hD : va_D A (w_Line cs q L)) (ls : Array Slot) (hl : lv_has ls 2 [(0, .ref (q 0)), (1, .int x1)]) : W p l e ({ frames := 2, cells := 0, slots := 0, locals := 44 } : Room) s m args below meth c s.heap [] 0 0 (MQ below (vp_Si (fun r => (r = 0 ∨ r = 1) ∧ Q r)) args s 0 0 (fun _ => False)) (F0 m 0 ls []) := by
  obtain ⟨hx, hb, hr, hml, hown, hts, hlocks, hKK⟩ := id hC
  have hK := hKK.1
  refine lv_aload_n hx hb dX1_isAtRest_0 rfl (lv_at hl 0 rfl) ?_
  refine lv_iload_n hx hb dX1_isAtRest_1 rfl (lv_at hl 1 rfl) ?_
  refine z_calli (va_runV (As := [.int x1]) (rest := []) ⟨hx, hb, hml, hown, hts⟩ (c_X1_waitingAt l D cs q s.heap.size L x1 _ hw) (cwV 1 hts gX1_isAtRest_X1_waitingAt rfl rfl rfl (by decide +kernel) ⟨Nat.le_of_ble_eq_true rfl, Nat.le_of_ble_eq_true rfl⟩) (PC_V hP hD hKK 0 1 rfl rfl) rfl rfl hl.1 rfl (lv_room (Nat.le_of_ble_eq_true rfl)) dX1_isAtRest_2 ⟨Nat.le_of_ble_eq_true rfl, Nat.le_of_ble_eq_true rfl⟩) (fun r1 hw => ?_)
  refine lv_if_ne (tgt := 12) hx hb dX1_isAtRest_5 (by decide) (fun c2 => ?_) (fun c2 => ?_)
  · have hw := hw.2 c2
    refine lv_iconst (v := (0 : Int32)) hx hb dX1_isAtRest_12 (by decide) ?_
    exact W.zret (v := (0 : Int32)) hx hb hr rfl (fun t ht hW => ⟨(0 : Int32), rfl, ⟨Or.inl rfl, hw⟩, ht⟩) (fun q h => nomatch h) dX1_isAtRest_13 hlocks
  · have hw := hw.1 c2
    refine lv_iconst (v := (1 : Int32)) hx hb dX1_isAtRest_8 (by decide) ?_
    refine lv_goto (tgt := 13) hx hb dX1_isAtRest_9 (by decide) ?_
    exact W.zret (v := (1 : Int32)) hx hb hr rfl (fun t ht hW => ⟨(1 : Int32), rfl, ⟨Or.inr rfl, hw⟩, ht⟩) (fun q h => nomatch h) dX1_isAtRest_13 hlocks
set_option maxHeartbeats 4000000 in
set_option maxRecDepth 100000 in
theorem c_X1_isAtRest (l : Launch) (D : va_G) (cs : Nat → ClassId) (q : Nat → Nat) (sz : Nat) (L : LnS) (x1 : Int32) (Q : Int32 → Prop) (hw : wp_X1_isAtRest L x1 Q) : Met l yX1_isAtRest wsX1_isAtRest ({ frames := 2, cells := 0, slots := 0, locals := 44 } : Room) (va_Pc [.ref (q 0), .int x1] (PC D cs (w_Line cs q L) sz)) (vp_Si (fun r => (r = 0 ∨ r = 1) ∧ Q r)) 0 0 (fun _ => False) := by
  refine Met.ofW (cc := cX1_isAtRest) (maxL := 2) (ret := (some .boolean)) (by decide) rfl ?_
  intro p e s m args below meth c s₁ B hml hv
  obtain ⟨rfl, hsz, hP, hKK, hD0⟩ := hv
  have hC : MAt p s m _ meth c RX1 cX1_isAtRest 2 (some .boolean) wsX1_isAtRest D cs := ⟨B.exec, B.bytes, B.returns, hml, findClass_of_methodNamed B.named, atoms_spec (ws := wsX1_isAtRest) B.pre, B.notSynchronized, hKK⟩
  have hl := lv_entry ([.ref (q 0), .int x1]) (n := 2) (Nat.le_of_ble_eq_true rfl)
  rw [lg_entry_eq]
  generalize (lg_sl ([.ref (q 0), .int x1]) ++ List.replicate (2 - (lg_sl ([.ref (q 0), .int x1])).length) Slot.unset).toArray = ls at hl ⊢
  exact t_X1_isAtRest hC q L x1 Q hw hP hD0 ls hl
theorem h_X1_X1_countersAtRest : ∀ w ∈ u_ws RX1 TX1 13, w ∈ wsX1_countersAtRest := fun _ h => List.mem_cons_of_mem _ (List.mem_append_right _ h)
set_option maxHeartbeats 4000000 in
set_option maxRecDepth 100000 in
theorem t_X1_countersAtRest_4 {p : Program} {l : Launch} {e : Env} {s : State} {m : MethodId} {args : Array Value} {below : List Frame} {meth : Method} {c : Code} {D : va_G} {cs : Nat → ClassId} {A : Nat → Prop} (hC : MAt p s m args meth c RX1 cX1_countersAtRest 3 (some .int) wsX1_countersAtRest D cs) (q : Nat → Nat) (L : LnS) (Q : Int32 → Prop) (hP : va_P D vwCl (w_Line cs q L) s.heap) (hD : va_D A (w_Line cs q L)) : ∀ (n : Nat) (x1 : Int32) (x2 : Int32), wl_X1_countersAtRest_4 L Q n x1 x2 → ∀ ls : Array Slot, lv_has ls 3 [(0, .ref (q 0)), (1, .int x1), (2, .int x2)] → W p l e ({ frames := 3, cells := 0, slots := 0, locals := 65 } : Room) s m args below meth c s.heap [] 0 0 (MQ below (vp_Si Q) args s 0 0 (fun _ => False)) (F0 m 4 ls []) := by
  obtain ⟨hx, hb, hr, hml, hown, hts, hlocks, hKK⟩ := id hC
  have hK := hKK.1
  intro n
  induction n with
  | zero =>
    intro x1 x2 hw
    exact False.elim hw
  | succ n ih =>
    intro x1 x2 hw ls hl
    refine lv_iload_n hx hb dX1_countersAtRest_4 rfl (lv_at hl 2 rfl) ?_
    refine lv_aload_n hx hb dX1_countersAtRest_5 rfl (lv_at hl 0 rfl) ?_
    refine va_get (D := D) (ci := 1) (v := .int (L.1 0 0)) (C := RX1) (T := TX1) (N := 13) hx hb hts (h_X1_X1_countersAtRest) hown hK hP 0 rfl rfl 0 (by decide) (z_w hts 1 rfl) (fun _ h9 => h9) rfl dX1_countersAtRest_6 ?_
    refine lv_icmp_ge (tgt := 29) hx hb dX1_countersAtRest_9 (by decide) (fun c1 => ?_) (fun c1 => ?_)
    · have hw := hw.1 c1
      refine lv_iload_n hx hb dX1_countersAtRest_29 rfl (lv_at hl 1 rfl) ?_
      exact W.iret (v := x1) hx hb hr (fun t ht hW => ⟨x1, rfl, hw, ht⟩) (fun q h => nomatch h) dX1_countersAtRest_30 hlocks
    · have hw := hw.2 c1
      refine lv_aload_n hx hb dX1_countersAtRest_12 rfl (lv_at hl 0 rfl) ?_
      refine lv_iload_n hx hb dX1_countersAtRest_13 rfl (lv_at hl 2 rfl) ?_
      refine z_calli (va_runV (As := [.int x2]) (rest := []) ⟨hx, hb, hml, hown, hts⟩ (c_X1_isAtRest l D cs q s.heap.size L x2 _ hw) (cwV 1 hts gX1_countersAtRest_X1_isAtRest rfl rfl rfl (by decide +kernel) ⟨Nat.le_of_ble_eq_true rfl, Nat.le_of_ble_eq_true rfl⟩) (PC_V hP hD hKK 0 1 rfl rfl) rfl rfl hl.1 rfl (lv_room (Nat.le_of_ble_eq_true rfl)) dX1_countersAtRest_14 ⟨Nat.le_of_ble_eq_true rfl, Nat.le_of_ble_eq_true rfl⟩) (fun r2 hw => ?_)
      obtain ⟨b2, hw⟩ := hw
      refine lv_if_eq (tgt := 23) hx hb dX1_countersAtRest_17 (by decide) (fun c3 => ?_) (fun c3 => ?_)
      · have hw := hw.1 c3
        refine lv_iinc (v := x2 + 1) (lv' := [(2, .int (x2 + 1)), (0, .ref (q 0)), (1, .int x1)]) hx hb dX1_countersAtRest_23 hl (k := 2) rfl rfl (by decide) rfl (fun ls hl => ?_)
        refine lv_goto (tgt := 4) hx hb dX1_countersAtRest_26 (by decide) ?_
        exact ih _ _ hw ls (lv_sub hl [1, 2, 0] rfl)
      · have hw := hw.2 c3
        refine lv_iinc (v := x1 + 1) (lv' := [(1, .int (x1 + 1)), (0, .ref (q 0)), (2, .int x2)]) hx hb dX1_countersAtRest_20 hl (k := 1) rfl rfl (by decide) rfl (fun ls hl => ?_)
        refine lv_iinc (v := x2 + 1) (lv' := [(2, .int (x2 + 1)), (1, .int (x1 + 1)), (0, .ref (q 0))]) hx hb dX1_countersAtRest_23 hl (k := 2) rfl rfl (by decide) rfl (fun ls hl => ?_)
        refine lv_goto (tgt := 4) hx hb dX1_countersAtRest_26 (by decide) ?_
        exact ih _ _ hw ls (lv_sub hl [2, 1, 0] rfl)
set_option maxHeartbeats 4000000 in
set_option maxRecDepth 100000 in
theorem t_X1_countersAtRest {p : Program} {l : Launch} {e : Env} {s : State} {m : MethodId} {args : Array Value} {below : List Frame} {meth : Method} {c : Code} {D : va_G} {cs : Nat → ClassId} {A : Nat → Prop} (hC : MAt p s m args meth c RX1 cX1_countersAtRest 3 (some .int) wsX1_countersAtRest D cs) (q : Nat → Nat) (L : LnS) (Q : Int32 → Prop) (hw : wp_X1_countersAtRest L Q) (hP : va_P D vwCl (w_Line cs q L) s.heap) (hD : va_D A (w_Line cs q L)) (ls : Array Slot) (hl : lv_has ls 3 [(0, .ref (q 0))]) : W p l e ({ frames := 3, cells := 0, slots := 0, locals := 65 } : Room) s m args below meth c s.heap [] 0 0 (MQ below (vp_Si Q) args s 0 0 (fun _ => False)) (F0 m 0 ls []) := by
  obtain ⟨hx, hb, hr, hml, hown, hts, hlocks, hKK⟩ := id hC
  have hK := hKK.1
  refine lv_iconst (v := (0 : Int32)) hx hb dX1_countersAtRest_0 (by decide) ?_
  refine lv_istore_n (lv' := [(1, .int (0 : Int32)), (0, .ref (q 0))]) hx hb dX1_countersAtRest_1 rfl hl (by decide) rfl (fun ls hl => ?_)
  refine lv_iconst (v := (0 : Int32)) hx hb dX1_countersAtRest_2 (by decide) ?_
  refine lv_istore_n (lv' := [(2, .int (0 : Int32)), (1, .int (0 : Int32)), (0, .ref (q 0))]) hx hb dX1_countersAtRest_3 rfl hl (by decide) rfl (fun ls hl => ?_)
  obtain ⟨n4, hw⟩ := hw
  exact t_X1_countersAtRest_4 hC q _ _ hP hD n4 _ _ hw ls (lv_sub hl [2, 1, 0] rfl)
set_option maxHeartbeats 4000000 in
set_option maxRecDepth 100000 in
theorem c_X1_countersAtRest (l : Launch) (D : va_G) (cs : Nat → ClassId) (q : Nat → Nat) (sz : Nat) (L : LnS) (Q : Int32 → Prop) (hw : wp_X1_countersAtRest L Q) : Met l yX1_countersAtRest wsX1_countersAtRest ({ frames := 3, cells := 0, slots := 0, locals := 65 } : Room) (va_Pc [.ref (q 0)] (PC D cs (w_Line cs q L) sz)) (vp_Si Q) 0 0 (fun _ => False) := by
  refine Met.ofW (cc := cX1_countersAtRest) (maxL := 3) (ret := (some .int)) (by decide) rfl ?_
  intro p e s m args below meth c s₁ B hml hv
  obtain ⟨rfl, hsz, hP, hKK, hD0⟩ := hv
  have hC : MAt p s m _ meth c RX1 cX1_countersAtRest 3 (some .int) wsX1_countersAtRest D cs := ⟨B.exec, B.bytes, B.returns, hml, findClass_of_methodNamed B.named, atoms_spec (ws := wsX1_countersAtRest) B.pre, B.notSynchronized, hKK⟩
  have hl := lv_entry ([.ref (q 0)]) (n := 3) (Nat.le_of_ble_eq_true rfl)
  rw [lg_entry_eq]
  generalize (lg_sl ([.ref (q 0)]) ++ List.replicate (3 - (lg_sl ([.ref (q 0)])).length) Slot.unset).toArray = ls at hl ⊢
  exact t_X1_countersAtRest hC q L Q hw hP hD0 ls hl
theorem h_X1_X1_linkedCounters : ∀ w ∈ u_ws RX1 TX1 13, w ∈ wsX1_linkedCounters := fun _ h => List.mem_cons_of_mem _ (List.mem_append_right _ h)
set_option maxHeartbeats 4000000 in
set_option maxRecDepth 100000 in
theorem t_X1_linkedCounters_4 {p : Program} {l : Launch} {e : Env} {s : State} {m : MethodId} {args : Array Value} {below : List Frame} {meth : Method} {c : Code} {D : va_G} {cs : Nat → ClassId} {A : Nat → Prop} (hC : MAt p s m args meth c RX1 cX1_linkedCounters 3 (some .int) wsX1_linkedCounters D cs) (q : Nat → Nat) (L : LnS) (Q : Int32 → Prop) (hP : va_P D vwCl (w_Line cs q L) s.heap) (hD : va_D A (w_Line cs q L)) : ∀ (n : Nat) (x1 : Int32) (x2 : Int32), wl_X1_linkedCounters_4 L Q n x1 x2 → ∀ ls : Array Slot, lv_has ls 3 [(0, .ref (q 0)), (1, .int x1), (2, .int x2)] → W p l e ({ frames := 0, cells := 0, slots := 0, locals := 0 } : Room) s m args below meth c s.heap [] 0 0 (MQ below (vp_Si Q) args s 0 0 (fun _ => False)) (F0 m 4 ls []) := by
  obtain ⟨hx, hb, hr, hml, hown, hts, hlocks, hKK⟩ := id hC
  have hK := hKK.1
  intro n
  induction n with
  | zero =>
    intro x1 x2 hw
    exact False.elim hw
  | succ n ih =>
    intro x1 x2 hw ls hl
    refine lv_iload_n hx hb dX1_linkedCounters_4 rfl (lv_at hl 2 rfl) ?_
    refine lv_aload_n hx hb dX1_linkedCounters_5 rfl (lv_at hl 0 rfl) ?_
    refine va_get (D := D) (ci := 1) (v := .int (L.1 0 0)) (C := RX1) (T := TX1) (N := 13) hx hb hts (h_X1_X1_linkedCounters) hown hK hP 0 rfl rfl 0 (by decide) (z_w hts 1 rfl) (fun _ h9 => h9) rfl dX1_linkedCounters_6 ?_
    refine lv_icmp_ge (tgt := 30) hx hb dX1_linkedCounters_9 (by decide) (fun c1 => ?_) (fun c1 => ?_)
    · have hw := hw.1 c1
      refine lv_iload_n hx hb dX1_linkedCounters_30 rfl (lv_at hl 1 rfl) ?_
      exact W.iret (v := x1) hx hb hr (fun t ht hW => ⟨x1, rfl, hw, ht⟩) (fun q h => nomatch h) dX1_linkedCounters_31 hlocks
    · have hw := hw.2 c1
      refine lv_aload_n hx hb dX1_linkedCounters_12 rfl (lv_at hl 0 rfl) ?_
      refine va_get (D := D) (ci := 1) (v := .ref (q 2)) (C := RX1) (T := TX1) (N := 13) hx hb hts (h_X1_X1_linkedCounters) hown hK hP 0 rfl rfl 5 (by decide) (z_w hts 2 rfl) (fun _ h9 => h9) rfl dX1_linkedCounters_13 ?_
      refine lv_iload_n hx hb dX1_linkedCounters_16 rfl (lv_at hl 2 rfl) ?_
      obtain ⟨h2, hw⟩ := hw
      refine va_zald hx hb hK hP 2 1 rfl rfl h2 dX1_linkedCounters_17 ?_
      refine lv_if_eq (tgt := 24) hx hb dX1_linkedCounters_18 (by decide) (fun c3 => ?_) (fun c3 => ?_)
      · have hw := hw.1 c3
        refine lv_iinc (v := x2 + 1) (lv' := [(2, .int (x2 + 1)), (0, .ref (q 0)), (1, .int x1)]) hx hb dX1_linkedCounters_24 hl (k := 2) rfl rfl (by decide) rfl (fun ls hl => ?_)
        refine lv_goto (tgt := 4) hx hb dX1_linkedCounters_27 (by decide) ?_
        exact ih _ _ hw ls (lv_sub hl [1, 2, 0] rfl)
      · have hw := hw.2 c3
        refine lv_iinc (v := x1 + 1) (lv' := [(1, .int (x1 + 1)), (0, .ref (q 0)), (2, .int x2)]) hx hb dX1_linkedCounters_21 hl (k := 1) rfl rfl (by decide) rfl (fun ls hl => ?_)
        refine lv_iinc (v := x2 + 1) (lv' := [(2, .int (x2 + 1)), (1, .int (x1 + 1)), (0, .ref (q 0))]) hx hb dX1_linkedCounters_24 hl (k := 2) rfl rfl (by decide) rfl (fun ls hl => ?_)
        refine lv_goto (tgt := 4) hx hb dX1_linkedCounters_27 (by decide) ?_
        exact ih _ _ hw ls (lv_sub hl [2, 1, 0] rfl)
set_option maxHeartbeats 4000000 in
set_option maxRecDepth 100000 in
theorem t_X1_linkedCounters {p : Program} {l : Launch} {e : Env} {s : State} {m : MethodId} {args : Array Value} {below : List Frame} {meth : Method} {c : Code} {D : va_G} {cs : Nat → ClassId} {A : Nat → Prop} (hC : MAt p s m args meth c RX1 cX1_linkedCounters 3 (some .int) wsX1_linkedCounters D cs) (q : Nat → Nat) (L : LnS) (Q : Int32 → Prop) (hw : wp_X1_linkedCounters L Q) (hP : va_P D vwCl (w_Line cs q L) s.heap) (hD : va_D A (w_Line cs q L)) (ls : Array Slot) (hl : lv_has ls 3 [(0, .ref (q 0))]) : W p l e ({ frames := 0, cells := 0, slots := 0, locals := 0 } : Room) s m args below meth c s.heap [] 0 0 (MQ below (vp_Si Q) args s 0 0 (fun _ => False)) (F0 m 0 ls []) := by
  obtain ⟨hx, hb, hr, hml, hown, hts, hlocks, hKK⟩ := id hC
  have hK := hKK.1
  refine lv_iconst (v := (0 : Int32)) hx hb dX1_linkedCounters_0 (by decide) ?_
  refine lv_istore_n (lv' := [(1, .int (0 : Int32)), (0, .ref (q 0))]) hx hb dX1_linkedCounters_1 rfl hl (by decide) rfl (fun ls hl => ?_)
  refine lv_iconst (v := (0 : Int32)) hx hb dX1_linkedCounters_2 (by decide) ?_
  refine lv_istore_n (lv' := [(2, .int (0 : Int32)), (1, .int (0 : Int32)), (0, .ref (q 0))]) hx hb dX1_linkedCounters_3 rfl hl (by decide) rfl (fun ls hl => ?_)
  obtain ⟨n4, hw⟩ := hw
  exact t_X1_linkedCounters_4 hC q _ _ hP hD n4 _ _ hw ls (lv_sub hl [2, 1, 0] rfl)
set_option maxHeartbeats 4000000 in
set_option maxRecDepth 100000 in
theorem c_X1_linkedCounters (l : Launch) (D : va_G) (cs : Nat → ClassId) (q : Nat → Nat) (sz : Nat) (L : LnS) (Q : Int32 → Prop) (hw : wp_X1_linkedCounters L Q) : Met l yX1_linkedCounters wsX1_linkedCounters ({ frames := 0, cells := 0, slots := 0, locals := 0 } : Room) (va_Pc [.ref (q 0)] (PC D cs (w_Line cs q L) sz)) (vp_Si Q) 0 0 (fun _ => False) := by
  refine Met.ofW (cc := cX1_linkedCounters) (maxL := 3) (ret := (some .int)) (by decide) rfl ?_
  intro p e s m args below meth c s₁ B hml hv
  obtain ⟨rfl, hsz, hP, hKK, hD0⟩ := hv
  have hC : MAt p s m _ meth c RX1 cX1_linkedCounters 3 (some .int) wsX1_linkedCounters D cs := ⟨B.exec, B.bytes, B.returns, hml, findClass_of_methodNamed B.named, atoms_spec (ws := wsX1_linkedCounters) B.pre, B.notSynchronized, hKK⟩
  have hl := lv_entry ([.ref (q 0)]) (n := 3) (Nat.le_of_ble_eq_true rfl)
  rw [lg_entry_eq]
  generalize (lg_sl ([.ref (q 0)]) ++ List.replicate (3 - (lg_sl ([.ref (q 0)])).length) Slot.unset).toArray = ls at hl ⊢
  exact t_X1_linkedCounters hC q L Q hw hP hD0 ls hl
theorem h_X1_X1_countersAheadOf : ∀ w ∈ u_ws RX1 TX1 13, w ∈ wsX1_countersAheadOf := fun _ h => List.mem_cons_of_mem _ (List.mem_append_right _ h)
set_option maxHeartbeats 4000000 in
set_option maxRecDepth 100000 in
theorem t_X1_countersAheadOf_25 {p : Program} {l : Launch} {e : Env} {s : State} {m : MethodId} {args : Array Value} {below : List Frame} {meth : Method} {c : Code} {D : va_G} {cs : Nat → ClassId} {A : Nat → Prop} (hC : MAt p s m args meth c RX1 cX1_countersAheadOf 9 (some .int) wsX1_countersAheadOf D cs) (q : Nat → Nat) (L : LnS) (x1 : Int32) (x2 : Int32) (x3 : Int64) (Q : Int32 → Prop) (hP : va_P D vwCl (w_Line cs q L) s.heap) (hD : va_D A (w_Line cs q L)) : ∀ (n : Nat) (x5 : Int32) (x6 : Int32), wl_X1_countersAheadOf_25 L x1 x2 x3 Q n x5 x6 → ∀ ls : Array Slot, lv_has ls 9 [(0, .ref (q 0)), (1, .int x1), (2, .int x2), (3, .long x3), (5, .int x5), (6, .int x6)] → W p l e ({ frames := 2, cells := 0, slots := 0, locals := 46 } : Room) s m args below meth c s.heap [] 0 0 (MQ below (vp_Si Q) args s 0 0 (fun _ => False)) (F0 m 25 ls []) := by
  obtain ⟨hx, hb, hr, hml, hown, hts, hlocks, hKK⟩ := id hC
  have hK := hKK.1
  intro n
  induction n with
  | zero =>
    intro x5 x6 hw
    exact False.elim hw
  | succ n ih =>
    intro x5 x6 hw ls hl
    refine lv_iload hx hb dX1_countersAheadOf_25 (lv_at hl 5 rfl) ?_
    refine lv_aload_n hx hb dX1_countersAheadOf_27 rfl (lv_at hl 0 rfl) ?_
    refine va_get (D := D) (ci := 1) (v := .int (L.1 0 0)) (C := RX1) (T := TX1) (N := 13) hx hb hts (h_X1_X1_countersAheadOf) hown hK hP 0 rfl rfl 0 (by decide) (z_w hts 1 rfl) (fun _ h9 => h9) rfl dX1_countersAheadOf_28 ?_
    refine lv_icmp_ge (tgt := 85) hx hb dX1_countersAheadOf_31 (by decide) (fun c3 => ?_) (fun c3 => ?_)
    · have hw := hw.1 c3
      refine lv_iload hx hb dX1_countersAheadOf_85 (lv_at hl 4 rfl) ?_
      exact W.iret (v := x5) hx hb hr (fun t ht hW => ⟨x5, rfl, hw, ht⟩) (fun q h => nomatch h) dX1_countersAheadOf_87 hlocks
    · have hw := hw.2 c3
      refine lv_iload_n hx hb dX1_countersAheadOf_34 rfl (lv_at hl 2 rfl) ?_
      refine lv_if_eq (tgt := 47) hx hb dX1_countersAheadOf_35 (by decide) (fun c4 => ?_) (fun c4 => ?_)
      · have hw := hw.1 c4
        refine lv_aload_n hx hb dX1_countersAheadOf_47 rfl (lv_at hl 0 rfl) ?_
        refine lv_iload hx hb dX1_countersAheadOf_48 (lv_at hl 5 rfl) ?_
        refine z_calli (va_runV (As := [.int x6]) (rest := []) ⟨hx, hb, hml, hown, hts⟩ (c_X1_reading l D cs q s.heap.size L x6 _ hw) (cwV 1 hts gX1_countersAheadOf_X1_reading rfl rfl rfl (by decide +kernel) ⟨Nat.le_of_ble_eq_true rfl, Nat.le_of_ble_eq_true rfl⟩) (PC_V hP hD hKK 0 1 rfl rfl) rfl rfl hl.1 rfl (lv_room (Nat.le_of_ble_eq_true rfl)) dX1_countersAheadOf_50 ⟨Nat.le_of_ble_eq_true rfl, Nat.le_of_ble_eq_true rfl⟩) (fun r5 hw => ?_)
        refine lv_i2l (v := r5.toInt64) hx hb dX1_countersAheadOf_53 rfl ?_
        refine lv_lstore (lv' := [(7, .long r5.toInt64), (0, .ref (q 0)), (1, .int x1), (2, .int x2), (3, .long x3), (5, .int x5), (6, .int x6)]) hx hb dX1_countersAheadOf_54 hl (by decide) rfl (fun ls hl => ?_)
        refine lv_lload hx hb dX1_countersAheadOf_56 (lv_at hl 0 rfl) ?_
        refine lv_lload_n hx hb dX1_countersAheadOf_58 rfl (lv_at hl 4 rfl) ?_
        refine W.lcmp hx hb dX1_countersAheadOf_59 ?_
        refine lv_if_gt (tgt := 76) hx hb dX1_countersAheadOf_60 (by decide) (fun c6 => ?_) (fun c6 => ?_)
        · have hw := hw.1 c6
          refine lv_iinc (v := x5 + 1) (lv' := [(5, .int (x5 + 1)), (7, .long r5.toInt64), (0, .ref (q 0)), (1, .int x1), (2, .int x2), (3, .long x3), (6, .int x6)]) hx hb dX1_countersAheadOf_76 hl (k := 5) rfl rfl (by decide) rfl (fun ls hl => ?_)
          refine lv_iinc (v := x6 + 1) (lv' := [(6, .int (x6 + 1)), (5, .int (x5 + 1)), (7, .long r5.toInt64), (0, .ref (q 0)), (1, .int x1), (2, .int x2), (3, .long x3)]) hx hb dX1_countersAheadOf_79 hl (k := 6) rfl rfl (by decide) rfl (fun ls hl => ?_)
          refine lv_goto (tgt := 25) hx hb dX1_countersAheadOf_82 (by decide) ?_
          exact ih _ _ hw ls (lv_sub hl [3, 4, 5, 6, 1, 0] rfl)
        · have hw := hw.2 c6
          refine lv_lload hx hb dX1_countersAheadOf_63 (lv_at hl 0 rfl) ?_
          refine lv_lload_n hx hb dX1_countersAheadOf_65 rfl (lv_at hl 4 rfl) ?_
          refine W.lcmp hx hb dX1_countersAheadOf_66 ?_
          refine lv_if_ne (tgt := 79) hx hb dX1_countersAheadOf_67 (by decide) (fun c7 => ?_) (fun c7 => ?_)
          · have hw := hw.2 c7
            refine lv_iinc (v := x6 + 1) (lv' := [(6, .int (x6 + 1)), (7, .long r5.toInt64), (0, .ref (q 0)), (1, .int x1), (2, .int x2), (3, .long x3), (5, .int x5)]) hx hb dX1_countersAheadOf_79 hl (k := 6) rfl rfl (by decide) rfl (fun ls hl => ?_)
            refine lv_goto (tgt := 25) hx hb dX1_countersAheadOf_82 (by decide) ?_
            exact ih _ _ hw ls (lv_sub hl [2, 3, 4, 5, 6, 0] rfl)
          · have hw := hw.1 c7
            refine lv_iload hx hb dX1_countersAheadOf_70 (lv_at hl 6 rfl) ?_
            refine lv_iload_n hx hb dX1_countersAheadOf_72 rfl (lv_at hl 2 rfl) ?_
            refine lv_icmp_ge (tgt := 79) hx hb dX1_countersAheadOf_73 (by decide) (fun c8 => ?_) (fun c8 => ?_)
            · have hw := hw.1 c8
              refine lv_iinc (v := x6 + 1) (lv' := [(6, .int (x6 + 1)), (7, .long r5.toInt64), (0, .ref (q 0)), (1, .int x1), (2, .int x2), (3, .long x3), (5, .int x5)]) hx hb dX1_countersAheadOf_79 hl (k := 6) rfl rfl (by decide) rfl (fun ls hl => ?_)
              refine lv_goto (tgt := 25) hx hb dX1_countersAheadOf_82 (by decide) ?_
              exact ih _ _ hw ls (lv_sub hl [2, 3, 4, 5, 6, 0] rfl)
            · have hw := hw.2 c8
              refine lv_iinc (v := x5 + 1) (lv' := [(5, .int (x5 + 1)), (7, .long r5.toInt64), (0, .ref (q 0)), (1, .int x1), (2, .int x2), (3, .long x3), (6, .int x6)]) hx hb dX1_countersAheadOf_76 hl (k := 5) rfl rfl (by decide) rfl (fun ls hl => ?_)
              refine lv_iinc (v := x6 + 1) (lv' := [(6, .int (x6 + 1)), (5, .int (x5 + 1)), (7, .long r5.toInt64), (0, .ref (q 0)), (1, .int x1), (2, .int x2), (3, .long x3)]) hx hb dX1_countersAheadOf_79 hl (k := 6) rfl rfl (by decide) rfl (fun ls hl => ?_)
              refine lv_goto (tgt := 25) hx hb dX1_countersAheadOf_82 (by decide) ?_
              exact ih _ _ hw ls (lv_sub hl [3, 4, 5, 6, 1, 0] rfl)
      · have hw := hw.2 c4
        refine lv_aload_n hx hb dX1_countersAheadOf_38 rfl (lv_at hl 0 rfl) ?_
        refine lv_iload hx hb dX1_countersAheadOf_39 (lv_at hl 5 rfl) ?_
        refine z_calll (va_runV (As := [.int x6]) (rest := []) ⟨hx, hb, hml, hown, hts⟩ (c_X1_fullReading l D cs q s.heap.size L x6 _ hw) (cwV 1 hts gX1_countersAheadOf_X1_fullReading rfl rfl rfl (by decide +kernel) ⟨Nat.le_of_ble_eq_true rfl, Nat.le_of_ble_eq_true rfl⟩) (PC_V hP hD hKK 0 1 rfl rfl) rfl rfl hl.1 rfl (lv_room (Nat.le_of_ble_eq_true rfl)) dX1_countersAheadOf_41 ⟨Nat.le_of_ble_eq_true rfl, Nat.le_of_ble_eq_true rfl⟩) (fun r9 hw => ?_)
        refine lv_goto (tgt := 54) hx hb dX1_countersAheadOf_44 (by decide) ?_
        refine lv_lstore (lv' := [(7, .long r9), (0, .ref (q 0)), (1, .int x1), (2, .int x2), (3, .long x3), (5, .int x5), (6, .int x6)]) hx hb dX1_countersAheadOf_54 hl (by decide) rfl (fun ls hl => ?_)
        refine lv_lload hx hb dX1_countersAheadOf_56 (lv_at hl 0 rfl) ?_
        refine lv_lload_n hx hb dX1_countersAheadOf_58 rfl (lv_at hl 4 rfl) ?_
        refine W.lcmp hx hb dX1_countersAheadOf_59 ?_
        refine lv_if_gt (tgt := 76) hx hb dX1_countersAheadOf_60 (by decide) (fun c10 => ?_) (fun c10 => ?_)
        · have hw := hw.1 c10
          refine lv_iinc (v := x5 + 1) (lv' := [(5, .int (x5 + 1)), (7, .long r9), (0, .ref (q 0)), (1, .int x1), (2, .int x2), (3, .long x3), (6, .int x6)]) hx hb dX1_countersAheadOf_76 hl (k := 5) rfl rfl (by decide) rfl (fun ls hl => ?_)
          refine lv_iinc (v := x6 + 1) (lv' := [(6, .int (x6 + 1)), (5, .int (x5 + 1)), (7, .long r9), (0, .ref (q 0)), (1, .int x1), (2, .int x2), (3, .long x3)]) hx hb dX1_countersAheadOf_79 hl (k := 6) rfl rfl (by decide) rfl (fun ls hl => ?_)
          refine lv_goto (tgt := 25) hx hb dX1_countersAheadOf_82 (by decide) ?_
          exact ih _ _ hw ls (lv_sub hl [3, 4, 5, 6, 1, 0] rfl)
        · have hw := hw.2 c10
          refine lv_lload hx hb dX1_countersAheadOf_63 (lv_at hl 0 rfl) ?_
          refine lv_lload_n hx hb dX1_countersAheadOf_65 rfl (lv_at hl 4 rfl) ?_
          refine W.lcmp hx hb dX1_countersAheadOf_66 ?_
          refine lv_if_ne (tgt := 79) hx hb dX1_countersAheadOf_67 (by decide) (fun c11 => ?_) (fun c11 => ?_)
          · have hw := hw.2 c11
            refine lv_iinc (v := x6 + 1) (lv' := [(6, .int (x6 + 1)), (7, .long r9), (0, .ref (q 0)), (1, .int x1), (2, .int x2), (3, .long x3), (5, .int x5)]) hx hb dX1_countersAheadOf_79 hl (k := 6) rfl rfl (by decide) rfl (fun ls hl => ?_)
            refine lv_goto (tgt := 25) hx hb dX1_countersAheadOf_82 (by decide) ?_
            exact ih _ _ hw ls (lv_sub hl [2, 3, 4, 5, 6, 0] rfl)
          · have hw := hw.1 c11
            refine lv_iload hx hb dX1_countersAheadOf_70 (lv_at hl 6 rfl) ?_
            refine lv_iload_n hx hb dX1_countersAheadOf_72 rfl (lv_at hl 2 rfl) ?_
            refine lv_icmp_ge (tgt := 79) hx hb dX1_countersAheadOf_73 (by decide) (fun c12 => ?_) (fun c12 => ?_)
            · have hw := hw.1 c12
              refine lv_iinc (v := x6 + 1) (lv' := [(6, .int (x6 + 1)), (7, .long r9), (0, .ref (q 0)), (1, .int x1), (2, .int x2), (3, .long x3), (5, .int x5)]) hx hb dX1_countersAheadOf_79 hl (k := 6) rfl rfl (by decide) rfl (fun ls hl => ?_)
              refine lv_goto (tgt := 25) hx hb dX1_countersAheadOf_82 (by decide) ?_
              exact ih _ _ hw ls (lv_sub hl [2, 3, 4, 5, 6, 0] rfl)
            · have hw := hw.2 c12
              refine lv_iinc (v := x5 + 1) (lv' := [(5, .int (x5 + 1)), (7, .long r9), (0, .ref (q 0)), (1, .int x1), (2, .int x2), (3, .long x3), (6, .int x6)]) hx hb dX1_countersAheadOf_76 hl (k := 5) rfl rfl (by decide) rfl (fun ls hl => ?_)
              refine lv_iinc (v := x6 + 1) (lv' := [(6, .int (x6 + 1)), (5, .int (x5 + 1)), (7, .long r9), (0, .ref (q 0)), (1, .int x1), (2, .int x2), (3, .long x3)]) hx hb dX1_countersAheadOf_79 hl (k := 6) rfl rfl (by decide) rfl (fun ls hl => ?_)
              refine lv_goto (tgt := 25) hx hb dX1_countersAheadOf_82 (by decide) ?_
              exact ih _ _ hw ls (lv_sub hl [3, 4, 5, 6, 1, 0] rfl)
set_option maxHeartbeats 4000000 in
set_option maxRecDepth 100000 in
theorem t_X1_countersAheadOf {p : Program} {l : Launch} {e : Env} {s : State} {m : MethodId} {args : Array Value} {below : List Frame} {meth : Method} {c : Code} {D : va_G} {cs : Nat → ClassId} {A : Nat → Prop} (hC : MAt p s m args meth c RX1 cX1_countersAheadOf 9 (some .int) wsX1_countersAheadOf D cs) (q : Nat → Nat) (L : LnS) (x1 : Int32) (x2 : Int32) (Q : Int32 → Prop) (hw : wp_X1_countersAheadOf L x1 x2 Q) (hP : va_P D vwCl (w_Line cs q L) s.heap) (hD : va_D A (w_Line cs q L)) (ls : Array Slot) (hl : lv_has ls 9 [(0, .ref (q 0)), (1, .int x1), (2, .int x2)]) : W p l e ({ frames := 2, cells := 0, slots := 0, locals := 46 } : Room) s m args below meth c s.heap [] 0 0 (MQ below (vp_Si Q) args s 0 0 (fun _ => False)) (F0 m 0 ls []) := by
  obtain ⟨hx, hb, hr, hml, hown, hts, hlocks, hKK⟩ := id hC
  have hK := hKK.1
  refine lv_iload_n hx hb dX1_countersAheadOf_0 rfl (lv_at hl 2 rfl) ?_
  refine lv_if_eq (tgt := 12) hx hb dX1_countersAheadOf_1 (by decide) (fun c1 => ?_) (fun c1 => ?_)
  · have hw := hw.1 c1
    refine lv_aload_n hx hb dX1_countersAheadOf_12 rfl (lv_at hl 0 rfl) ?_
    refine lv_iload_n hx hb dX1_countersAheadOf_13 rfl (lv_at hl 1 rfl) ?_
    refine z_calli (va_runV (As := [.int x1]) (rest := []) ⟨hx, hb, hml, hown, hts⟩ (c_X1_reading l D cs q s.heap.size L x1 _ hw) (cwV 1 hts gX1_countersAheadOf_X1_reading rfl rfl rfl (by decide +kernel) ⟨Nat.le_of_ble_eq_true rfl, Nat.le_of_ble_eq_true rfl⟩) (PC_V hP hD hKK 0 1 rfl rfl) rfl rfl hl.1 rfl (lv_room (Nat.le_of_ble_eq_true rfl)) dX1_countersAheadOf_14 ⟨Nat.le_of_ble_eq_true rfl, Nat.le_of_ble_eq_true rfl⟩) (fun r2 hw => ?_)
    refine lv_i2l (v := r2.toInt64) hx hb dX1_countersAheadOf_17 rfl ?_
    refine lv_lstore_n (lv' := [(3, .long r2.toInt64), (0, .ref (q 0)), (1, .int x1), (2, .int x2)]) hx hb dX1_countersAheadOf_18 rfl hl (by decide) rfl (fun ls hl => ?_)
    refine lv_iconst (v := (0 : Int32)) hx hb dX1_countersAheadOf_19 (by decide) ?_
    refine lv_istore (lv' := [(5, .int (0 : Int32)), (3, .long r2.toInt64), (0, .ref (q 0)), (1, .int x1), (2, .int x2)]) hx hb dX1_countersAheadOf_20 hl (by decide) rfl (fun ls hl => ?_)
    refine lv_iconst (v := (0 : Int32)) hx hb dX1_countersAheadOf_22 (by decide) ?_
    refine lv_istore (lv' := [(6, .int (0 : Int32)), (5, .int (0 : Int32)), (3, .long r2.toInt64), (0, .ref (q 0)), (1, .int x1), (2, .int x2)]) hx hb dX1_countersAheadOf_23 hl (by decide) rfl (fun ls hl => ?_)
    obtain ⟨n13, hw⟩ := hw
    exact t_X1_countersAheadOf_25 hC q _ _ _ _ _ hP hD n13 _ _ hw ls (lv_sub hl [3, 4, 5, 2, 1, 0] rfl)
  · have hw := hw.2 c1
    refine lv_aload_n hx hb dX1_countersAheadOf_4 rfl (lv_at hl 0 rfl) ?_
    refine lv_iload_n hx hb dX1_countersAheadOf_5 rfl (lv_at hl 1 rfl) ?_
    refine z_calll (va_runV (As := [.int x1]) (rest := []) ⟨hx, hb, hml, hown, hts⟩ (c_X1_fullReading l D cs q s.heap.size L x1 _ hw) (cwV 1 hts gX1_countersAheadOf_X1_fullReading rfl rfl rfl (by decide +kernel) ⟨Nat.le_of_ble_eq_true rfl, Nat.le_of_ble_eq_true rfl⟩) (PC_V hP hD hKK 0 1 rfl rfl) rfl rfl hl.1 rfl (lv_room (Nat.le_of_ble_eq_true rfl)) dX1_countersAheadOf_6 ⟨Nat.le_of_ble_eq_true rfl, Nat.le_of_ble_eq_true rfl⟩) (fun r14 hw => ?_)
    refine lv_goto (tgt := 18) hx hb dX1_countersAheadOf_9 (by decide) ?_
    refine lv_lstore_n (lv' := [(3, .long r14), (0, .ref (q 0)), (1, .int x1), (2, .int x2)]) hx hb dX1_countersAheadOf_18 rfl hl (by decide) rfl (fun ls hl => ?_)
    refine lv_iconst (v := (0 : Int32)) hx hb dX1_countersAheadOf_19 (by decide) ?_
    refine lv_istore (lv' := [(5, .int (0 : Int32)), (3, .long r14), (0, .ref (q 0)), (1, .int x1), (2, .int x2)]) hx hb dX1_countersAheadOf_20 hl (by decide) rfl (fun ls hl => ?_)
    refine lv_iconst (v := (0 : Int32)) hx hb dX1_countersAheadOf_22 (by decide) ?_
    refine lv_istore (lv' := [(6, .int (0 : Int32)), (5, .int (0 : Int32)), (3, .long r14), (0, .ref (q 0)), (1, .int x1), (2, .int x2)]) hx hb dX1_countersAheadOf_23 hl (by decide) rfl (fun ls hl => ?_)
    obtain ⟨n15, hw⟩ := hw
    exact t_X1_countersAheadOf_25 hC q _ _ _ _ _ hP hD n15 _ _ hw ls (lv_sub hl [3, 4, 5, 2, 1, 0] rfl)
set_option maxHeartbeats 4000000 in
set_option maxRecDepth 100000 in
theorem c_X1_countersAheadOf (l : Launch) (D : va_G) (cs : Nat → ClassId) (q : Nat → Nat) (sz : Nat) (L : LnS) (x1 : Int32) (x2 : Int32) (Q : Int32 → Prop) (hw : wp_X1_countersAheadOf L x1 x2 Q) : Met l yX1_countersAheadOf wsX1_countersAheadOf ({ frames := 2, cells := 0, slots := 0, locals := 46 } : Room) (va_Pc [.ref (q 0), .int x1, .int x2] (PC D cs (w_Line cs q L) sz)) (vp_Si Q) 0 0 (fun _ => False) := by
  refine Met.ofW (cc := cX1_countersAheadOf) (maxL := 9) (ret := (some .int)) (by decide) rfl ?_
  intro p e s m args below meth c s₁ B hml hv
  obtain ⟨rfl, hsz, hP, hKK, hD0⟩ := hv
  have hC : MAt p s m _ meth c RX1 cX1_countersAheadOf 9 (some .int) wsX1_countersAheadOf D cs := ⟨B.exec, B.bytes, B.returns, hml, findClass_of_methodNamed B.named, atoms_spec (ws := wsX1_countersAheadOf) B.pre, B.notSynchronized, hKK⟩
  have hl := lv_entry ([.ref (q 0), .int x1, .int x2]) (n := 9) (Nat.le_of_ble_eq_true rfl)
  rw [lg_entry_eq]
  generalize (lg_sl ([.ref (q 0), .int x1, .int x2]) ++ List.replicate (9 - (lg_sl ([.ref (q 0), .int x1, .int x2])).length) Slot.unset).toArray = ls at hl ⊢
  exact t_X1_countersAheadOf hC q L x1 x2 Q hw hP hD0 ls hl
theorem h_X1_X1_ticketsOf : ∀ w ∈ u_ws RX1 TX1 13, w ∈ wsX1_ticketsOf := fun _ h => List.mem_cons_of_mem _ (List.mem_append_right _ h)
set_option maxHeartbeats 4000000 in
set_option maxRecDepth 100000 in
theorem t_X1_ticketsOf_4 {p : Program} {l : Launch} {e : Env} {s : State} {m : MethodId} {args : Array Value} {below : List Frame} {meth : Method} {c : Code} {D : va_G} {cs : Nat → ClassId} {A : Nat → Prop} (hC : MAt p s m args meth c RX1 cX1_ticketsOf 4 (some .int) wsX1_ticketsOf D cs) (q : Nat → Nat) (L : LnS) (x1 : Int32) (Q : Int32 → Prop) (hP : va_P D vwCl (w_Line cs q L) s.heap) (hD : va_D A (w_Line cs q L)) : ∀ (n : Nat) (x2 : Int32) (x3 : Int32), wl_X1_ticketsOf_4 L x1 Q n x2 x3 → ∀ ls : Array Slot, lv_has ls 4 [(0, .ref (q 0)), (1, .int x1), (2, .int x2), (3, .int x3)] → W p l e ({ frames := 0, cells := 0, slots := 0, locals := 0 } : Room) s m args below meth c s.heap [] 0 0 (MQ below (vp_Si Q) args s 0 0 (fun _ => False)) (F0 m 4 ls []) := by
  obtain ⟨hx, hb, hr, hml, hown, hts, hlocks, hKK⟩ := id hC
  have hK := hKK.1
  intro n
  induction n with
  | zero =>
    intro x2 x3 hw
    exact False.elim hw
  | succ n ih =>
    intro x2 x3 hw ls hl
    refine lv_iload_n hx hb dX1_ticketsOf_4 rfl (lv_at hl 3 rfl) ?_
    refine lv_aload_n hx hb dX1_ticketsOf_5 rfl (lv_at hl 0 rfl) ?_
    refine va_get (D := D) (ci := 1) (v := .int (L.1 0 3)) (C := RX1) (T := TX1) (N := 13) hx hb hts (h_X1_X1_ticketsOf) hown hK hP 0 rfl rfl 3 (by decide) (z_w hts 1 rfl) (fun _ h9 => h9) rfl dX1_ticketsOf_6 ?_
    refine lv_icmp_ge (tgt := 31) hx hb dX1_ticketsOf_9 (by decide) (fun c1 => ?_) (fun c1 => ?_)
    · have hw := hw.1 c1
      refine lv_iload_n hx hb dX1_ticketsOf_31 rfl (lv_at hl 2 rfl) ?_
      exact W.iret (v := x2) hx hb hr (fun t ht hW => ⟨x2, rfl, hw, ht⟩) (fun q h => nomatch h) dX1_ticketsOf_32 hlocks
    · have hw := hw.2 c1
      refine lv_aload_n hx hb dX1_ticketsOf_12 rfl (lv_at hl 0 rfl) ?_
      refine va_get (D := D) (ci := 1) (v := .ref (q 6)) (C := RX1) (T := TX1) (N := 13) hx hb hts (h_X1_X1_ticketsOf) hown hK hP 0 rfl rfl 9 (by decide) (z_w hts 2 rfl) (fun _ h9 => h9) rfl dX1_ticketsOf_13 ?_
      refine lv_iload_n hx hb dX1_ticketsOf_16 rfl (lv_at hl 3 rfl) ?_
      obtain ⟨h2, hw⟩ := hw
      refine va_iald hx hb hK hP 6 0 rfl rfl h2 dX1_ticketsOf_17 ?_
      refine lv_iload_n hx hb dX1_ticketsOf_18 rfl (lv_at hl 1 rfl) ?_
      refine lv_icmp_ne (tgt := 25) hx hb dX1_ticketsOf_19 (by decide) (fun c3 => ?_) (fun c3 => ?_)
      · have hw := hw.2 c3
        refine lv_iinc (v := x3 + 1) (lv' := [(3, .int (x3 + 1)), (0, .ref (q 0)), (1, .int x1), (2, .int x2)]) hx hb dX1_ticketsOf_25 hl (k := 3) rfl rfl (by decide) rfl (fun ls hl => ?_)
        refine lv_goto (tgt := 4) hx hb dX1_ticketsOf_28 (by decide) ?_
        exact ih _ _ hw ls (lv_sub hl [1, 2, 3, 0] rfl)
      · have hw := hw.1 c3
        refine lv_iinc (v := x2 + 1) (lv' := [(2, .int (x2 + 1)), (0, .ref (q 0)), (1, .int x1), (3, .int x3)]) hx hb dX1_ticketsOf_22 hl (k := 2) rfl rfl (by decide) rfl (fun ls hl => ?_)
        refine lv_iinc (v := x3 + 1) (lv' := [(3, .int (x3 + 1)), (2, .int (x2 + 1)), (0, .ref (q 0)), (1, .int x1)]) hx hb dX1_ticketsOf_25 hl (k := 3) rfl rfl (by decide) rfl (fun ls hl => ?_)
        refine lv_goto (tgt := 4) hx hb dX1_ticketsOf_28 (by decide) ?_
        exact ih _ _ hw ls (lv_sub hl [2, 3, 1, 0] rfl)
set_option maxHeartbeats 4000000 in
set_option maxRecDepth 100000 in
theorem t_X1_ticketsOf {p : Program} {l : Launch} {e : Env} {s : State} {m : MethodId} {args : Array Value} {below : List Frame} {meth : Method} {c : Code} {D : va_G} {cs : Nat → ClassId} {A : Nat → Prop} (hC : MAt p s m args meth c RX1 cX1_ticketsOf 4 (some .int) wsX1_ticketsOf D cs) (q : Nat → Nat) (L : LnS) (x1 : Int32) (Q : Int32 → Prop) (hw : wp_X1_ticketsOf L x1 Q) (hP : va_P D vwCl (w_Line cs q L) s.heap) (hD : va_D A (w_Line cs q L)) (ls : Array Slot) (hl : lv_has ls 4 [(0, .ref (q 0)), (1, .int x1)]) : W p l e ({ frames := 0, cells := 0, slots := 0, locals := 0 } : Room) s m args below meth c s.heap [] 0 0 (MQ below (vp_Si Q) args s 0 0 (fun _ => False)) (F0 m 0 ls []) := by
  obtain ⟨hx, hb, hr, hml, hown, hts, hlocks, hKK⟩ := id hC
  have hK := hKK.1
  refine lv_iconst (v := (0 : Int32)) hx hb dX1_ticketsOf_0 (by decide) ?_
  refine lv_istore_n (lv' := [(2, .int (0 : Int32)), (0, .ref (q 0)), (1, .int x1)]) hx hb dX1_ticketsOf_1 rfl hl (by decide) rfl (fun ls hl => ?_)
  refine lv_iconst (v := (0 : Int32)) hx hb dX1_ticketsOf_2 (by decide) ?_
  refine lv_istore_n (lv' := [(3, .int (0 : Int32)), (2, .int (0 : Int32)), (0, .ref (q 0)), (1, .int x1)]) hx hb dX1_ticketsOf_3 rfl hl (by decide) rfl (fun ls hl => ?_)
  obtain ⟨n4, hw⟩ := hw
  exact t_X1_ticketsOf_4 hC q _ _ _ hP hD n4 _ _ hw ls (lv_sub hl [2, 3, 1, 0] rfl)
set_option maxHeartbeats 4000000 in
set_option maxRecDepth 100000 in
theorem c_X1_ticketsOf (l : Launch) (D : va_G) (cs : Nat → ClassId) (q : Nat → Nat) (sz : Nat) (L : LnS) (x1 : Int32) (Q : Int32 → Prop) (hw : wp_X1_ticketsOf L x1 Q) : Met l yX1_ticketsOf wsX1_ticketsOf ({ frames := 0, cells := 0, slots := 0, locals := 0 } : Room) (va_Pc [.ref (q 0), .int x1] (PC D cs (w_Line cs q L) sz)) (vp_Si Q) 0 0 (fun _ => False) := by
  refine Met.ofW (cc := cX1_ticketsOf) (maxL := 4) (ret := (some .int)) (by decide) rfl ?_
  intro p e s m args below meth c s₁ B hml hv
  obtain ⟨rfl, hsz, hP, hKK, hD0⟩ := hv
  have hC : MAt p s m _ meth c RX1 cX1_ticketsOf 4 (some .int) wsX1_ticketsOf D cs := ⟨B.exec, B.bytes, B.returns, hml, findClass_of_methodNamed B.named, atoms_spec (ws := wsX1_ticketsOf) B.pre, B.notSynchronized, hKK⟩
  have hl := lv_entry ([.ref (q 0), .int x1]) (n := 4) (Nat.le_of_ble_eq_true rfl)
  rw [lg_entry_eq]
  generalize (lg_sl ([.ref (q 0), .int x1]) ++ List.replicate (4 - (lg_sl ([.ref (q 0), .int x1])).length) Slot.unset).toArray = ls at hl ⊢
  exact t_X1_ticketsOf hC q L x1 Q hw hP hD0 ls hl
theorem h_X1_X1_arePair : ∀ w ∈ u_ws RX1 TX1 13, w ∈ wsX1_arePair := fun _ h => List.mem_cons_of_mem _ (List.mem_append_right _ h)
set_option maxHeartbeats 4000000 in
set_option maxRecDepth 100000 in
theorem t_X1_arePair {p : Program} {l : Launch} {e : Env} {s : State} {m : MethodId} {args : Array Value} {below : List Frame} {meth : Method} {c : Code} {D : va_G} {cs : Nat → ClassId} {A : Nat → Prop} (hC : MAt p s m args meth c RX1 cX1_arePair 3 (some .boolean) wsX1_arePair D cs) (q : Nat → Nat) (L : LnS) (x1 : Int32) (x2 : Int32) (Q : Int32 → Prop) (hw : wp_X1_arePair L x1 x2 Q) (hP : va_P D vwCl (w_Line cs q L) s.heap) (hD : va_D A (w_Line cs q L)) (ls : Array Slot) (hl : lv_has ls 3 [(0, .ref (q 0)), (1, .int x1), (2, .int x2)]) : W p l e ({ frames := 0, cells := 0, slots := 0, locals := 0 } : Room) s m args below meth c s.heap [] 0 0 (MQ below (vp_Si (fun r => (r = 0 ∨ r = 1) ∧ Q r)) args s 0 0 (fun _ => False)) (F0 m 0 ls []) := by
  obtain ⟨hx, hb, hr, hml, hown, hts, hlocks, hKK⟩ := id hC
  have hK := hKK.1
  refine lv_aload_n hx hb dX1_arePair_0 rfl (lv_at hl 0 rfl) ?_
  refine va_get (D := D) (ci := 1) (v := .ref (q 6)) (C := RX1) (T := TX1) (N := 13) hx hb hts (h_X1_X1_arePair) hown hK hP 0 rfl rfl 9 (by decide) (z_w hts 1 rfl) (fun _ h9 => h9) rfl dX1_arePair_1 ?_
  refine lv_iload_n hx hb dX1_arePair_4 rfl (lv_at hl 1 rfl) ?_
  obtain ⟨h1, hw⟩ := hw
  refine va_iald hx hb hK hP 6 0 rfl rfl h1 dX1_arePair_5 ?_
  refine lv_aload_n hx hb dX1_arePair_6 rfl (lv_at hl 0 rfl) ?_
  refine va_get (D := D) (ci := 1) (v := .ref (q 6)) (C := RX1) (T := TX1) (N := 13) hx hb hts (h_X1_X1_arePair) hown hK hP 0 rfl rfl 9 (by decide) (z_w hts 1 rfl) (fun _ h9 => h9) rfl dX1_arePair_7 ?_
  refine lv_iload_n hx hb dX1_arePair_10 rfl (lv_at hl 2 rfl) ?_
  obtain ⟨h2, hw⟩ := hw
  refine va_iald hx hb hK hP 6 0 rfl rfl h2 dX1_arePair_11 ?_
  refine lv_icmp_ne (tgt := 34) hx hb dX1_arePair_12 (by decide) (fun c3 => ?_) (fun c3 => ?_)
  · have hw := hw.2 c3
    refine lv_iconst (v := (0 : Int32)) hx hb dX1_arePair_34 (by decide) ?_
    exact W.zret (v := (0 : Int32)) hx hb hr rfl (fun t ht hW => ⟨(0 : Int32), rfl, ⟨Or.inl rfl, hw⟩, ht⟩) (fun q h => nomatch h) dX1_arePair_35 hlocks
  · have hw := hw.1 c3
    refine lv_aload_n hx hb dX1_arePair_15 rfl (lv_at hl 0 rfl) ?_
    refine va_get (D := D) (ci := 1) (v := .ref (q 7)) (C := RX1) (T := TX1) (N := 13) hx hb hts (h_X1_X1_arePair) hown hK hP 0 rfl rfl 10 (by decide) (z_w hts 2 rfl) (fun _ h9 => h9) rfl dX1_arePair_16 ?_
    refine lv_iload_n hx hb dX1_arePair_19 rfl (lv_at hl 1 rfl) ?_
    obtain ⟨h4, hw⟩ := hw
    refine va_iald hx hb hK hP 7 0 rfl rfl h4 dX1_arePair_20 ?_
    refine lv_aload_n hx hb dX1_arePair_21 rfl (lv_at hl 0 rfl) ?_
    refine va_get (D := D) (ci := 1) (v := .ref (q 7)) (C := RX1) (T := TX1) (N := 13) hx hb hts (h_X1_X1_arePair) hown hK hP 0 rfl rfl 10 (by decide) (z_w hts 2 rfl) (fun _ h9 => h9) rfl dX1_arePair_22 ?_
    refine lv_iload_n hx hb dX1_arePair_25 rfl (lv_at hl 2 rfl) ?_
    obtain ⟨h5, hw⟩ := hw
    refine va_iald hx hb hK hP 7 0 rfl rfl h5 dX1_arePair_26 ?_
    refine lv_icmp_ne (tgt := 34) hx hb dX1_arePair_27 (by decide) (fun c6 => ?_) (fun c6 => ?_)
    · have hw := hw.2 c6
      refine lv_iconst (v := (0 : Int32)) hx hb dX1_arePair_34 (by decide) ?_
      exact W.zret (v := (0 : Int32)) hx hb hr rfl (fun t ht hW => ⟨(0 : Int32), rfl, ⟨Or.inl rfl, hw⟩, ht⟩) (fun q h => nomatch h) dX1_arePair_35 hlocks
    · have hw := hw.1 c6
      refine lv_iconst (v := (1 : Int32)) hx hb dX1_arePair_30 (by decide) ?_
      refine lv_goto (tgt := 35) hx hb dX1_arePair_31 (by decide) ?_
      exact W.zret (v := (1 : Int32)) hx hb hr rfl (fun t ht hW => ⟨(1 : Int32), rfl, ⟨Or.inr rfl, hw⟩, ht⟩) (fun q h => nomatch h) dX1_arePair_35 hlocks
set_option maxHeartbeats 4000000 in
set_option maxRecDepth 100000 in
theorem c_X1_arePair (l : Launch) (D : va_G) (cs : Nat → ClassId) (q : Nat → Nat) (sz : Nat) (L : LnS) (x1 : Int32) (x2 : Int32) (Q : Int32 → Prop) (hw : wp_X1_arePair L x1 x2 Q) : Met l yX1_arePair wsX1_arePair ({ frames := 0, cells := 0, slots := 0, locals := 0 } : Room) (va_Pc [.ref (q 0), .int x1, .int x2] (PC D cs (w_Line cs q L) sz)) (vp_Si (fun r => (r = 0 ∨ r = 1) ∧ Q r)) 0 0 (fun _ => False) := by
  refine Met.ofW (cc := cX1_arePair) (maxL := 3) (ret := (some .boolean)) (by decide) rfl ?_
  intro p e s m args below meth c s₁ B hml hv
  obtain ⟨rfl, hsz, hP, hKK, hD0⟩ := hv
  have hC : MAt p s m _ meth c RX1 cX1_arePair 3 (some .boolean) wsX1_arePair D cs := ⟨B.exec, B.bytes, B.returns, hml, findClass_of_methodNamed B.named, atoms_spec (ws := wsX1_arePair) B.pre, B.notSynchronized, hKK⟩
  have hl := lv_entry ([.ref (q 0), .int x1, .int x2]) (n := 3) (Nat.le_of_ble_eq_true rfl)
  rw [lg_entry_eq]
  generalize (lg_sl ([.ref (q 0), .int x1, .int x2]) ++ List.replicate (3 - (lg_sl ([.ref (q 0), .int x1, .int x2])).length) Slot.unset).toArray = ls at hl ⊢
  exact t_X1_arePair hC q L x1 x2 Q hw hP hD0 ls hl
theorem h_X1_X1_partners : ∀ w ∈ u_ws RX1 TX1 13, w ∈ wsX1_partners := fun _ h => List.mem_cons_of_mem _ (List.mem_append_right _ h)
set_option maxHeartbeats 4000000 in
set_option maxRecDepth 100000 in
theorem t_X1_partners_4 {p : Program} {l : Launch} {e : Env} {s : State} {m : MethodId} {args : Array Value} {below : List Frame} {meth : Method} {c : Code} {D : va_G} {cs : Nat → ClassId} {A : Nat → Prop} (hC : MAt p s m args meth c RX1 cX1_partners 4 (some .int) wsX1_partners D cs) (q : Nat → Nat) (L : LnS) (x1 : Int32) (Q : Int32 → Prop) (hP : va_P D vwCl (w_Line cs q L) s.heap) (hD : va_D A (w_Line cs q L)) : ∀ (n : Nat) (x2 : Int32) (x3 : Int32), wl_X1_partners_4 L x1 Q n x2 x3 → ∀ ls : Array Slot, lv_has ls 4 [(0, .ref (q 0)), (1, .int x1), (2, .int x2), (3, .int x3)] → W p l e ({ frames := 1, cells := 0, slots := 0, locals := 22 } : Room) s m args below meth c s.heap [] 0 0 (MQ below (vp_Si Q) args s 0 0 (fun _ => False)) (F0 m 4 ls []) := by
  obtain ⟨hx, hb, hr, hml, hown, hts, hlocks, hKK⟩ := id hC
  have hK := hKK.1
  intro n
  induction n with
  | zero =>
    intro x2 x3 hw
    exact False.elim hw
  | succ n ih =>
    intro x2 x3 hw ls hl
    refine lv_iload_n hx hb dX1_partners_4 rfl (lv_at hl 3 rfl) ?_
    refine lv_aload_n hx hb dX1_partners_5 rfl (lv_at hl 0 rfl) ?_
    refine va_get (D := D) (ci := 1) (v := .int (L.1 0 3)) (C := RX1) (T := TX1) (N := 13) hx hb hts (h_X1_X1_partners) hown hK hP 0 rfl rfl 3 (by decide) (z_w hts 1 rfl) (fun _ h9 => h9) rfl dX1_partners_6 ?_
    refine lv_icmp_ge (tgt := 35) hx hb dX1_partners_9 (by decide) (fun c1 => ?_) (fun c1 => ?_)
    · have hw := hw.1 c1
      refine lv_iload_n hx hb dX1_partners_35 rfl (lv_at hl 2 rfl) ?_
      exact W.iret (v := x2) hx hb hr (fun t ht hW => ⟨x2, rfl, hw, ht⟩) (fun q h => nomatch h) dX1_partners_36 hlocks
    · have hw := hw.2 c1
      refine lv_iload_n hx hb dX1_partners_12 rfl (lv_at hl 3 rfl) ?_
      refine lv_iload_n hx hb dX1_partners_13 rfl (lv_at hl 1 rfl) ?_
      refine lv_icmp_eq (tgt := 29) hx hb dX1_partners_14 (by decide) (fun c2 => ?_) (fun c2 => ?_)
      · have hw := hw.1 c2
        refine lv_iinc (v := x3 + 1) (lv' := [(3, .int (x3 + 1)), (0, .ref (q 0)), (1, .int x1), (2, .int x2)]) hx hb dX1_partners_29 hl (k := 3) rfl rfl (by decide) rfl (fun ls hl => ?_)
        refine lv_goto (tgt := 4) hx hb dX1_partners_32 (by decide) ?_
        exact ih _ _ hw ls (lv_sub hl [1, 2, 3, 0] rfl)
      · have hw := hw.2 c2
        refine lv_aload_n hx hb dX1_partners_17 rfl (lv_at hl 0 rfl) ?_
        refine lv_iload_n hx hb dX1_partners_18 rfl (lv_at hl 3 rfl) ?_
        refine lv_iload_n hx hb dX1_partners_19 rfl (lv_at hl 1 rfl) ?_
        refine z_calli (va_runV (As := [.int x3, .int x1]) (rest := []) ⟨hx, hb, hml, hown, hts⟩ (c_X1_arePair l D cs q s.heap.size L x3 x1 _ hw) (cwV 2 hts gX1_partners_X1_arePair rfl rfl rfl (by decide +kernel) ⟨Nat.le_of_ble_eq_true rfl, Nat.le_of_ble_eq_true rfl⟩) (PC_V hP hD hKK 0 1 rfl rfl) rfl rfl hl.1 rfl (lv_room (Nat.le_of_ble_eq_true rfl)) dX1_partners_20 ⟨Nat.le_of_ble_eq_true rfl, Nat.le_of_ble_eq_true rfl⟩) (fun r3 hw => ?_)
        obtain ⟨b3, hw⟩ := hw
        refine lv_if_eq (tgt := 29) hx hb dX1_partners_23 (by decide) (fun c4 => ?_) (fun c4 => ?_)
        · have hw := hw.1 c4
          refine lv_iinc (v := x3 + 1) (lv' := [(3, .int (x3 + 1)), (0, .ref (q 0)), (1, .int x1), (2, .int x2)]) hx hb dX1_partners_29 hl (k := 3) rfl rfl (by decide) rfl (fun ls hl => ?_)
          refine lv_goto (tgt := 4) hx hb dX1_partners_32 (by decide) ?_
          exact ih _ _ hw ls (lv_sub hl [1, 2, 3, 0] rfl)
        · have hw := hw.2 c4
          refine lv_iinc (v := x2 + 1) (lv' := [(2, .int (x2 + 1)), (0, .ref (q 0)), (1, .int x1), (3, .int x3)]) hx hb dX1_partners_26 hl (k := 2) rfl rfl (by decide) rfl (fun ls hl => ?_)
          refine lv_iinc (v := x3 + 1) (lv' := [(3, .int (x3 + 1)), (2, .int (x2 + 1)), (0, .ref (q 0)), (1, .int x1)]) hx hb dX1_partners_29 hl (k := 3) rfl rfl (by decide) rfl (fun ls hl => ?_)
          refine lv_goto (tgt := 4) hx hb dX1_partners_32 (by decide) ?_
          exact ih _ _ hw ls (lv_sub hl [2, 3, 1, 0] rfl)
set_option maxHeartbeats 4000000 in
set_option maxRecDepth 100000 in
theorem t_X1_partners {p : Program} {l : Launch} {e : Env} {s : State} {m : MethodId} {args : Array Value} {below : List Frame} {meth : Method} {c : Code} {D : va_G} {cs : Nat → ClassId} {A : Nat → Prop} (hC : MAt p s m args meth c RX1 cX1_partners 4 (some .int) wsX1_partners D cs) (q : Nat → Nat) (L : LnS) (x1 : Int32) (Q : Int32 → Prop) (hw : wp_X1_partners L x1 Q) (hP : va_P D vwCl (w_Line cs q L) s.heap) (hD : va_D A (w_Line cs q L)) (ls : Array Slot) (hl : lv_has ls 4 [(0, .ref (q 0)), (1, .int x1)]) : W p l e ({ frames := 1, cells := 0, slots := 0, locals := 22 } : Room) s m args below meth c s.heap [] 0 0 (MQ below (vp_Si Q) args s 0 0 (fun _ => False)) (F0 m 0 ls []) := by
  obtain ⟨hx, hb, hr, hml, hown, hts, hlocks, hKK⟩ := id hC
  have hK := hKK.1
  refine lv_iconst (v := (0 : Int32)) hx hb dX1_partners_0 (by decide) ?_
  refine lv_istore_n (lv' := [(2, .int (0 : Int32)), (0, .ref (q 0)), (1, .int x1)]) hx hb dX1_partners_1 rfl hl (by decide) rfl (fun ls hl => ?_)
  refine lv_iconst (v := (0 : Int32)) hx hb dX1_partners_2 (by decide) ?_
  refine lv_istore_n (lv' := [(3, .int (0 : Int32)), (2, .int (0 : Int32)), (0, .ref (q 0)), (1, .int x1)]) hx hb dX1_partners_3 rfl hl (by decide) rfl (fun ls hl => ?_)
  obtain ⟨n5, hw⟩ := hw
  exact t_X1_partners_4 hC q _ _ _ hP hD n5 _ _ hw ls (lv_sub hl [2, 3, 1, 0] rfl)
set_option maxHeartbeats 4000000 in
set_option maxRecDepth 100000 in
theorem c_X1_partners (l : Launch) (D : va_G) (cs : Nat → ClassId) (q : Nat → Nat) (sz : Nat) (L : LnS) (x1 : Int32) (Q : Int32 → Prop) (hw : wp_X1_partners L x1 Q) : Met l yX1_partners wsX1_partners ({ frames := 1, cells := 0, slots := 0, locals := 22 } : Room) (va_Pc [.ref (q 0), .int x1] (PC D cs (w_Line cs q L) sz)) (vp_Si Q) 0 0 (fun _ => False) := by
  refine Met.ofW (cc := cX1_partners) (maxL := 4) (ret := (some .int)) (by decide) rfl ?_
  intro p e s m args below meth c s₁ B hml hv
  obtain ⟨rfl, hsz, hP, hKK, hD0⟩ := hv
  have hC : MAt p s m _ meth c RX1 cX1_partners 4 (some .int) wsX1_partners D cs := ⟨B.exec, B.bytes, B.returns, hml, findClass_of_methodNamed B.named, atoms_spec (ws := wsX1_partners) B.pre, B.notSynchronized, hKK⟩
  have hl := lv_entry ([.ref (q 0), .int x1]) (n := 4) (Nat.le_of_ble_eq_true rfl)
  rw [lg_entry_eq]
  generalize (lg_sl ([.ref (q 0), .int x1]) ++ List.replicate (4 - (lg_sl ([.ref (q 0), .int x1])).length) Slot.unset).toArray = ls at hl ⊢
  exact t_X1_partners hC q L x1 Q hw hP hD0 ls hl
theorem h_X1_X1_pairs : ∀ w ∈ u_ws RX1 TX1 13, w ∈ wsX1_pairs := fun _ h => List.mem_cons_of_mem _ (List.mem_append_right _ h)
set_option maxHeartbeats 4000000 in
set_option maxRecDepth 100000 in
theorem t_X1_pairs_4 {p : Program} {l : Launch} {e : Env} {s : State} {m : MethodId} {args : Array Value} {below : List Frame} {meth : Method} {c : Code} {D : va_G} {cs : Nat → ClassId} {A : Nat → Prop} (hC : MAt p s m args meth c RX1 cX1_pairs 3 (some .int) wsX1_pairs D cs) (q : Nat → Nat) (L : LnS) (Q : Int32 → Prop) (hP : va_P D vwCl (w_Line cs q L) s.heap) (hD : va_D A (w_Line cs q L)) : ∀ (n : Nat) (x1 : Int32) (x2 : Int32), wl_X1_pairs_4 L Q n x1 x2 → ∀ ls : Array Slot, lv_has ls 3 [(0, .ref (q 0)), (1, .int x1), (2, .int x2)] → W p l e ({ frames := 2, cells := 0, slots := 0, locals := 45 } : Room) s m args below meth c s.heap [] 0 0 (MQ below (vp_Si Q) args s 0 0 (fun _ => False)) (F0 m 4 ls []) := by
  obtain ⟨hx, hb, hr, hml, hown, hts, hlocks, hKK⟩ := id hC
  have hK := hKK.1
  intro n
  induction n with
  | zero =>
    intro x1 x2 hw
    exact False.elim hw
  | succ n ih =>
    intro x1 x2 hw ls hl
    refine lv_iload_n hx hb dX1_pairs_4 rfl (lv_at hl 2 rfl) ?_
    refine lv_aload_n hx hb dX1_pairs_5 rfl (lv_at hl 0 rfl) ?_
    refine va_get (D := D) (ci := 1) (v := .int (L.1 0 3)) (C := RX1) (T := TX1) (N := 13) hx hb hts (h_X1_X1_pairs) hown hK hP 0 rfl rfl 3 (by decide) (z_w hts 1 rfl) (fun _ h9 => h9) rfl dX1_pairs_6 ?_
    refine lv_icmp_ge (tgt := 26) hx hb dX1_pairs_9 (by decide) (fun c1 => ?_) (fun c1 => ?_)
    · have hw := hw.1 c1
      refine lv_iload_n hx hb dX1_pairs_26 rfl (lv_at hl 1 rfl) ?_
      refine lv_iconst (v := (2 : Int32)) hx hb dX1_pairs_27 (by decide) ?_
      refine lv_idiv hx hb dX1_pairs_28 (by decide) ?_
      exact W.iret (v := x1 / (2 : Int32)) hx hb hr (fun t ht hW => ⟨x1 / (2 : Int32), rfl, hw, ht⟩) (fun q h => nomatch h) dX1_pairs_29 hlocks
    · have hw := hw.2 c1
      refine lv_iload_n hx hb dX1_pairs_12 rfl (lv_at hl 1 rfl) ?_
      refine lv_aload_n hx hb dX1_pairs_13 rfl (lv_at hl 0 rfl) ?_
      refine lv_iload_n hx hb dX1_pairs_14 rfl (lv_at hl 2 rfl) ?_
      refine z_calli (va_runV (As := [.int x2]) (rest := [.int x1]) ⟨hx, hb, hml, hown, hts⟩ (c_X1_partners l D cs q s.heap.size L x2 _ hw) (cwV 1 hts gX1_pairs_X1_partners rfl rfl rfl (by decide +kernel) ⟨Nat.le_of_ble_eq_true rfl, Nat.le_of_ble_eq_true rfl⟩) (PC_V hP hD hKK 0 1 rfl rfl) rfl rfl hl.1 rfl (lv_room (Nat.le_of_ble_eq_true rfl)) dX1_pairs_15 ⟨Nat.le_of_ble_eq_true rfl, Nat.le_of_ble_eq_true rfl⟩) (fun r2 hw => ?_)
      refine lv_iadd hx hb dX1_pairs_18 ?_
      refine lv_istore_n (lv' := [(1, .int (x1 + r2)), (0, .ref (q 0)), (2, .int x2)]) hx hb dX1_pairs_19 rfl hl (by decide) rfl (fun ls hl => ?_)
      refine lv_iinc (v := x2 + 1) (lv' := [(2, .int (x2 + 1)), (1, .int (x1 + r2)), (0, .ref (q 0))]) hx hb dX1_pairs_20 hl (k := 2) rfl rfl (by decide) rfl (fun ls hl => ?_)
      refine lv_goto (tgt := 4) hx hb dX1_pairs_23 (by decide) ?_
      exact ih _ _ hw ls (lv_sub hl [2, 1, 0] rfl)
set_option maxHeartbeats 4000000 in
set_option maxRecDepth 100000 in
theorem t_X1_pairs {p : Program} {l : Launch} {e : Env} {s : State} {m : MethodId} {args : Array Value} {below : List Frame} {meth : Method} {c : Code} {D : va_G} {cs : Nat → ClassId} {A : Nat → Prop} (hC : MAt p s m args meth c RX1 cX1_pairs 3 (some .int) wsX1_pairs D cs) (q : Nat → Nat) (L : LnS) (Q : Int32 → Prop) (hw : wp_X1_pairs L Q) (hP : va_P D vwCl (w_Line cs q L) s.heap) (hD : va_D A (w_Line cs q L)) (ls : Array Slot) (hl : lv_has ls 3 [(0, .ref (q 0))]) : W p l e ({ frames := 2, cells := 0, slots := 0, locals := 45 } : Room) s m args below meth c s.heap [] 0 0 (MQ below (vp_Si Q) args s 0 0 (fun _ => False)) (F0 m 0 ls []) := by
  obtain ⟨hx, hb, hr, hml, hown, hts, hlocks, hKK⟩ := id hC
  have hK := hKK.1
  refine lv_iconst (v := (0 : Int32)) hx hb dX1_pairs_0 (by decide) ?_
  refine lv_istore_n (lv' := [(1, .int (0 : Int32)), (0, .ref (q 0))]) hx hb dX1_pairs_1 rfl hl (by decide) rfl (fun ls hl => ?_)
  refine lv_iconst (v := (0 : Int32)) hx hb dX1_pairs_2 (by decide) ?_
  refine lv_istore_n (lv' := [(2, .int (0 : Int32)), (1, .int (0 : Int32)), (0, .ref (q 0))]) hx hb dX1_pairs_3 rfl hl (by decide) rfl (fun ls hl => ?_)
  obtain ⟨n3, hw⟩ := hw
  exact t_X1_pairs_4 hC q _ _ hP hD n3 _ _ hw ls (lv_sub hl [2, 1, 0] rfl)
set_option maxHeartbeats 4000000 in
set_option maxRecDepth 100000 in
theorem c_X1_pairs (l : Launch) (D : va_G) (cs : Nat → ClassId) (q : Nat → Nat) (sz : Nat) (L : LnS) (Q : Int32 → Prop) (hw : wp_X1_pairs L Q) : Met l yX1_pairs wsX1_pairs ({ frames := 2, cells := 0, slots := 0, locals := 45 } : Room) (va_Pc [.ref (q 0)] (PC D cs (w_Line cs q L) sz)) (vp_Si Q) 0 0 (fun _ => False) := by
  refine Met.ofW (cc := cX1_pairs) (maxL := 3) (ret := (some .int)) (by decide) rfl ?_
  intro p e s m args below meth c s₁ B hml hv
  obtain ⟨rfl, hsz, hP, hKK, hD0⟩ := hv
  have hC : MAt p s m _ meth c RX1 cX1_pairs 3 (some .int) wsX1_pairs D cs := ⟨B.exec, B.bytes, B.returns, hml, findClass_of_methodNamed B.named, atoms_spec (ws := wsX1_pairs) B.pre, B.notSynchronized, hKK⟩
  have hl := lv_entry ([.ref (q 0)]) (n := 3) (Nat.le_of_ble_eq_true rfl)
  rw [lg_entry_eq]
  generalize (lg_sl ([.ref (q 0)]) ++ List.replicate (3 - (lg_sl ([.ref (q 0)])).length) Slot.unset).toArray = ls at hl ⊢
  exact t_X1_pairs hC q L Q hw hP hD0 ls hl
theorem h_X1_X1_isTicketAhead : ∀ w ∈ u_ws RX1 TX1 13, w ∈ wsX1_isTicketAhead := fun _ h => List.mem_cons_of_mem _ (List.mem_append_right _ h)
set_option maxHeartbeats 4000000 in
set_option maxRecDepth 100000 in
theorem t_X1_isTicketAhead {p : Program} {l : Launch} {e : Env} {s : State} {m : MethodId} {args : Array Value} {below : List Frame} {meth : Method} {c : Code} {D : va_G} {cs : Nat → ClassId} {A : Nat → Prop} (hC : MAt p s m args meth c RX1 cX1_isTicketAhead 3 (some .boolean) wsX1_isTicketAhead D cs) (q : Nat → Nat) (L : LnS) (x1 : Int32) (x2 : Int32) (Q : Int32 → Prop) (hw : wp_X1_isTicketAhead L x1 x2 Q) (hP : va_P D vwCl (w_Line cs q L) s.heap) (hD : va_D A (w_Line cs q L)) (ls : Array Slot) (hl : lv_has ls 3 [(0, .ref (q 0)), (1, .int x1), (2, .int x2)]) : W p l e ({ frames := 0, cells := 0, slots := 0, locals := 0 } : Room) s m args below meth c s.heap [] 0 0 (MQ below (vp_Si (fun r => (r = 0 ∨ r = 1) ∧ Q r)) args s 0 0 (fun _ => False)) (F0 m 0 ls []) := by
  obtain ⟨hx, hb, hr, hml, hown, hts, hlocks, hKK⟩ := id hC
  have hK := hKK.1
  refine lv_aload_n hx hb dX1_isTicketAhead_0 rfl (lv_at hl 0 rfl) ?_
  refine va_get (D := D) (ci := 1) (v := .ref (q 7)) (C := RX1) (T := TX1) (N := 13) hx hb hts (h_X1_X1_isTicketAhead) hown hK hP 0 rfl rfl 10 (by decide) (z_w hts 1 rfl) (fun _ h9 => h9) rfl dX1_isTicketAhead_1 ?_
  refine lv_iload_n hx hb dX1_isTicketAhead_4 rfl (lv_at hl 1 rfl) ?_
  obtain ⟨h1, hw⟩ := hw
  refine va_iald hx hb hK hP 7 0 rfl rfl h1 dX1_isTicketAhead_5 ?_
  refine lv_aload_n hx hb dX1_isTicketAhead_6 rfl (lv_at hl 0 rfl) ?_
  refine va_get (D := D) (ci := 1) (v := .ref (q 7)) (C := RX1) (T := TX1) (N := 13) hx hb hts (h_X1_X1_isTicketAhead) hown hK hP 0 rfl rfl 10 (by decide) (z_w hts 1 rfl) (fun _ h9 => h9) rfl dX1_isTicketAhead_7 ?_
  refine lv_iload_n hx hb dX1_isTicketAhead_10 rfl (lv_at hl 2 rfl) ?_
  obtain ⟨h2, hw⟩ := hw
  refine va_iald hx hb hK hP 7 0 rfl rfl h2 dX1_isTicketAhead_11 ?_
  refine lv_icmp_eq (tgt := 36) hx hb dX1_isTicketAhead_12 (by decide) (fun c3 => ?_) (fun c3 => ?_)
  · have hw := hw.1 c3
    refine lv_aload_n hx hb dX1_isTicketAhead_36 rfl (lv_at hl 0 rfl) ?_
    refine va_get (D := D) (ci := 1) (v := .ref (q 6)) (C := RX1) (T := TX1) (N := 13) hx hb hts (h_X1_X1_isTicketAhead) hown hK hP 0 rfl rfl 9 (by decide) (z_w hts 2 rfl) (fun _ h9 => h9) rfl dX1_isTicketAhead_37 ?_
    refine lv_iload_n hx hb dX1_isTicketAhead_40 rfl (lv_at hl 1 rfl) ?_
    obtain ⟨h4, hw⟩ := hw
    refine va_iald hx hb hK hP 6 0 rfl rfl h4 dX1_isTicketAhead_41 ?_
    refine lv_aload_n hx hb dX1_isTicketAhead_42 rfl (lv_at hl 0 rfl) ?_
    refine va_get (D := D) (ci := 1) (v := .ref (q 6)) (C := RX1) (T := TX1) (N := 13) hx hb hts (h_X1_X1_isTicketAhead) hown hK hP 0 rfl rfl 9 (by decide) (z_w hts 2 rfl) (fun _ h9 => h9) rfl dX1_isTicketAhead_43 ?_
    refine lv_iload_n hx hb dX1_isTicketAhead_46 rfl (lv_at hl 2 rfl) ?_
    obtain ⟨h5, hw⟩ := hw
    refine va_iald hx hb hK hP 6 0 rfl rfl h5 dX1_isTicketAhead_47 ?_
    refine lv_icmp_eq (tgt := 72) hx hb dX1_isTicketAhead_48 (by decide) (fun c6 => ?_) (fun c6 => ?_)
    · have hw := hw.1 c6
      refine lv_iload_n hx hb dX1_isTicketAhead_72 rfl (lv_at hl 1 rfl) ?_
      refine lv_iload_n hx hb dX1_isTicketAhead_73 rfl (lv_at hl 2 rfl) ?_
      refine lv_icmp_ge (tgt := 81) hx hb dX1_isTicketAhead_74 (by decide) (fun c7 => ?_) (fun c7 => ?_)
      · have hw := hw.1 c7
        refine lv_iconst (v := (0 : Int32)) hx hb dX1_isTicketAhead_81 (by decide) ?_
        exact W.zret (v := (0 : Int32)) hx hb hr rfl (fun t ht hW => ⟨(0 : Int32), rfl, ⟨Or.inl rfl, hw⟩, ht⟩) (fun q h => nomatch h) dX1_isTicketAhead_82 hlocks
      · have hw := hw.2 c7
        refine lv_iconst (v := (1 : Int32)) hx hb dX1_isTicketAhead_77 (by decide) ?_
        refine lv_goto (tgt := 82) hx hb dX1_isTicketAhead_78 (by decide) ?_
        exact W.zret (v := (1 : Int32)) hx hb hr rfl (fun t ht hW => ⟨(1 : Int32), rfl, ⟨Or.inr rfl, hw⟩, ht⟩) (fun q h => nomatch h) dX1_isTicketAhead_82 hlocks
    · have hw := hw.2 c6
      refine lv_aload_n hx hb dX1_isTicketAhead_51 rfl (lv_at hl 0 rfl) ?_
      refine va_get (D := D) (ci := 1) (v := .ref (q 6)) (C := RX1) (T := TX1) (N := 13) hx hb hts (h_X1_X1_isTicketAhead) hown hK hP 0 rfl rfl 9 (by decide) (z_w hts 2 rfl) (fun _ h9 => h9) rfl dX1_isTicketAhead_52 ?_
      refine lv_iload_n hx hb dX1_isTicketAhead_55 rfl (lv_at hl 1 rfl) ?_
      obtain ⟨h8, hw⟩ := hw
      refine va_iald hx hb hK hP 6 0 rfl rfl h8 dX1_isTicketAhead_56 ?_
      refine lv_aload_n hx hb dX1_isTicketAhead_57 rfl (lv_at hl 0 rfl) ?_
      refine va_get (D := D) (ci := 1) (v := .ref (q 6)) (C := RX1) (T := TX1) (N := 13) hx hb hts (h_X1_X1_isTicketAhead) hown hK hP 0 rfl rfl 9 (by decide) (z_w hts 2 rfl) (fun _ h9 => h9) rfl dX1_isTicketAhead_58 ?_
      refine lv_iload_n hx hb dX1_isTicketAhead_61 rfl (lv_at hl 2 rfl) ?_
      obtain ⟨h9, hw⟩ := hw
      refine va_iald hx hb hK hP 6 0 rfl rfl h9 dX1_isTicketAhead_62 ?_
      refine lv_icmp_ge (tgt := 70) hx hb dX1_isTicketAhead_63 (by decide) (fun c10 => ?_) (fun c10 => ?_)
      · have hw := hw.1 c10
        refine lv_iconst (v := (0 : Int32)) hx hb dX1_isTicketAhead_70 (by decide) ?_
        exact W.zret (v := (0 : Int32)) hx hb hr rfl (fun t ht hW => ⟨(0 : Int32), rfl, ⟨Or.inl rfl, hw⟩, ht⟩) (fun q h => nomatch h) dX1_isTicketAhead_71 hlocks
      · have hw := hw.2 c10
        refine lv_iconst (v := (1 : Int32)) hx hb dX1_isTicketAhead_66 (by decide) ?_
        refine lv_goto (tgt := 71) hx hb dX1_isTicketAhead_67 (by decide) ?_
        exact W.zret (v := (1 : Int32)) hx hb hr rfl (fun t ht hW => ⟨(1 : Int32), rfl, ⟨Or.inr rfl, hw⟩, ht⟩) (fun q h => nomatch h) dX1_isTicketAhead_71 hlocks
  · have hw := hw.2 c3
    refine lv_aload_n hx hb dX1_isTicketAhead_15 rfl (lv_at hl 0 rfl) ?_
    refine va_get (D := D) (ci := 1) (v := .ref (q 7)) (C := RX1) (T := TX1) (N := 13) hx hb hts (h_X1_X1_isTicketAhead) hown hK hP 0 rfl rfl 10 (by decide) (z_w hts 1 rfl) (fun _ h9 => h9) rfl dX1_isTicketAhead_16 ?_
    refine lv_iload_n hx hb dX1_isTicketAhead_19 rfl (lv_at hl 1 rfl) ?_
    obtain ⟨h11, hw⟩ := hw
    refine va_iald hx hb hK hP 7 0 rfl rfl h11 dX1_isTicketAhead_20 ?_
    refine lv_aload_n hx hb dX1_isTicketAhead_21 rfl (lv_at hl 0 rfl) ?_
    refine va_get (D := D) (ci := 1) (v := .ref (q 7)) (C := RX1) (T := TX1) (N := 13) hx hb hts (h_X1_X1_isTicketAhead) hown hK hP 0 rfl rfl 10 (by decide) (z_w hts 1 rfl) (fun _ h9 => h9) rfl dX1_isTicketAhead_22 ?_
    refine lv_iload_n hx hb dX1_isTicketAhead_25 rfl (lv_at hl 2 rfl) ?_
    obtain ⟨h12, hw⟩ := hw
    refine va_iald hx hb hK hP 7 0 rfl rfl h12 dX1_isTicketAhead_26 ?_
    refine lv_icmp_ge (tgt := 34) hx hb dX1_isTicketAhead_27 (by decide) (fun c13 => ?_) (fun c13 => ?_)
    · have hw := hw.1 c13
      refine lv_iconst (v := (0 : Int32)) hx hb dX1_isTicketAhead_34 (by decide) ?_
      exact W.zret (v := (0 : Int32)) hx hb hr rfl (fun t ht hW => ⟨(0 : Int32), rfl, ⟨Or.inl rfl, hw⟩, ht⟩) (fun q h => nomatch h) dX1_isTicketAhead_35 hlocks
    · have hw := hw.2 c13
      refine lv_iconst (v := (1 : Int32)) hx hb dX1_isTicketAhead_30 (by decide) ?_
      refine lv_goto (tgt := 35) hx hb dX1_isTicketAhead_31 (by decide) ?_
      exact W.zret (v := (1 : Int32)) hx hb hr rfl (fun t ht hW => ⟨(1 : Int32), rfl, ⟨Or.inr rfl, hw⟩, ht⟩) (fun q h => nomatch h) dX1_isTicketAhead_35 hlocks
set_option maxHeartbeats 4000000 in
set_option maxRecDepth 100000 in
theorem c_X1_isTicketAhead (l : Launch) (D : va_G) (cs : Nat → ClassId) (q : Nat → Nat) (sz : Nat) (L : LnS) (x1 : Int32) (x2 : Int32) (Q : Int32 → Prop) (hw : wp_X1_isTicketAhead L x1 x2 Q) : Met l yX1_isTicketAhead wsX1_isTicketAhead ({ frames := 0, cells := 0, slots := 0, locals := 0 } : Room) (va_Pc [.ref (q 0), .int x1, .int x2] (PC D cs (w_Line cs q L) sz)) (vp_Si (fun r => (r = 0 ∨ r = 1) ∧ Q r)) 0 0 (fun _ => False) := by
  refine Met.ofW (cc := cX1_isTicketAhead) (maxL := 3) (ret := (some .boolean)) (by decide) rfl ?_
  intro p e s m args below meth c s₁ B hml hv
  obtain ⟨rfl, hsz, hP, hKK, hD0⟩ := hv
  have hC : MAt p s m _ meth c RX1 cX1_isTicketAhead 3 (some .boolean) wsX1_isTicketAhead D cs := ⟨B.exec, B.bytes, B.returns, hml, findClass_of_methodNamed B.named, atoms_spec (ws := wsX1_isTicketAhead) B.pre, B.notSynchronized, hKK⟩
  have hl := lv_entry ([.ref (q 0), .int x1, .int x2]) (n := 3) (Nat.le_of_ble_eq_true rfl)
  rw [lg_entry_eq]
  generalize (lg_sl ([.ref (q 0), .int x1, .int x2]) ++ List.replicate (3 - (lg_sl ([.ref (q 0), .int x1, .int x2])).length) Slot.unset).toArray = ls at hl ⊢
  exact t_X1_isTicketAhead hC q L x1 x2 Q hw hP hD0 ls hl
theorem h_X1_X1_ticketsAheadOf : ∀ w ∈ u_ws RX1 TX1 13, w ∈ wsX1_ticketsAheadOf := fun _ h => List.mem_cons_of_mem _ (List.mem_append_right _ h)
set_option maxHeartbeats 4000000 in
set_option maxRecDepth 100000 in
theorem t_X1_ticketsAheadOf_4 {p : Program} {l : Launch} {e : Env} {s : State} {m : MethodId} {args : Array Value} {below : List Frame} {meth : Method} {c : Code} {D : va_G} {cs : Nat → ClassId} {A : Nat → Prop} (hC : MAt p s m args meth c RX1 cX1_ticketsAheadOf 4 (some .int) wsX1_ticketsAheadOf D cs) (q : Nat → Nat) (L : LnS) (x1 : Int32) (Q : Int32 → Prop) (hP : va_P D vwCl (w_Line cs q L) s.heap) (hD : va_D A (w_Line cs q L)) : ∀ (n : Nat) (x2 : Int32) (x3 : Int32), wl_X1_ticketsAheadOf_4 L x1 Q n x2 x3 → ∀ ls : Array Slot, lv_has ls 4 [(0, .ref (q 0)), (1, .int x1), (2, .int x2), (3, .int x3)] → W p l e ({ frames := 1, cells := 0, slots := 0, locals := 22 } : Room) s m args below meth c s.heap [] 0 0 (MQ below (vp_Si Q) args s 0 0 (fun _ => False)) (F0 m 4 ls []) := by
  obtain ⟨hx, hb, hr, hml, hown, hts, hlocks, hKK⟩ := id hC
  have hK := hKK.1
  intro n
  induction n with
  | zero =>
    intro x2 x3 hw
    exact False.elim hw
  | succ n ih =>
    intro x2 x3 hw ls hl
    refine lv_iload_n hx hb dX1_ticketsAheadOf_4 rfl (lv_at hl 3 rfl) ?_
    refine lv_aload_n hx hb dX1_ticketsAheadOf_5 rfl (lv_at hl 0 rfl) ?_
    refine va_get (D := D) (ci := 1) (v := .int (L.1 0 3)) (C := RX1) (T := TX1) (N := 13) hx hb hts (h_X1_X1_ticketsAheadOf) hown hK hP 0 rfl rfl 3 (by decide) (z_w hts 1 rfl) (fun _ h9 => h9) rfl dX1_ticketsAheadOf_6 ?_
    refine lv_icmp_ge (tgt := 30) hx hb dX1_ticketsAheadOf_9 (by decide) (fun c1 => ?_) (fun c1 => ?_)
    · have hw := hw.1 c1
      refine lv_iload_n hx hb dX1_ticketsAheadOf_30 rfl (lv_at hl 2 rfl) ?_
      exact W.iret (v := x2) hx hb hr (fun t ht hW => ⟨x2, rfl, hw, ht⟩) (fun q h => nomatch h) dX1_ticketsAheadOf_31 hlocks
    · have hw := hw.2 c1
      refine lv_aload_n hx hb dX1_ticketsAheadOf_12 rfl (lv_at hl 0 rfl) ?_
      refine lv_iload_n hx hb dX1_ticketsAheadOf_13 rfl (lv_at hl 3 rfl) ?_
      refine lv_iload_n hx hb dX1_ticketsAheadOf_14 rfl (lv_at hl 1 rfl) ?_
      refine z_calli (va_runV (As := [.int x3, .int x1]) (rest := []) ⟨hx, hb, hml, hown, hts⟩ (c_X1_isTicketAhead l D cs q s.heap.size L x3 x1 _ hw) (cwV 2 hts gX1_ticketsAheadOf_X1_isTicketAhead rfl rfl rfl (by decide +kernel) ⟨Nat.le_of_ble_eq_true rfl, Nat.le_of_ble_eq_true rfl⟩) (PC_V hP hD hKK 0 1 rfl rfl) rfl rfl hl.1 rfl (lv_room (Nat.le_of_ble_eq_true rfl)) dX1_ticketsAheadOf_15 ⟨Nat.le_of_ble_eq_true rfl, Nat.le_of_ble_eq_true rfl⟩) (fun r2 hw => ?_)
      obtain ⟨b2, hw⟩ := hw
      refine lv_if_eq (tgt := 24) hx hb dX1_ticketsAheadOf_18 (by decide) (fun c3 => ?_) (fun c3 => ?_)
      · have hw := hw.1 c3
        refine lv_iinc (v := x3 + 1) (lv' := [(3, .int (x3 + 1)), (0, .ref (q 0)), (1, .int x1), (2, .int x2)]) hx hb dX1_ticketsAheadOf_24 hl (k := 3) rfl rfl (by decide) rfl (fun ls hl => ?_)
        refine lv_goto (tgt := 4) hx hb dX1_ticketsAheadOf_27 (by decide) ?_
        exact ih _ _ hw ls (lv_sub hl [1, 2, 3, 0] rfl)
      · have hw := hw.2 c3
        refine lv_iinc (v := x2 + 1) (lv' := [(2, .int (x2 + 1)), (0, .ref (q 0)), (1, .int x1), (3, .int x3)]) hx hb dX1_ticketsAheadOf_21 hl (k := 2) rfl rfl (by decide) rfl (fun ls hl => ?_)
        refine lv_iinc (v := x3 + 1) (lv' := [(3, .int (x3 + 1)), (2, .int (x2 + 1)), (0, .ref (q 0)), (1, .int x1)]) hx hb dX1_ticketsAheadOf_24 hl (k := 3) rfl rfl (by decide) rfl (fun ls hl => ?_)
        refine lv_goto (tgt := 4) hx hb dX1_ticketsAheadOf_27 (by decide) ?_
        exact ih _ _ hw ls (lv_sub hl [2, 3, 1, 0] rfl)
set_option maxHeartbeats 4000000 in
set_option maxRecDepth 100000 in
theorem t_X1_ticketsAheadOf {p : Program} {l : Launch} {e : Env} {s : State} {m : MethodId} {args : Array Value} {below : List Frame} {meth : Method} {c : Code} {D : va_G} {cs : Nat → ClassId} {A : Nat → Prop} (hC : MAt p s m args meth c RX1 cX1_ticketsAheadOf 4 (some .int) wsX1_ticketsAheadOf D cs) (q : Nat → Nat) (L : LnS) (x1 : Int32) (Q : Int32 → Prop) (hw : wp_X1_ticketsAheadOf L x1 Q) (hP : va_P D vwCl (w_Line cs q L) s.heap) (hD : va_D A (w_Line cs q L)) (ls : Array Slot) (hl : lv_has ls 4 [(0, .ref (q 0)), (1, .int x1)]) : W p l e ({ frames := 1, cells := 0, slots := 0, locals := 22 } : Room) s m args below meth c s.heap [] 0 0 (MQ below (vp_Si Q) args s 0 0 (fun _ => False)) (F0 m 0 ls []) := by
  obtain ⟨hx, hb, hr, hml, hown, hts, hlocks, hKK⟩ := id hC
  have hK := hKK.1
  refine lv_iconst (v := (0 : Int32)) hx hb dX1_ticketsAheadOf_0 (by decide) ?_
  refine lv_istore_n (lv' := [(2, .int (0 : Int32)), (0, .ref (q 0)), (1, .int x1)]) hx hb dX1_ticketsAheadOf_1 rfl hl (by decide) rfl (fun ls hl => ?_)
  refine lv_iconst (v := (0 : Int32)) hx hb dX1_ticketsAheadOf_2 (by decide) ?_
  refine lv_istore_n (lv' := [(3, .int (0 : Int32)), (2, .int (0 : Int32)), (0, .ref (q 0)), (1, .int x1)]) hx hb dX1_ticketsAheadOf_3 rfl hl (by decide) rfl (fun ls hl => ?_)
  obtain ⟨n4, hw⟩ := hw
  exact t_X1_ticketsAheadOf_4 hC q _ _ _ hP hD n4 _ _ hw ls (lv_sub hl [2, 3, 1, 0] rfl)
set_option maxHeartbeats 4000000 in
set_option maxRecDepth 100000 in
theorem c_X1_ticketsAheadOf (l : Launch) (D : va_G) (cs : Nat → ClassId) (q : Nat → Nat) (sz : Nat) (L : LnS) (x1 : Int32) (Q : Int32 → Prop) (hw : wp_X1_ticketsAheadOf L x1 Q) : Met l yX1_ticketsAheadOf wsX1_ticketsAheadOf ({ frames := 1, cells := 0, slots := 0, locals := 22 } : Room) (va_Pc [.ref (q 0), .int x1] (PC D cs (w_Line cs q L) sz)) (vp_Si Q) 0 0 (fun _ => False) := by
  refine Met.ofW (cc := cX1_ticketsAheadOf) (maxL := 4) (ret := (some .int)) (by decide) rfl ?_
  intro p e s m args below meth c s₁ B hml hv
  obtain ⟨rfl, hsz, hP, hKK, hD0⟩ := hv
  have hC : MAt p s m _ meth c RX1 cX1_ticketsAheadOf 4 (some .int) wsX1_ticketsAheadOf D cs := ⟨B.exec, B.bytes, B.returns, hml, findClass_of_methodNamed B.named, atoms_spec (ws := wsX1_ticketsAheadOf) B.pre, B.notSynchronized, hKK⟩
  have hl := lv_entry ([.ref (q 0), .int x1]) (n := 4) (Nat.le_of_ble_eq_true rfl)
  rw [lg_entry_eq]
  generalize (lg_sl ([.ref (q 0), .int x1]) ++ List.replicate (4 - (lg_sl ([.ref (q 0), .int x1])).length) Slot.unset).toArray = ls at hl ⊢
  exact t_X1_ticketsAheadOf hC q L x1 Q hw hP hD0 ls hl
theorem h_X1_X1_chainStart : ∀ w ∈ u_ws RX1 TX1 13, w ∈ wsX1_chainStart := fun _ h => List.mem_cons_of_mem _ (List.mem_append_right _ h)
set_option maxHeartbeats 4000000 in
set_option maxRecDepth 100000 in
theorem t_X1_chainStart_2 {p : Program} {l : Launch} {e : Env} {s : State} {m : MethodId} {args : Array Value} {below : List Frame} {meth : Method} {c : Code} {D : va_G} {cs : Nat → ClassId} {A : Nat → Prop} (hC : MAt p s m args meth c RX1 cX1_chainStart 3 (some .int) wsX1_chainStart D cs) (q : Nat → Nat) (L : LnS) (Q : Int32 → Prop) (hP : va_P D vwCl (w_Line cs q L) s.heap) (hD : va_D A (w_Line cs q L)) : ∀ (n : Nat) (x2 : Int32), wl_X1_chainStart_2 L Q n x2 → ∀ ls : Array Slot, lv_has ls 3 [(0, .ref (q 0)), (2, .int x2)] → W p l e ({ frames := 0, cells := 0, slots := 0, locals := 0 } : Room) s m args below meth c s.heap [] 0 0 (MQ below (vp_Si Q) args s 0 0 (fun _ => False)) (F0 m 2 ls []) := by
  obtain ⟨hx, hb, hr, hml, hown, hts, hlocks, hKK⟩ := id hC
  have hK := hKK.1
  intro n
  induction n with
  | zero =>
    intro x2 hw
    exact False.elim hw
  | succ n ih =>
    intro x2 hw ls hl
    refine lv_iload_n hx hb dX1_chainStart_2 rfl (lv_at hl 1 rfl) ?_
    refine lv_if_le (tgt := 23) hx hb dX1_chainStart_3 (by decide) (fun c1 => ?_) (fun c1 => ?_)
    · have hw := hw.1 c1
      refine lv_iload_n hx hb dX1_chainStart_23 rfl (lv_at hl 1 rfl) ?_
      exact W.iret (v := x2) hx hb hr (fun t ht hW => ⟨x2, rfl, hw, ht⟩) (fun q h => nomatch h) dX1_chainStart_24 hlocks
    · have hw := hw.2 c1
      refine lv_aload_n hx hb dX1_chainStart_6 rfl (lv_at hl 0 rfl) ?_
      refine va_get (D := D) (ci := 1) (v := .ref (q 2)) (C := RX1) (T := TX1) (N := 13) hx hb hts (h_X1_X1_chainStart) hown hK hP 0 rfl rfl 5 (by decide) (z_w hts 1 rfl) (fun _ h9 => h9) rfl dX1_chainStart_7 ?_
      refine lv_iload_n hx hb dX1_chainStart_10 rfl (lv_at hl 1 rfl) ?_
      refine lv_iconst (v := (1 : Int32)) hx hb dX1_chainStart_11 (by decide) ?_
      refine lv_isub hx hb dX1_chainStart_12 ?_
      obtain ⟨h2, hw⟩ := hw
      refine va_zald hx hb hK hP 2 1 rfl rfl h2 dX1_chainStart_13 ?_
      refine lv_if_eq (tgt := 23) hx hb dX1_chainStart_14 (by decide) (fun c3 => ?_) (fun c3 => ?_)
      · have hw := hw.1 c3
        refine lv_iload_n hx hb dX1_chainStart_23 rfl (lv_at hl 1 rfl) ?_
        exact W.iret (v := x2) hx hb hr (fun t ht hW => ⟨x2, rfl, hw, ht⟩) (fun q h => nomatch h) dX1_chainStart_24 hlocks
      · have hw := hw.2 c3
        refine lv_iinc (v := x2 + (-1)) (lv' := [(2, .int (x2 + (-1))), (0, .ref (q 0))]) hx hb dX1_chainStart_17 hl (k := 1) rfl rfl (by decide) rfl (fun ls hl => ?_)
        refine lv_goto (tgt := 2) hx hb dX1_chainStart_20 (by decide) ?_
        exact ih _ hw ls (lv_sub hl [1, 0] rfl)
set_option maxHeartbeats 4000000 in
set_option maxRecDepth 100000 in
theorem t_X1_chainStart {p : Program} {l : Launch} {e : Env} {s : State} {m : MethodId} {args : Array Value} {below : List Frame} {meth : Method} {c : Code} {D : va_G} {cs : Nat → ClassId} {A : Nat → Prop} (hC : MAt p s m args meth c RX1 cX1_chainStart 3 (some .int) wsX1_chainStart D cs) (q : Nat → Nat) (L : LnS) (x1 : Int32) (Q : Int32 → Prop) (hw : wp_X1_chainStart L x1 Q) (hP : va_P D vwCl (w_Line cs q L) s.heap) (hD : va_D A (w_Line cs q L)) (ls : Array Slot) (hl : lv_has ls 3 [(0, .ref (q 0)), (1, .int x1)]) : W p l e ({ frames := 0, cells := 0, slots := 0, locals := 0 } : Room) s m args below meth c s.heap [] 0 0 (MQ below (vp_Si Q) args s 0 0 (fun _ => False)) (F0 m 0 ls []) := by
  obtain ⟨hx, hb, hr, hml, hown, hts, hlocks, hKK⟩ := id hC
  have hK := hKK.1
  refine lv_iload_n hx hb dX1_chainStart_0 rfl (lv_at hl 1 rfl) ?_
  refine lv_istore_n (lv' := [(2, .int x1), (0, .ref (q 0)), (1, .int x1)]) hx hb dX1_chainStart_1 rfl hl (by decide) rfl (fun ls hl => ?_)
  obtain ⟨n4, hw⟩ := hw
  exact t_X1_chainStart_2 hC q _ _ hP hD n4 _ hw ls (lv_sub hl [1, 0] rfl)
set_option maxHeartbeats 4000000 in
set_option maxRecDepth 100000 in
theorem c_X1_chainStart (l : Launch) (D : va_G) (cs : Nat → ClassId) (q : Nat → Nat) (sz : Nat) (L : LnS) (x1 : Int32) (Q : Int32 → Prop) (hw : wp_X1_chainStart L x1 Q) : Met l yX1_chainStart wsX1_chainStart ({ frames := 0, cells := 0, slots := 0, locals := 0 } : Room) (va_Pc [.ref (q 0), .int x1] (PC D cs (w_Line cs q L) sz)) (vp_Si Q) 0 0 (fun _ => False) := by
  refine Met.ofW (cc := cX1_chainStart) (maxL := 3) (ret := (some .int)) (by decide) rfl ?_
  intro p e s m args below meth c s₁ B hml hv
  obtain ⟨rfl, hsz, hP, hKK, hD0⟩ := hv
  have hC : MAt p s m _ meth c RX1 cX1_chainStart 3 (some .int) wsX1_chainStart D cs := ⟨B.exec, B.bytes, B.returns, hml, findClass_of_methodNamed B.named, atoms_spec (ws := wsX1_chainStart) B.pre, B.notSynchronized, hKK⟩
  have hl := lv_entry ([.ref (q 0), .int x1]) (n := 3) (Nat.le_of_ble_eq_true rfl)
  rw [lg_entry_eq]
  generalize (lg_sl ([.ref (q 0), .int x1]) ++ List.replicate (3 - (lg_sl ([.ref (q 0), .int x1])).length) Slot.unset).toArray = ls at hl ⊢
  exact t_X1_chainStart hC q L x1 Q hw hP hD0 ls hl
set_option maxHeartbeats 4000000 in
set_option maxRecDepth 100000 in
theorem t_X1_firstAtWork_2 {p : Program} {l : Launch} {e : Env} {s : State} {m : MethodId} {args : Array Value} {below : List Frame} {meth : Method} {c : Code} {D : va_G} {cs : Nat → ClassId} {A : Nat → Prop} (hC : MAt p s m args meth c RX1 cX1_firstAtWork 4 (some .int) wsX1_firstAtWork D cs) (q : Nat → Nat) (L : LnS) (x2 : Int32) (Q : Int32 → Prop) (hP : va_P D vwCl (w_Line cs q L) s.heap) (hD : va_D A (w_Line cs q L)) : ∀ (n : Nat) (x3 : Int32), wl_X1_firstAtWork_2 L x2 Q n x3 → ∀ ls : Array Slot, lv_has ls 4 [(0, .ref (q 0)), (2, .int x2), (3, .int x3)] → W p l e ({ frames := 3, cells := 0, slots := 0, locals := 65 } : Room) s m args below meth c s.heap [] 0 0 (MQ below (vp_Si Q) args s 0 0 (fun _ => False)) (F0 m 2 ls []) := by
  obtain ⟨hx, hb, hr, hml, hown, hts, hlocks, hKK⟩ := id hC
  have hK := hKK.1
  intro n
  induction n with
  | zero =>
    intro x3 hw
    exact False.elim hw
  | succ n ih =>
    intro x3 hw ls hl
    refine lv_iload_n hx hb dX1_firstAtWork_2 rfl (lv_at hl 2 rfl) ?_
    refine lv_iload_n hx hb dX1_firstAtWork_3 rfl (lv_at hl 1 rfl) ?_
    refine lv_icmp_gt (tgt := 21) hx hb dX1_firstAtWork_4 (by decide) (fun c1 => ?_) (fun c1 => ?_)
    · have hw := hw.1 c1
      refine lv_iload_n hx hb dX1_firstAtWork_21 rfl (lv_at hl 2 rfl) ?_
      exact W.iret (v := x3) hx hb hr (fun t ht hW => ⟨x3, rfl, hw, ht⟩) (fun q h => nomatch h) dX1_firstAtWork_22 hlocks
    · have hw := hw.2 c1
      refine lv_aload_n hx hb dX1_firstAtWork_7 rfl (lv_at hl 0 rfl) ?_
      refine lv_iload_n hx hb dX1_firstAtWork_8 rfl (lv_at hl 2 rfl) ?_
      refine z_calli (va_runV (As := [.int x3]) (rest := []) ⟨hx, hb, hml, hown, hts⟩ (c_X1_isAtRest l D cs q s.heap.size L x3 _ hw) (cwV 1 hts gX1_firstAtWork_X1_isAtRest rfl rfl rfl (by decide +kernel) ⟨Nat.le_of_ble_eq_true rfl, Nat.le_of_ble_eq_true rfl⟩) (PC_V hP hD hKK 0 1 rfl rfl) rfl rfl hl.1 rfl (lv_room (Nat.le_of_ble_eq_true rfl)) dX1_firstAtWork_9 ⟨Nat.le_of_ble_eq_true rfl, Nat.le_of_ble_eq_true rfl⟩) (fun r2 hw => ?_)
      obtain ⟨b2, hw⟩ := hw
      refine lv_if_eq (tgt := 21) hx hb dX1_firstAtWork_12 (by decide) (fun c3 => ?_) (fun c3 => ?_)
      · have hw := hw.1 c3
        refine lv_iload_n hx hb dX1_firstAtWork_21 rfl (lv_at hl 2 rfl) ?_
        exact W.iret (v := x3) hx hb hr (fun t ht hW => ⟨x3, rfl, hw, ht⟩) (fun q h => nomatch h) dX1_firstAtWork_22 hlocks
      · have hw := hw.2 c3
        refine lv_iinc (v := x3 + 1) (lv' := [(3, .int (x3 + 1)), (0, .ref (q 0)), (2, .int x2)]) hx hb dX1_firstAtWork_15 hl (k := 2) rfl rfl (by decide) rfl (fun ls hl => ?_)
        refine lv_goto (tgt := 2) hx hb dX1_firstAtWork_18 (by decide) ?_
        exact ih _ hw ls (lv_sub hl [1, 2, 0] rfl)
set_option maxHeartbeats 4000000 in
set_option maxRecDepth 100000 in
theorem t_X1_firstAtWork {p : Program} {l : Launch} {e : Env} {s : State} {m : MethodId} {args : Array Value} {below : List Frame} {meth : Method} {c : Code} {D : va_G} {cs : Nat → ClassId} {A : Nat → Prop} (hC : MAt p s m args meth c RX1 cX1_firstAtWork 4 (some .int) wsX1_firstAtWork D cs) (q : Nat → Nat) (L : LnS) (x1 : Int32) (x2 : Int32) (Q : Int32 → Prop) (hw : wp_X1_firstAtWork L x1 x2 Q) (hP : va_P D vwCl (w_Line cs q L) s.heap) (hD : va_D A (w_Line cs q L)) (ls : Array Slot) (hl : lv_has ls 4 [(0, .ref (q 0)), (1, .int x1), (2, .int x2)]) : W p l e ({ frames := 3, cells := 0, slots := 0, locals := 65 } : Room) s m args below meth c s.heap [] 0 0 (MQ below (vp_Si Q) args s 0 0 (fun _ => False)) (F0 m 0 ls []) := by
  obtain ⟨hx, hb, hr, hml, hown, hts, hlocks, hKK⟩ := id hC
  have hK := hKK.1
  refine lv_iload_n hx hb dX1_firstAtWork_0 rfl (lv_at hl 1 rfl) ?_
  refine lv_istore_n (lv' := [(3, .int x1), (0, .ref (q 0)), (1, .int x1), (2, .int x2)]) hx hb dX1_firstAtWork_1 rfl hl (by decide) rfl (fun ls hl => ?_)
  obtain ⟨n4, hw⟩ := hw
  exact t_X1_firstAtWork_2 hC q _ _ _ hP hD n4 _ hw ls (lv_sub hl [1, 3, 0] rfl)
set_option maxHeartbeats 4000000 in
set_option maxRecDepth 100000 in
theorem c_X1_firstAtWork (l : Launch) (D : va_G) (cs : Nat → ClassId) (q : Nat → Nat) (sz : Nat) (L : LnS) (x1 : Int32) (x2 : Int32) (Q : Int32 → Prop) (hw : wp_X1_firstAtWork L x1 x2 Q) : Met l yX1_firstAtWork wsX1_firstAtWork ({ frames := 3, cells := 0, slots := 0, locals := 65 } : Room) (va_Pc [.ref (q 0), .int x1, .int x2] (PC D cs (w_Line cs q L) sz)) (vp_Si Q) 0 0 (fun _ => False) := by
  refine Met.ofW (cc := cX1_firstAtWork) (maxL := 4) (ret := (some .int)) (by decide) rfl ?_
  intro p e s m args below meth c s₁ B hml hv
  obtain ⟨rfl, hsz, hP, hKK, hD0⟩ := hv
  have hC : MAt p s m _ meth c RX1 cX1_firstAtWork 4 (some .int) wsX1_firstAtWork D cs := ⟨B.exec, B.bytes, B.returns, hml, findClass_of_methodNamed B.named, atoms_spec (ws := wsX1_firstAtWork) B.pre, B.notSynchronized, hKK⟩
  have hl := lv_entry ([.ref (q 0), .int x1, .int x2]) (n := 4) (Nat.le_of_ble_eq_true rfl)
  rw [lg_entry_eq]
  generalize (lg_sl ([.ref (q 0), .int x1, .int x2]) ++ List.replicate (4 - (lg_sl ([.ref (q 0), .int x1, .int x2])).length) Slot.unset).toArray = ls at hl ⊢
  exact t_X1_firstAtWork hC q L x1 x2 Q hw hP hD0 ls hl

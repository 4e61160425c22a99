set_option maxHeartbeats 4000000 in
set_option maxRecDepth 100000 in
theorem t_X2_isDigit {p : Program} {l : Launch} {e : Env} {s : State} {m : MethodId} {args : Array Value} {below : List Frame} {meth : Method} {c : Code} {D : va_G} {cs : Nat → ClassId} {A : Nat → Prop} (hC : MAt p s m args meth c RX2 cX2_isDigit 1 (some .boolean) wsX2_isDigit D cs) (x0 : Int32) (Q : Int32 → Prop) (hw : wp_X2_isDigit x0 Q) (hP : va_P D vwCl (([] : va_W)) s.heap) (hD : va_D A (([] : va_W))) (ls : Array Slot) (hl : lv_has ls 1 [(0, .int x0)]) : W p l e ({ frames := 0, cells := 0, slots := 0, locals := 0 } : Room) s m args below meth c s.heap [] 0 0 (MQ below (vp_Si (fun r => (r = 0 ∨ r = 1) ∧ Q r)) args s 0 0 (fun _ => False)) (F0 m 0 ls []) := by
  obtain ⟨hx, hb, hr, hml, hown, hts, hlocks, hKK⟩ := id hC
  have hK := hKK.1
  refine lv_iload_n hx hb dX2_isDigit_0 rfl (lv_at hl 0 rfl) ?_
  refine lv_bipush (v := (48 : Int32)) hx hb dX2_isDigit_1 (by decide) ?_
  refine lv_icmp_lt (tgt := 16) hx hb dX2_isDigit_3 (by decide) (fun c1 => ?_) (fun c1 => ?_)
  · have hw := hw.1 c1
    refine lv_iconst (v := (0 : Int32)) hx hb dX2_isDigit_16 (by decide) ?_
    exact W.zret (v := (0 : Int32)) hx hb hr rfl (fun t ht hW => ⟨(0 : Int32), rfl, ⟨Or.inl rfl, hw⟩, ht⟩) (fun q h => nomatch h) dX2_isDigit_17 hlocks
  · have hw := hw.2 c1
    refine lv_iload_n hx hb dX2_isDigit_6 rfl (lv_at hl 0 rfl) ?_
    refine lv_bipush (v := (50 : Int32)) hx hb dX2_isDigit_7 (by decide) ?_
    refine lv_icmp_gt (tgt := 16) hx hb dX2_isDigit_9 (by decide) (fun c2 => ?_) (fun c2 => ?_)
    · have hw := hw.1 c2
      refine lv_iconst (v := (0 : Int32)) hx hb dX2_isDigit_16 (by decide) ?_
      exact W.zret (v := (0 : Int32)) hx hb hr rfl (fun t ht hW => ⟨(0 : Int32), rfl, ⟨Or.inl rfl, hw⟩, ht⟩) (fun q h => nomatch h) dX2_isDigit_17 hlocks
    · have hw := hw.2 c2
      refine lv_iconst (v := (1 : Int32)) hx hb dX2_isDigit_12 (by decide) ?_
      refine lv_goto (tgt := 17) hx hb dX2_isDigit_13 (by decide) ?_
      exact W.zret (v := (1 : Int32)) hx hb hr rfl (fun t ht hW => ⟨(1 : Int32), rfl, ⟨Or.inr rfl, hw⟩, ht⟩) (fun q h => nomatch h) dX2_isDigit_17 hlocks
set_option maxHeartbeats 4000000 in
set_option maxRecDepth 100000 in
theorem c_X2_isDigit (l : Launch) (D : va_G) (cs : Nat → ClassId)  (sz : Nat) (x0 : Int32) (Q : Int32 → Prop) (hw : wp_X2_isDigit x0 Q) : Met l yX2_isDigit wsX2_isDigit ({ frames := 0, cells := 0, slots := 0, locals := 0 } : Room) (va_Pc [.int x0] (PC D cs (([] : va_W)) sz)) (vp_Si (fun r => (r = 0 ∨ r = 1) ∧ Q r)) 0 0 (fun _ => False) := by
  refine Met.ofW (cc := cX2_isDigit) (maxL := 1) (ret := (some .boolean)) (by decide) rfl ?_
  intro p e s m args below meth c s₁ B hml hv
  obtain ⟨rfl, hsz, hP, hKK, hD0⟩ := hv
  have hC : MAt p s m _ meth c RX2 cX2_isDigit 1 (some .boolean) wsX2_isDigit D cs := ⟨B.exec, B.bytes, B.returns, hml, findClass_of_methodNamed B.named, atoms_spec (ws := wsX2_isDigit) B.pre, B.notSynchronized, hKK⟩
  have hl := lv_entry ([.int x0]) (n := 1) (Nat.le_of_ble_eq_true rfl)
  rw [lg_entry_eq]
  generalize (lg_sl ([.int x0]) ++ List.replicate (1 - (lg_sl ([.int x0])).length) Slot.unset).toArray = ls at hl ⊢
  exact t_X2_isDigit hC  x0 Q hw hP hD0 ls hl
set_option maxHeartbeats 4000000 in
set_option maxRecDepth 100000 in
theorem t_X2_isMark {p : Program} {l : Launch} {e : Env} {s : State} {m : MethodId} {args : Array Value} {below : List Frame} {meth : Method} {c : Code} {D : va_G} {cs : Nat → ClassId} {A : Nat → Prop} (hC : MAt p s m args meth c RX2 cX2_isMark 1 (some .boolean) wsX2_isMark D cs) (x0 : Int32) (Q : Int32 → Prop) (hw : wp_X2_isMark x0 Q) (hP : va_P D vwCl (([] : va_W)) s.heap) (hD : va_D A (([] : va_W))) (ls : Array Slot) (hl : lv_has ls 1 [(0, .int x0)]) : W p l e ({ frames := 0, cells := 0, slots := 0, locals := 0 } : Room) s m args below meth c s.heap [] 0 0 (MQ below (vp_Si (fun r => (r = 0 ∨ r = 1) ∧ Q r)) args s 0 0 (fun _ => False)) (F0 m 0 ls []) := by
  obtain ⟨hx, hb, hr, hml, hown, hts, hlocks, hKK⟩ := id hC
  have hK := hKK.1
  refine lv_iload_n hx hb dX2_isMark_0 rfl (lv_at hl 0 rfl) ?_
  refine lv_bipush (v := (43 : Int32)) hx hb dX2_isMark_1 (by decide) ?_
  refine lv_icmp_eq (tgt := 12) hx hb dX2_isMark_3 (by decide) (fun c1 => ?_) (fun c1 => ?_)
  · have hw := hw.1 c1
    refine lv_iconst (v := (1 : Int32)) hx hb dX2_isMark_12 (by decide) ?_
    refine lv_goto (tgt := 17) hx hb dX2_isMark_13 (by decide) ?_
    exact W.zret (v := (1 : Int32)) hx hb hr rfl (fun t ht hW => ⟨(1 : Int32), rfl, ⟨Or.inr rfl, hw⟩, ht⟩) (fun q h => nomatch h) dX2_isMark_17 hlocks
  · have hw := hw.2 c1
    refine lv_iload_n hx hb dX2_isMark_6 rfl (lv_at hl 0 rfl) ?_
    refine lv_bipush (v := (45 : Int32)) hx hb dX2_isMark_7 (by decide) ?_
    refine lv_icmp_ne (tgt := 16) hx hb dX2_isMark_9 (by decide) (fun c2 => ?_) (fun c2 => ?_)
    · have hw := hw.2 c2
      refine lv_iconst (v := (0 : Int32)) hx hb dX2_isMark_16 (by decide) ?_
      exact W.zret (v := (0 : Int32)) hx hb hr rfl (fun t ht hW => ⟨(0 : Int32), rfl, ⟨Or.inl rfl, hw⟩, ht⟩) (fun q h => nomatch h) dX2_isMark_17 hlocks
    · have hw := hw.1 c2
      refine lv_iconst (v := (1 : Int32)) hx hb dX2_isMark_12 (by decide) ?_
      refine lv_goto (tgt := 17) hx hb dX2_isMark_13 (by decide) ?_
      exact W.zret (v := (1 : Int32)) hx hb hr rfl (fun t ht hW => ⟨(1 : Int32), rfl, ⟨Or.inr rfl, hw⟩, ht⟩) (fun q h => nomatch h) dX2_isMark_17 hlocks
set_option maxHeartbeats 4000000 in
set_option maxRecDepth 100000 in
theorem c_X2_isMark (l : Launch) (D : va_G) (cs : Nat → ClassId)  (sz : Nat) (x0 : Int32) (Q : Int32 → Prop) (hw : wp_X2_isMark x0 Q) : Met l yX2_isMark wsX2_isMark ({ frames := 0, cells := 0, slots := 0, locals := 0 } : Room) (va_Pc [.int x0] (PC D cs (([] : va_W)) sz)) (vp_Si (fun r => (r = 0 ∨ r = 1) ∧ Q r)) 0 0 (fun _ => False) := by
  refine Met.ofW (cc := cX2_isMark) (maxL := 1) (ret := (some .boolean)) (by decide) rfl ?_
  intro p e s m args below meth c s₁ B hml hv
  obtain ⟨rfl, hsz, hP, hKK, hD0⟩ := hv
  have hC : MAt p s m _ meth c RX2 cX2_isMark 1 (some .boolean) wsX2_isMark D cs := ⟨B.exec, B.bytes, B.returns, hml, findClass_of_methodNamed B.named, atoms_spec (ws := wsX2_isMark) B.pre, B.notSynchronized, hKK⟩
  have hl := lv_entry ([.int x0]) (n := 1) (Nat.le_of_ble_eq_true rfl)
  rw [lg_entry_eq]
  generalize (lg_sl ([.int x0]) ++ List.replicate (1 - (lg_sl ([.int x0])).length) Slot.unset).toArray = ls at hl ⊢
  exact t_X2_isMark hC  x0 Q hw hP hD0 ls hl
set_option maxHeartbeats 4000000 in
set_option maxRecDepth 100000 in
theorem t_X2_isBetween {p : Program} {l : Launch} {e : Env} {s : State} {m : MethodId} {args : Array Value} {below : List Frame} {meth : Method} {c : Code} {D : va_G} {cs : Nat → ClassId} {A : Nat → Prop} (hC : MAt p s m args meth c RX2 cX2_isBetween 1 (some .boolean) wsX2_isBetween D cs) (x0 : Int32) (Q : Int32 → Prop) (hw : wp_X2_isBetween x0 Q) (hP : va_P D vwCl (([] : va_W)) s.heap) (hD : va_D A (([] : va_W))) (ls : Array Slot) (hl : lv_has ls 1 [(0, .int x0)]) : W p l e ({ frames := 0, cells := 0, slots := 0, locals := 0 } : Room) s m args below meth c s.heap [] 0 0 (MQ below (vp_Si (fun r => (r = 0 ∨ r = 1) ∧ Q r)) args s 0 0 (fun _ => False)) (F0 m 0 ls []) := by
  obtain ⟨hx, hb, hr, hml, hown, hts, hlocks, hKK⟩ := id hC
  have hK := hKK.1
  refine lv_iload_n hx hb dX2_isBetween_0 rfl (lv_at hl 0 rfl) ?_
  refine lv_bipush (v := (47 : Int32)) hx hb dX2_isBetween_1 (by decide) ?_
  refine lv_icmp_eq (tgt := 12) hx hb dX2_isBetween_3 (by decide) (fun c1 => ?_) (fun c1 => ?_)
  · have hw := hw.1 c1
    refine lv_iconst (v := (1 : Int32)) hx hb dX2_isBetween_12 (by decide) ?_
    refine lv_goto (tgt := 17) hx hb dX2_isBetween_13 (by decide) ?_
    exact W.zret (v := (1 : Int32)) hx hb hr rfl (fun t ht hW => ⟨(1 : Int32), rfl, ⟨Or.inr rfl, hw⟩, ht⟩) (fun q h => nomatch h) dX2_isBetween_17 hlocks
  · have hw := hw.2 c1
    refine lv_iload_n hx hb dX2_isBetween_6 rfl (lv_at hl 0 rfl) ?_
    refine lv_bipush (v := (62 : Int32)) hx hb dX2_isBetween_7 (by decide) ?_
    refine lv_icmp_ne (tgt := 16) hx hb dX2_isBetween_9 (by decide) (fun c2 => ?_) (fun c2 => ?_)
    · have hw := hw.2 c2
      refine lv_iconst (v := (0 : Int32)) hx hb dX2_isBetween_16 (by decide) ?_
      exact W.zret (v := (0 : Int32)) hx hb hr rfl (fun t ht hW => ⟨(0 : Int32), rfl, ⟨Or.inl rfl, hw⟩, ht⟩) (fun q h => nomatch h) dX2_isBetween_17 hlocks
    · have hw := hw.1 c2
      refine lv_iconst (v := (1 : Int32)) hx hb dX2_isBetween_12 (by decide) ?_
      refine lv_goto (tgt := 17) hx hb dX2_isBetween_13 (by decide) ?_
      exact W.zret (v := (1 : Int32)) hx hb hr rfl (fun t ht hW => ⟨(1 : Int32), rfl, ⟨Or.inr rfl, hw⟩, ht⟩) (fun q h => nomatch h) dX2_isBetween_17 hlocks
set_option maxHeartbeats 4000000 in
set_option maxRecDepth 100000 in
theorem c_X2_isBetween (l : Launch) (D : va_G) (cs : Nat → ClassId)  (sz : Nat) (x0 : Int32) (Q : Int32 → Prop) (hw : wp_X2_isBetween x0 Q) : Met l yX2_isBetween wsX2_isBetween ({ frames := 0, cells := 0, slots := 0, locals := 0 } : Room) (va_Pc [.int x0] (PC D cs (([] : va_W)) sz)) (vp_Si (fun r => (r = 0 ∨ r = 1) ∧ Q r)) 0 0 (fun _ => False) := by
  refine Met.ofW (cc := cX2_isBetween) (maxL := 1) (ret := (some .boolean)) (by decide) rfl ?_
  intro p e s m args below meth c s₁ B hml hv
  obtain ⟨rfl, hsz, hP, hKK, hD0⟩ := hv
  have hC : MAt p s m _ meth c RX2 cX2_isBetween 1 (some .boolean) wsX2_isBetween D cs := ⟨B.exec, B.bytes, B.returns, hml, findClass_of_methodNamed B.named, atoms_spec (ws := wsX2_isBetween) B.pre, B.notSynchronized, hKK⟩
  have hl := lv_entry ([.int x0]) (n := 1) (Nat.le_of_ble_eq_true rfl)
  rw [lg_entry_eq]
  generalize (lg_sl ([.int x0]) ++ List.replicate (1 - (lg_sl ([.int x0])).length) Slot.unset).toArray = ls at hl ⊢
  exact t_X2_isBetween hC  x0 Q hw hP hD0 ls hl
theorem h_X2_X2_put : ∀ w ∈ u_ws RX2 TX2 2, w ∈ wsX2_put := fun _ h => List.mem_cons_of_mem _ (List.mem_append_right _ h)
set_option maxHeartbeats 4000000 in
set_option maxRecDepth 100000 in
theorem t_X2_put {p : Program} {l : Launch} {e : Env} {s : State} {m : MethodId} {args : Array Value} {below : List Frame} {meth : Method} {c : Code} {D : va_G} {cs : Nat → ClassId} {A : Nat → Prop} (hC : MAt p s m args meth c RX2 cX2_put 2 none wsX2_put D cs) (q : Nat → Nat) (tx : TS) (x1 : Int32) (Q : TS → Prop) (hA : ∀ q : Nat, s.heap.size ≤ q → A q) (hw : wp_X2_put tx x1 Q) (H : Heap) (locs : List Loc) (hP : va_P D vwCl (w_Text cs q tx) H) (hD : va_D A (w_Text cs q tx)) (hS : va_S A s.heap H locs) (ls : Array Slot) (hl : lv_has ls 2 [(0, .ref (q 0)), (1, .int x1)]) : W p l e ({ frames := 0, cells := 0, slots := 0, locals := 0 } : Room) s m args below meth c H locs 0 0 (MQ below (va_Qv (fun (u : TS) => Q u) (fun (u : TS) t => va_P D vwCl (w_Text cs q u) t.heap ∧ va_D A (w_Text cs q u)) A) args s 0 0 A) (F0 m 0 ls []) := by
  obtain ⟨hx, hb, hr, hml, hown, hts, hlocks, hKK⟩ := id hC
  have hK := hKK.1
  refine lv_aload_n hx hb dX2_put_0 rfl (lv_at hl 0 rfl) ?_
  refine va_get (D := D) (ci := 2) (v := .int tx.1) (C := RX2) (T := TX2) (N := 2) hx hb hts (h_X2_X2_put) hown hK hP 0 rfl rfl 1 (by decide) (z_w hts 1 rfl) (fun _ h9 => h9) rfl dX2_put_1 ?_
  refine lv_bipush (v := (100 : Int32)) hx hb dX2_put_4 (by decide) ?_
  refine lv_icmp_ge (tgt := 29) hx hb dX2_put_6 (by decide) (fun c1 => ?_) (fun c1 => ?_)
  · have hw := hw.1 c1
    exact W.vret hx hb hr (fun t ht hW => ⟨⟨(tx), rfl, hw, by rw [ht]; exact hP, hD⟩, hS.F ht⟩) hS.2.2 dX2_put_29 hlocks
  · have hw := hw.2 c1
    refine lv_aload_n hx hb dX2_put_9 rfl (lv_at hl 0 rfl) ?_
    refine va_get (D := D) (ci := 2) (v := .ref (q 1)) (C := RX2) (T := TX2) (N := 2) hx hb hts (h_X2_X2_put) hown hK hP 0 rfl rfl 0 (by decide) (z_w hts 2 rfl) (fun _ h9 => h9) rfl dX2_put_10 ?_
    refine lv_aload_n hx hb dX2_put_13 rfl (lv_at hl 0 rfl) ?_
    refine va_get (D := D) (ci := 2) (v := .int tx.1) (C := RX2) (T := TX2) (N := 2) hx hb hts (h_X2_X2_put) hown hK hP 0 rfl rfl 1 (by decide) (z_w hts 1 rfl) (fun _ h9 => h9) rfl dX2_put_14 ?_
    refine lv_iload_n hx hb dX2_put_17 rfl (lv_at hl 1 rfl) ?_
    obtain ⟨h2, hw⟩ := hw
    refine va_cast hx hb hK hP hD hS 1 2 rfl rfl h2 dX2_put_18 (fun H locs hP hD hS => ?_)
    have hP : va_P D vwCl (w_Text cs q (txS tx tx.1.toNatClampNeg (vp_nar .char x1))) H := hP
    have hD : va_D A (w_Text cs q (txS tx tx.1.toNatClampNeg (vp_nar .char x1))) := hD
    refine lv_aload_n hx hb dX2_put_19 rfl (lv_at hl 0 rfl) ?_
    refine lv_dup hx hb dX2_put_20 rfl ?_
    refine va_get (D := D) (ci := 2) (v := .int ((txS tx tx.1.toNatClampNeg (vp_nar .char x1)).1)) (C := RX2) (T := TX2) (N := 2) hx hb hts (h_X2_X2_put) hown hK hP 0 rfl rfl 1 (by decide) (z_w hts 1 rfl) (fun _ h9 => h9) rfl dX2_put_21 ?_
    refine lv_iconst (v := (1 : Int32)) hx hb dX2_put_24 (by decide) ?_
    refine lv_iadd hx hb dX2_put_25 ?_
    refine va_put (D := D) (ci := 2) (v := .int (((txS tx tx.1.toNatClampNeg (vp_nar .char x1)).1) + (1 : Int32))) (ty := .int) (C := RX2) (T := TX2) (N := 2) hx hb hts (h_X2_X2_put) tyX2 tyX2_ok nmX2 hown hK hP hD hS 0 rfl rfl 1 (by decide) (z_w hts 1 rfl) (fun _ h9 => h9) rfl (by decide +kernel) rfl rfl (Nat.le_of_ble_eq_true rfl) dX2_put_26 (fun H locs hP hD hS => ?_)
    have hP : va_P D vwCl (w_Text cs q (txL (txS tx tx.1.toNatClampNeg (vp_nar .char x1)) (((txS tx tx.1.toNatClampNeg (vp_nar .char x1)).1) + (1 : Int32)))) H := hP
    have hD : va_D A (w_Text cs q (txL (txS tx tx.1.toNatClampNeg (vp_nar .char x1)) (((txS tx tx.1.toNatClampNeg (vp_nar .char x1)).1) + (1 : Int32)))) := hD
    exact W.vret hx hb hr (fun t ht hW => ⟨⟨(txL (txS tx tx.1.toNatClampNeg (vp_nar .char x1)) (((txS tx tx.1.toNatClampNeg (vp_nar .char x1)).1) + (1 : Int32))), rfl, hw, by rw [ht]; exact hP, hD⟩, hS.F ht⟩) hS.2.2 dX2_put_29 hlocks
set_option maxHeartbeats 4000000 in
set_option maxRecDepth 100000 in
theorem c_X2_put (l : Launch) (D : va_G) (cs : Nat → ClassId) (q : Nat → Nat) (sz : Nat) (tx : TS) (x1 : Int32) (Q : TS → Prop) (hw : wp_X2_put tx x1 Q) : Met l yX2_put wsX2_put ({ frames := 0, cells := 0, slots := 0, locals := 0 } : Room) (va_Pc [.ref (q 0), .int x1] (PC D cs (w_Text cs q tx) sz)) (va_Qv (fun (u : TS) => Q u) (fun (u : TS) t => va_P D vwCl (w_Text cs q u) t.heap ∧ va_D (va_A (w_Text cs q tx) sz) (w_Text cs q u)) (va_A (w_Text cs q tx) sz)) 0 0 (va_A (w_Text cs q tx) sz) := by
  refine Met.ofW (cc := cX2_put) (maxL := 2) (ret := none) (by decide) rfl ?_
  intro p e s m args below meth c s₁ B hml hv
  obtain ⟨rfl, hsz, hP, hKK, hD0⟩ := hv
  have hC : MAt p s m _ meth c RX2 cX2_put 2 none wsX2_put D cs := ⟨B.exec, B.bytes, B.returns, hml, findClass_of_methodNamed B.named, atoms_spec (ws := wsX2_put) B.pre, B.notSynchronized, hKK⟩
  have hl := lv_entry ([.ref (q 0), .int x1]) (n := 2) (Nat.le_of_ble_eq_true rfl)
  rw [lg_entry_eq]
  generalize (lg_sl ([.ref (q 0), .int x1]) ++ List.replicate (2 - (lg_sl ([.ref (q 0), .int x1])).length) Slot.unset).toArray = ls at hl ⊢
  subst hsz
  have hD := hD0.self (sz := s.heap.size)
  have hA : ∀ z : Nat, s.heap.size ≤ z → va_A (w_Text cs q tx) s.heap.size z := fun z h => Or.inr h
  exact t_X2_put hC q tx x1 Q hA hw s.heap [] hP hD va_S.rf ls hl
theorem h_X2_X2_firstWrong : ∀ w ∈ u_ws RX2 TX2 2, w ∈ wsX2_firstWrong := fun _ h => List.mem_cons_of_mem _ (List.mem_append_right _ h)
set_option maxHeartbeats 4000000 in
set_option maxRecDepth 100000 in
theorem t_X2_firstWrong_12 {p : Program} {l : Launch} {e : Env} {s : State} {m : MethodId} {args : Array Value} {below : List Frame} {meth : Method} {c : Code} {D : va_G} {cs : Nat → ClassId} {A : Nat → Prop} (hC : MAt p s m args meth c RX2 cX2_firstWrong 7 (some .int) wsX2_firstWrong D cs) (q : Nat → Nat) (tx : TS) (Q : Int32 → Prop) (hP : va_P D vwCl (w_Text cs q tx) s.heap) (hD : va_D A (w_Text cs q tx)) : ∀ (n : Nat) (x1 : Int32) (x2 : Int32) (x3 : Int32) (x4 : Int32) (x5 : Int32), wl_X2_firstWrong_12 tx Q n x1 x2 x3 x4 x5 → ∀ ls : Array Slot, lv_has ls 7 [(0, .ref (q 0)), (1, .int x1), (2, .int x2), (3, .int x3), (4, .int x4), (5, .int x5)] → W p l e ({ frames := 1, cells := 0, slots := 0, locals := 20 } : Room) s m args below meth c s.heap [] 0 0 (MQ below (vp_Si Q) args s 0 0 (fun _ => False)) (F0 m 12 ls []) := by
  obtain ⟨hx, hb, hr, hml, hown, hts, hlocks, hKK⟩ := id hC
  have hK := hKK.1
  intro n
  induction n with
  | zero =>
    intro x1 x2 x3 x4 x5 hw
    exact False.elim hw
  | succ n ih =>
    intro x1 x2 x3 x4 x5 hw ls hl
    refine lv_iload hx hb dX2_firstWrong_12 (lv_at hl 5 rfl) ?_
    refine lv_aload_n hx hb dX2_firstWrong_14 rfl (lv_at hl 0 rfl) ?_
    refine va_get (D := D) (ci := 2) (v := .int tx.1) (C := RX2) (T := TX2) (N := 2) hx hb hts (h_X2_X2_firstWrong) hown hK hP 0 rfl rfl 1 (by decide) (z_w hts 1 rfl) (fun _ h9 => h9) rfl dX2_firstWrong_15 ?_
    refine lv_icmp_ge (tgt := 134) hx hb dX2_firstWrong_18 (by decide) (fun c1 => ?_) (fun c1 => ?_)
    · have hw := hw.1 c1
      refine lv_iload_n hx hb dX2_firstWrong_134 rfl (lv_at hl 2 rfl) ?_
      refine lv_if_ne (tgt := 145) hx hb dX2_firstWrong_135 (by decide) (fun c2 => ?_) (fun c2 => ?_)
      · have hw := hw.2 c2
        refine lv_iconst (v := (-1 : Int32)) hx hb dX2_firstWrong_145 (by decide) ?_
        exact W.iret (v := (-1 : Int32)) hx hb hr (fun t ht hW => ⟨(-1 : Int32), rfl, hw, ht⟩) (fun q h => nomatch h) dX2_firstWrong_146 hlocks
      · have hw := hw.1 c2
        refine lv_aload_n hx hb dX2_firstWrong_138 rfl (lv_at hl 0 rfl) ?_
        refine va_get (D := D) (ci := 2) (v := .int tx.1) (C := RX2) (T := TX2) (N := 2) hx hb hts (h_X2_X2_firstWrong) hown hK hP 0 rfl rfl 1 (by decide) (z_w hts 1 rfl) (fun _ h9 => h9) rfl dX2_firstWrong_139 ?_
        refine lv_goto (tgt := 146) hx hb dX2_firstWrong_142 (by decide) ?_
        exact W.iret (v := tx.1) hx hb hr (fun t ht hW => ⟨tx.1, rfl, hw, ht⟩) (fun q h => nomatch h) dX2_firstWrong_146 hlocks
    · have hw := hw.2 c1
      refine lv_aload_n hx hb dX2_firstWrong_21 rfl (lv_at hl 0 rfl) ?_
      refine va_get (D := D) (ci := 2) (v := .ref (q 1)) (C := RX2) (T := TX2) (N := 2) hx hb hts (h_X2_X2_firstWrong) hown hK hP 0 rfl rfl 0 (by decide) (z_w hts 2 rfl) (fun _ h9 => h9) rfl dX2_firstWrong_22 ?_
      refine lv_iload hx hb dX2_firstWrong_25 (lv_at hl 5 rfl) ?_
      obtain ⟨h3, hw⟩ := hw
      refine va_cald hx hb hK hP 1 2 rfl rfl h3 dX2_firstWrong_27 ?_
      refine lv_istore (lv' := [(6, .int (tx.2 x5.toNatClampNeg)), (0, .ref (q 0)), (1, .int x1), (2, .int x2), (3, .int x3), (4, .int x4), (5, .int x5)]) hx hb dX2_firstWrong_28 hl (by decide) rfl (fun ls hl => ?_)
      refine lv_iload hx hb dX2_firstWrong_30 (lv_at hl 0 rfl) ?_
      have hPc := hP.sub (ws' := ([] : va_W)) [] rfl
      have hDc := hD.sub (ws' := ([] : va_W)) [] (by decide) rfl
      refine z_calli (va_runS (As := [.int (tx.2 x5.toNatClampNeg)]) (rest := []) ⟨hx, hb, hml, hown, hts⟩ (c_X2_isDigit l D cs  s.heap.size (tx.2 x5.toNatClampNeg) _ hw) (va_cwS 1 hts gX2_firstWrong_X2_isDigit rfl rfl rfl (by decide +kernel) ⟨Nat.le_of_ble_eq_true rfl, Nat.le_of_ble_eq_true rfl⟩) (PC_S hPc hDc hKK) rfl rfl hl.1 rfl (lv_room (Nat.le_of_ble_eq_true rfl)) dX2_firstWrong_32 ⟨Nat.le_of_ble_eq_true rfl, Nat.le_of_ble_eq_true rfl⟩) (fun r4 hw => ?_)
      obtain ⟨b4, hw⟩ := hw
      refine lv_if_eq (tgt := 55) hx hb dX2_firstWrong_35 (by decide) (fun c5 => ?_) (fun c5 => ?_)
      · have hw := hw.1 c5
        refine lv_iload hx hb dX2_firstWrong_55 (lv_at hl 0 rfl) ?_
        have hPc := hP.sub (ws' := ([] : va_W)) [] rfl
        have hDc := hD.sub (ws' := ([] : va_W)) [] (by decide) rfl
        refine z_calli (va_runS (As := [.int (tx.2 x5.toNatClampNeg)]) (rest := []) ⟨hx, hb, hml, hown, hts⟩ (c_X2_isMark l D cs  s.heap.size (tx.2 x5.toNatClampNeg) _ hw) (va_cwS 1 hts gX2_firstWrong_X2_isMark rfl rfl rfl (by decide +kernel) ⟨Nat.le_of_ble_eq_true rfl, Nat.le_of_ble_eq_true rfl⟩) (PC_S hPc hDc hKK) rfl rfl hl.1 rfl (lv_room (Nat.le_of_ble_eq_true rfl)) dX2_firstWrong_57 ⟨Nat.le_of_ble_eq_true rfl, Nat.le_of_ble_eq_true rfl⟩) (fun r6 hw => ?_)
        obtain ⟨b6, hw⟩ := hw
        refine lv_if_eq (tgt := 92) hx hb dX2_firstWrong_60 (by decide) (fun c7 => ?_) (fun c7 => ?_)
        · have hw := hw.1 c7
          refine lv_iload hx hb dX2_firstWrong_92 (lv_at hl 0 rfl) ?_
          have hPc := hP.sub (ws' := ([] : va_W)) [] rfl
          have hDc := hD.sub (ws' := ([] : va_W)) [] (by decide) rfl
          refine z_calli (va_runS (As := [.int (tx.2 x5.toNatClampNeg)]) (rest := []) ⟨hx, hb, hml, hown, hts⟩ (c_X2_isBetween l D cs  s.heap.size (tx.2 x5.toNatClampNeg) _ hw) (va_cwS 1 hts gX2_firstWrong_X2_isBetween rfl rfl rfl (by decide +kernel) ⟨Nat.le_of_ble_eq_true rfl, Nat.le_of_ble_eq_true rfl⟩) (PC_S hPc hDc hKK) rfl rfl hl.1 rfl (lv_room (Nat.le_of_ble_eq_true rfl)) dX2_firstWrong_94 ⟨Nat.le_of_ble_eq_true rfl, Nat.le_of_ble_eq_true rfl⟩) (fun r8 hw => ?_)
          obtain ⟨b8, hw⟩ := hw
          refine lv_if_eq (tgt := 121) hx hb dX2_firstWrong_97 (by decide) (fun c9 => ?_) (fun c9 => ?_)
          · have hw := hw.1 c9
            refine lv_iload hx hb dX2_firstWrong_121 (lv_at hl 6 rfl) ?_
            exact W.iret (v := x5) hx hb hr (fun t ht hW => ⟨x5, rfl, hw, ht⟩) (fun q h => nomatch h) dX2_firstWrong_123 hlocks
          · have hw := hw.2 c9
            refine lv_iload_n hx hb dX2_firstWrong_100 rfl (lv_at hl 3 rfl) ?_
            refine lv_if_eq (tgt := 110) hx hb dX2_firstWrong_101 (by decide) (fun c10 => ?_) (fun c10 => ?_)
            · have hw := hw.1 c10
              refine lv_iload hx hb dX2_firstWrong_110 (lv_at hl 6 rfl) ?_
              exact W.iret (v := x5) hx hb hr (fun t ht hW => ⟨x5, rfl, hw, ht⟩) (fun q h => nomatch h) dX2_firstWrong_112 hlocks
            · have hw := hw.2 c10
              refine lv_iload_n hx hb dX2_firstWrong_104 rfl (lv_at hl 2 rfl) ?_
              refine lv_bipush (v := (6 : Int32)) hx hb dX2_firstWrong_105 (by decide) ?_
              refine lv_icmp_ne (tgt := 113) hx hb dX2_firstWrong_107 (by decide) (fun c11 => ?_) (fun c11 => ?_)
              · have hw := hw.2 c11
                refine lv_iinc (v := x1 + 1) (lv' := [(1, .int (x1 + 1)), (6, .int (tx.2 x5.toNatClampNeg)), (0, .ref (q 0)), (2, .int x2), (3, .int x3), (4, .int x4), (5, .int x5)]) hx hb dX2_firstWrong_113 hl (k := 2) rfl rfl (by decide) rfl (fun ls hl => ?_)
                refine lv_iconst (v := (0 : Int32)) hx hb dX2_firstWrong_116 (by decide) ?_
                refine lv_istore_n (lv' := [(2, .int (0 : Int32)), (1, .int (x1 + 1)), (6, .int (tx.2 x5.toNatClampNeg)), (0, .ref (q 0)), (3, .int x3), (4, .int x4), (5, .int x5)]) hx hb dX2_firstWrong_117 rfl hl (by decide) rfl (fun ls hl => ?_)
                refine lv_goto (tgt := 124) hx hb dX2_firstWrong_118 (by decide) ?_
                refine lv_iload hx hb dX2_firstWrong_124 (lv_at hl 2 rfl) ?_
                refine lv_istore (lv' := [(4, .int (tx.2 x5.toNatClampNeg)), (2, .int (0 : Int32)), (1, .int (x1 + 1)), (6, .int (tx.2 x5.toNatClampNeg)), (0, .ref (q 0)), (3, .int x3), (5, .int x5)]) hx hb dX2_firstWrong_126 hl (by decide) rfl (fun ls hl => ?_)
                refine lv_iinc (v := x5 + 1) (lv' := [(5, .int (x5 + 1)), (4, .int (tx.2 x5.toNatClampNeg)), (2, .int (0 : Int32)), (1, .int (x1 + 1)), (6, .int (tx.2 x5.toNatClampNeg)), (0, .ref (q 0)), (3, .int x3)]) hx hb dX2_firstWrong_128 hl (k := 6) rfl rfl (by decide) rfl (fun ls hl => ?_)
                refine lv_goto (tgt := 12) hx hb dX2_firstWrong_131 (by decide) ?_
                exact ih _ _ _ _ _ hw ls (lv_sub hl [5, 3, 2, 6, 1, 0] rfl)
              · have hw := hw.1 c11
                refine lv_iload hx hb dX2_firstWrong_110 (lv_at hl 6 rfl) ?_
                exact W.iret (v := x5) hx hb hr (fun t ht hW => ⟨x5, rfl, hw, ht⟩) (fun q h => nomatch h) dX2_firstWrong_112 hlocks
        · have hw := hw.2 c7
          refine lv_iload_n hx hb dX2_firstWrong_63 rfl (lv_at hl 3 rfl) ?_
          refine lv_if_eq (tgt := 83) hx hb dX2_firstWrong_64 (by decide) (fun c12 => ?_) (fun c12 => ?_)
          · have hw := hw.1 c12
            refine lv_iload hx hb dX2_firstWrong_83 (lv_at hl 6 rfl) ?_
            exact W.iret (v := x5) hx hb hr (fun t ht hW => ⟨x5, rfl, hw, ht⟩) (fun q h => nomatch h) dX2_firstWrong_85 hlocks
          · have hw := hw.2 c12
            refine lv_iload_n hx hb dX2_firstWrong_67 rfl (lv_at hl 4 rfl) ?_
            refine lv_iconst (v := (5 : Int32)) hx hb dX2_firstWrong_68 (by decide) ?_
            refine lv_icmp_eq (tgt := 83) hx hb dX2_firstWrong_69 (by decide) (fun c13 => ?_) (fun c13 => ?_)
            · have hw := hw.1 c13
              refine lv_iload hx hb dX2_firstWrong_83 (lv_at hl 6 rfl) ?_
              exact W.iret (v := x5) hx hb hr (fun t ht hW => ⟨x5, rfl, hw, ht⟩) (fun q h => nomatch h) dX2_firstWrong_85 hlocks
            · have hw := hw.2 c13
              refine lv_iload_n hx hb dX2_firstWrong_72 rfl (lv_at hl 4 rfl) ?_
              refine lv_if_le (tgt := 86) hx hb dX2_firstWrong_73 (by decide) (fun c14 => ?_) (fun c14 => ?_)
              · have hw := hw.1 c14
                refine lv_iinc (v := x3 + 1) (lv' := [(3, .int (x3 + 1)), (6, .int (tx.2 x5.toNatClampNeg)), (0, .ref (q 0)), (1, .int x1), (2, .int x2), (4, .int x4), (5, .int x5)]) hx hb dX2_firstWrong_86 hl (k := 4) rfl rfl (by decide) rfl (fun ls hl => ?_)
                refine lv_goto (tgt := 124) hx hb dX2_firstWrong_89 (by decide) ?_
                refine lv_iload hx hb dX2_firstWrong_124 (lv_at hl 1 rfl) ?_
                refine lv_istore (lv' := [(4, .int (tx.2 x5.toNatClampNeg)), (3, .int (x3 + 1)), (6, .int (tx.2 x5.toNatClampNeg)), (0, .ref (q 0)), (1, .int x1), (2, .int x2), (5, .int x5)]) hx hb dX2_firstWrong_126 hl (by decide) rfl (fun ls hl => ?_)
                refine lv_iinc (v := x5 + 1) (lv' := [(5, .int (x5 + 1)), (4, .int (tx.2 x5.toNatClampNeg)), (3, .int (x3 + 1)), (6, .int (tx.2 x5.toNatClampNeg)), (0, .ref (q 0)), (1, .int x1), (2, .int x2)]) hx hb dX2_firstWrong_128 hl (k := 6) rfl rfl (by decide) rfl (fun ls hl => ?_)
                refine lv_goto (tgt := 12) hx hb dX2_firstWrong_131 (by decide) ?_
                exact ih _ _ _ _ _ hw ls (lv_sub hl [4, 5, 6, 2, 1, 0] rfl)
              · have hw := hw.2 c14
                refine lv_iload hx hb dX2_firstWrong_76 (lv_at hl 0 rfl) ?_
                refine lv_iload hx hb dX2_firstWrong_78 (lv_at hl 5 rfl) ?_
                refine lv_icmp_eq (tgt := 86) hx hb dX2_firstWrong_80 (by decide) (fun c15 => ?_) (fun c15 => ?_)
                · have hw := hw.1 c15
                  refine lv_iinc (v := x3 + 1) (lv' := [(3, .int (x3 + 1)), (6, .int (tx.2 x5.toNatClampNeg)), (0, .ref (q 0)), (1, .int x1), (2, .int x2), (4, .int x4), (5, .int x5)]) hx hb dX2_firstWrong_86 hl (k := 4) rfl rfl (by decide) rfl (fun ls hl => ?_)
                  refine lv_goto (tgt := 124) hx hb dX2_firstWrong_89 (by decide) ?_
                  refine lv_iload hx hb dX2_firstWrong_124 (lv_at hl 1 rfl) ?_
                  refine lv_istore (lv' := [(4, .int (tx.2 x5.toNatClampNeg)), (3, .int (x3 + 1)), (6, .int (tx.2 x5.toNatClampNeg)), (0, .ref (q 0)), (1, .int x1), (2, .int x2), (5, .int x5)]) hx hb dX2_firstWrong_126 hl (by decide) rfl (fun ls hl => ?_)
                  refine lv_iinc (v := x5 + 1) (lv' := [(5, .int (x5 + 1)), (4, .int (tx.2 x5.toNatClampNeg)), (3, .int (x3 + 1)), (6, .int (tx.2 x5.toNatClampNeg)), (0, .ref (q 0)), (1, .int x1), (2, .int x2)]) hx hb dX2_firstWrong_128 hl (k := 6) rfl rfl (by decide) rfl (fun ls hl => ?_)
                  refine lv_goto (tgt := 12) hx hb dX2_firstWrong_131 (by decide) ?_
                  exact ih _ _ _ _ _ hw ls (lv_sub hl [4, 5, 6, 2, 1, 0] rfl)
                · have hw := hw.2 c15
                  refine lv_iload hx hb dX2_firstWrong_83 (lv_at hl 6 rfl) ?_
                  exact W.iret (v := x5) hx hb hr (fun t ht hW => ⟨x5, rfl, hw, ht⟩) (fun q h => nomatch h) dX2_firstWrong_85 hlocks
      · have hw := hw.2 c5
        refine lv_iload_n hx hb dX2_firstWrong_38 rfl (lv_at hl 3 rfl) ?_
        refine lv_bipush (v := (9 : Int32)) hx hb dX2_firstWrong_39 (by decide) ?_
        refine lv_icmp_ne (tgt := 47) hx hb dX2_firstWrong_41 (by decide) (fun c16 => ?_) (fun c16 => ?_)
        · have hw := hw.2 c16
          refine lv_iinc (v := x2 + 1) (lv' := [(2, .int (x2 + 1)), (6, .int (tx.2 x5.toNatClampNeg)), (0, .ref (q 0)), (1, .int x1), (3, .int x3), (4, .int x4), (5, .int x5)]) hx hb dX2_firstWrong_47 hl (k := 3) rfl rfl (by decide) rfl (fun ls hl => ?_)
          refine lv_iconst (v := (0 : Int32)) hx hb dX2_firstWrong_50 (by decide) ?_
          refine lv_istore_n (lv' := [(3, .int (0 : Int32)), (2, .int (x2 + 1)), (6, .int (tx.2 x5.toNatClampNeg)), (0, .ref (q 0)), (1, .int x1), (4, .int x4), (5, .int x5)]) hx hb dX2_firstWrong_51 rfl hl (by decide) rfl (fun ls hl => ?_)
          refine lv_goto (tgt := 124) hx hb dX2_firstWrong_52 (by decide) ?_
          refine lv_iload hx hb dX2_firstWrong_124 (lv_at hl 2 rfl) ?_
          refine lv_istore (lv' := [(4, .int (tx.2 x5.toNatClampNeg)), (3, .int (0 : Int32)), (2, .int (x2 + 1)), (6, .int (tx.2 x5.toNatClampNeg)), (0, .ref (q 0)), (1, .int x1), (5, .int x5)]) hx hb dX2_firstWrong_126 hl (by decide) rfl (fun ls hl => ?_)
          refine lv_iinc (v := x5 + 1) (lv' := [(5, .int (x5 + 1)), (4, .int (tx.2 x5.toNatClampNeg)), (3, .int (0 : Int32)), (2, .int (x2 + 1)), (6, .int (tx.2 x5.toNatClampNeg)), (0, .ref (q 0)), (1, .int x1)]) hx hb dX2_firstWrong_128 hl (k := 6) rfl rfl (by decide) rfl (fun ls hl => ?_)
          refine lv_goto (tgt := 12) hx hb dX2_firstWrong_131 (by decide) ?_
          exact ih _ _ _ _ _ hw ls (lv_sub hl [5, 6, 3, 2, 1, 0] rfl)
        · have hw := hw.1 c16
          refine lv_iload hx hb dX2_firstWrong_44 (lv_at hl 6 rfl) ?_
          exact W.iret (v := x5) hx hb hr (fun t ht hW => ⟨x5, rfl, hw, ht⟩) (fun q h => nomatch h) dX2_firstWrong_46 hlocks
set_option maxHeartbeats 4000000 in
set_option maxRecDepth 100000 in
theorem t_X2_firstWrong {p : Program} {l : Launch} {e : Env} {s : State} {m : MethodId} {args : Array Value} {below : List Frame} {meth : Method} {c : Code} {D : va_G} {cs : Nat → ClassId} {A : Nat → Prop} (hC : MAt p s m args meth c RX2 cX2_firstWrong 7 (some .int) wsX2_firstWrong D cs) (q : Nat → Nat) (tx : TS) (Q : Int32 → Prop) (hw : wp_X2_firstWrong tx Q) (hP : va_P D vwCl (w_Text cs q tx) s.heap) (hD : va_D A (w_Text cs q tx)) (ls : Array Slot) (hl : lv_has ls 7 [(0, .ref (q 0))]) : W p l e ({ frames := 1, cells := 0, slots := 0, locals := 20 } : Room) s m args below meth c s.heap [] 0 0 (MQ below (vp_Si Q) args s 0 0 (fun _ => False)) (F0 m 0 ls []) := by
  obtain ⟨hx, hb, hr, hml, hown, hts, hlocks, hKK⟩ := id hC
  have hK := hKK.1
  refine lv_iconst (v := (1 : Int32)) hx hb dX2_firstWrong_0 (by decide) ?_
  refine lv_istore_n (lv' := [(1, .int (1 : Int32)), (0, .ref (q 0))]) hx hb dX2_firstWrong_1 rfl hl (by decide) rfl (fun ls hl => ?_)
  refine lv_iconst (v := (0 : Int32)) hx hb dX2_firstWrong_2 (by decide) ?_
  refine lv_istore_n (lv' := [(2, .int (0 : Int32)), (1, .int (1 : Int32)), (0, .ref (q 0))]) hx hb dX2_firstWrong_3 rfl hl (by decide) rfl (fun ls hl => ?_)
  refine lv_iconst (v := (0 : Int32)) hx hb dX2_firstWrong_4 (by decide) ?_
  refine lv_istore_n (lv' := [(3, .int (0 : Int32)), (2, .int (0 : Int32)), (1, .int (1 : Int32)), (0, .ref (q 0))]) hx hb dX2_firstWrong_5 rfl hl (by decide) rfl (fun ls hl => ?_)
  refine lv_iconst (v := (0 : Int32)) hx hb dX2_firstWrong_6 (by decide) ?_
  refine lv_istore (lv' := [(4, .int (0 : Int32)), (3, .int (0 : Int32)), (2, .int (0 : Int32)), (1, .int (1 : Int32)), (0, .ref (q 0))]) hx hb dX2_firstWrong_7 hl (by decide) rfl (fun ls hl => ?_)
  refine lv_iconst (v := (0 : Int32)) hx hb dX2_firstWrong_9 (by decide) ?_
  refine lv_istore (lv' := [(5, .int (0 : Int32)), (4, .int (0 : Int32)), (3, .int (0 : Int32)), (2, .int (0 : Int32)), (1, .int (1 : Int32)), (0, .ref (q 0))]) hx hb dX2_firstWrong_10 hl (by decide) rfl (fun ls hl => ?_)
  obtain ⟨n17, hw⟩ := hw
  exact t_X2_firstWrong_12 hC q _ _ hP hD n17 _ _ _ _ _ hw ls (lv_sub hl [5, 4, 3, 2, 1, 0] rfl)
set_option maxHeartbeats 4000000 in
set_option maxRecDepth 100000 in
theorem c_X2_firstWrong (l : Launch) (D : va_G) (cs : Nat → ClassId) (q : Nat → Nat) (sz : Nat) (tx : TS) (Q : Int32 → Prop) (hw : wp_X2_firstWrong tx Q) : Met l yX2_firstWrong wsX2_firstWrong ({ frames := 1, cells := 0, slots := 0, locals := 20 } : Room) (va_Pc [.ref (q 0)] (PC D cs (w_Text cs q tx) sz)) (vp_Si Q) 0 0 (fun _ => False) := by
  refine Met.ofW (cc := cX2_firstWrong) (maxL := 7) (ret := (some .int)) (by decide) rfl ?_
  intro p e s m args below meth c s₁ B hml hv
  obtain ⟨rfl, hsz, hP, hKK, hD0⟩ := hv
  have hC : MAt p s m _ meth c RX2 cX2_firstWrong 7 (some .int) wsX2_firstWrong D cs := ⟨B.exec, B.bytes, B.returns, hml, findClass_of_methodNamed B.named, atoms_spec (ws := wsX2_firstWrong) B.pre, B.notSynchronized, hKK⟩
  have hl := lv_entry ([.ref (q 0)]) (n := 7) (Nat.le_of_ble_eq_true rfl)
  rw [lg_entry_eq]
  generalize (lg_sl ([.ref (q 0)]) ++ List.replicate (7 - (lg_sl ([.ref (q 0)])).length) Slot.unset).toArray = ls at hl ⊢
  exact t_X2_firstWrong hC q tx Q hw hP hD0 ls hl
theorem h_X2_X2_countersInText : ∀ w ∈ u_ws RX2 TX2 2, w ∈ wsX2_countersInText := fun _ h => List.mem_cons_of_mem _ (List.mem_append_right _ h)
set_option maxHeartbeats 4000000 in
set_option maxRecDepth 100000 in
theorem t_X2_countersInText_4 {p : Program} {l : Launch} {e : Env} {s : State} {m : MethodId} {args : Array Value} {below : List Frame} {meth : Method} {c : Code} {D : va_G} {cs : Nat → ClassId} {A : Nat → Prop} (hC : MAt p s m args meth c RX2 cX2_countersInText 3 (some .int) wsX2_countersInText D cs) (q : Nat → Nat) (tx : TS) (Q : Int32 → Prop) (hP : va_P D vwCl (w_Text cs q tx) s.heap) (hD : va_D A (w_Text cs q tx)) : ∀ (n : Nat) (x1 : Int32) (x2 : Int32), wl_X2_countersInText_4 tx Q n x1 x2 → ∀ ls : Array Slot, lv_has ls 3 [(0, .ref (q 0)), (1, .int x1), (2, .int x2)] → W p l e ({ frames := 1, cells := 0, slots := 0, locals := 20 } : Room) s m args below meth c s.heap [] 0 0 (MQ below (vp_Si Q) args s 0 0 (fun _ => False)) (F0 m 4 ls []) := by
  obtain ⟨hx, hb, hr, hml, hown, hts, hlocks, hKK⟩ := id hC
  have hK := hKK.1
  intro n
  induction n with
  | zero =>
    intro x1 x2 hw
    exact False.elim hw
  | succ n ih =>
    intro x1 x2 hw ls hl
    refine lv_iload_n hx hb dX2_countersInText_4 rfl (lv_at hl 2 rfl) ?_
    refine lv_aload_n hx hb dX2_countersInText_5 rfl (lv_at hl 0 rfl) ?_
    refine va_get (D := D) (ci := 2) (v := .int tx.1) (C := RX2) (T := TX2) (N := 2) hx hb hts (h_X2_X2_countersInText) hown hK hP 0 rfl rfl 1 (by decide) (z_w hts 1 rfl) (fun _ h9 => h9) rfl dX2_countersInText_6 ?_
    refine lv_icmp_ge (tgt := 33) hx hb dX2_countersInText_9 (by decide) (fun c1 => ?_) (fun c1 => ?_)
    · have hw := hw.1 c1
      refine lv_iload_n hx hb dX2_countersInText_33 rfl (lv_at hl 1 rfl) ?_
      exact W.iret (v := x1) hx hb hr (fun t ht hW => ⟨x1, rfl, hw, ht⟩) (fun q h => nomatch h) dX2_countersInText_34 hlocks
    · have hw := hw.2 c1
      refine lv_aload_n hx hb dX2_countersInText_12 rfl (lv_at hl 0 rfl) ?_
      refine va_get (D := D) (ci := 2) (v := .ref (q 1)) (C := RX2) (T := TX2) (N := 2) hx hb hts (h_X2_X2_countersInText) hown hK hP 0 rfl rfl 0 (by decide) (z_w hts 2 rfl) (fun _ h9 => h9) rfl dX2_countersInText_13 ?_
      refine lv_iload_n hx hb dX2_countersInText_16 rfl (lv_at hl 2 rfl) ?_
      obtain ⟨h2, hw⟩ := hw
      refine va_cald hx hb hK hP 1 2 rfl rfl h2 dX2_countersInText_17 ?_
      have hPc := hP.sub (ws' := ([] : va_W)) [] rfl
      have hDc := hD.sub (ws' := ([] : va_W)) [] (by decide) rfl
      refine z_calli (va_runS (As := [.int (tx.2 x2.toNatClampNeg)]) (rest := []) ⟨hx, hb, hml, hown, hts⟩ (c_X2_isBetween l D cs  s.heap.size (tx.2 x2.toNatClampNeg) _ hw) (va_cwS 1 hts gX2_countersInText_X2_isBetween rfl rfl rfl (by decide +kernel) ⟨Nat.le_of_ble_eq_true rfl, Nat.le_of_ble_eq_true rfl⟩) (PC_S hPc hDc hKK) rfl rfl hl.1 rfl (lv_room (Nat.le_of_ble_eq_true rfl)) dX2_countersInText_18 ⟨Nat.le_of_ble_eq_true rfl, Nat.le_of_ble_eq_true rfl⟩) (fun r3 hw => ?_)
      obtain ⟨b3, hw⟩ := hw
      refine lv_if_eq (tgt := 27) hx hb dX2_countersInText_21 (by decide) (fun c4 => ?_) (fun c4 => ?_)
      · have hw := hw.1 c4
        refine lv_iinc (v := x2 + 1) (lv' := [(2, .int (x2 + 1)), (0, .ref (q 0)), (1, .int x1)]) hx hb dX2_countersInText_27 hl (k := 2) rfl rfl (by decide) rfl (fun ls hl => ?_)
        refine lv_goto (tgt := 4) hx hb dX2_countersInText_30 (by decide) ?_
        exact ih _ _ hw ls (lv_sub hl [1, 2, 0] rfl)
      · have hw := hw.2 c4
        refine lv_iinc (v := x1 + 1) (lv' := [(1, .int (x1 + 1)), (0, .ref (q 0)), (2, .int x2)]) hx hb dX2_countersInText_24 hl (k := 1) rfl rfl (by decide) rfl (fun ls hl => ?_)
        refine lv_iinc (v := x2 + 1) (lv' := [(2, .int (x2 + 1)), (1, .int (x1 + 1)), (0, .ref (q 0))]) hx hb dX2_countersInText_27 hl (k := 2) rfl rfl (by decide) rfl (fun ls hl => ?_)
        refine lv_goto (tgt := 4) hx hb dX2_countersInText_30 (by decide) ?_
        exact ih _ _ hw ls (lv_sub hl [2, 1, 0] rfl)
set_option maxHeartbeats 4000000 in
set_option maxRecDepth 100000 in
theorem t_X2_countersInText {p : Program} {l : Launch} {e : Env} {s : State} {m : MethodId} {args : Array Value} {below : List Frame} {meth : Method} {c : Code} {D : va_G} {cs : Nat → ClassId} {A : Nat → Prop} (hC : MAt p s m args meth c RX2 cX2_countersInText 3 (some .int) wsX2_countersInText D cs) (q : Nat → Nat) (tx : TS) (Q : Int32 → Prop) (hw : wp_X2_countersInText tx Q) (hP : va_P D vwCl (w_Text cs q tx) s.heap) (hD : va_D A (w_Text cs q tx)) (ls : Array Slot) (hl : lv_has ls 3 [(0, .ref (q 0))]) : W p l e ({ frames := 1, cells := 0, slots := 0, locals := 20 } : Room) s m args below meth c s.heap [] 0 0 (MQ below (vp_Si Q) args s 0 0 (fun _ => False)) (F0 m 0 ls []) := by
  obtain ⟨hx, hb, hr, hml, hown, hts, hlocks, hKK⟩ := id hC
  have hK := hKK.1
  refine lv_iconst (v := (1 : Int32)) hx hb dX2_countersInText_0 (by decide) ?_
  refine lv_istore_n (lv' := [(1, .int (1 : Int32)), (0, .ref (q 0))]) hx hb dX2_countersInText_1 rfl hl (by decide) rfl (fun ls hl => ?_)
  refine lv_iconst (v := (0 : Int32)) hx hb dX2_countersInText_2 (by decide) ?_
  refine lv_istore_n (lv' := [(2, .int (0 : Int32)), (1, .int (1 : Int32)), (0, .ref (q 0))]) hx hb dX2_countersInText_3 rfl hl (by decide) rfl (fun ls hl => ?_)
  obtain ⟨n5, hw⟩ := hw
  exact t_X2_countersInText_4 hC q _ _ hP hD n5 _ _ hw ls (lv_sub hl [2, 1, 0] rfl)
set_option maxHeartbeats 4000000 in
set_option maxRecDepth 100000 in
theorem c_X2_countersInText (l : Launch) (D : va_G) (cs : Nat → ClassId) (q : Nat → Nat) (sz : Nat) (tx : TS) (Q : Int32 → Prop) (hw : wp_X2_countersInText tx Q) : Met l yX2_countersInText wsX2_countersInText ({ frames := 1, cells := 0, slots := 0, locals := 20 } : Room) (va_Pc [.ref (q 0)] (PC D cs (w_Text cs q tx) sz)) (vp_Si Q) 0 0 (fun _ => False) := by
  refine Met.ofW (cc := cX2_countersInText) (maxL := 3) (ret := (some .int)) (by decide) rfl ?_
  intro p e s m args below meth c s₁ B hml hv
  obtain ⟨rfl, hsz, hP, hKK, hD0⟩ := hv
  have hC : MAt p s m _ meth c RX2 cX2_countersInText 3 (some .int) wsX2_countersInText D cs := ⟨B.exec, B.bytes, B.returns, hml, findClass_of_methodNamed B.named, atoms_spec (ws := wsX2_countersInText) B.pre, B.notSynchronized, hKK⟩
  have hl := lv_entry ([.ref (q 0)]) (n := 3) (Nat.le_of_ble_eq_true rfl)
  rw [lg_entry_eq]
  generalize (lg_sl ([.ref (q 0)]) ++ List.replicate (3 - (lg_sl ([.ref (q 0)])).length) Slot.unset).toArray = ls at hl ⊢
  exact t_X2_countersInText hC q tx Q hw hP hD0 ls hl
theorem h_X1_X2_writeDigit : ∀ w ∈ u_ws RX1 TX1 13, w ∈ wsX2_writeDigit := fun _ h => List.mem_cons_of_mem _ (List.mem_append_right _ h)
set_option maxHeartbeats 4000000 in
set_option maxRecDepth 100000 in
theorem t_X2_writeDigit {p : Program} {l : Launch} {e : Env} {s : State} {m : MethodId} {args : Array Value} {below : List Frame} {meth : Method} {c : Code} {D : va_G} {cs : Nat → ClassId} {A : Nat → Prop} (hC : MAt p s m args meth c RX2 cX2_writeDigit 5 none wsX2_writeDigit D cs) (q : Nat → Nat) (L : LnS) (x1 : Int32) (x2 : Int32) (x3 : Int32) (Q : LnS → Prop) (hA : ∀ q : Nat, s.heap.size ≤ q → A q) (hw : wp_X2_writeDigit L x1 x2 x3 Q) (H : Heap) (locs : List Loc) (hP : va_P D vwCl (w_Line cs q L) H) (hD : va_D A (w_Line cs q L)) (hS : va_S A s.heap H locs) (ls : Array Slot) (hl : lv_has ls 5 [(0, .ref (q 0)), (1, .int x1), (2, .int x2), (3, .int x3)]) : W p l e ({ frames := 1, cells := 0, slots := 0, locals := 21 } : Room) s m args below meth c H locs 0 0 (MQ below (va_Qv (fun (u : LnS) => Q u) (fun (u : LnS) t => va_P D vwCl (w_Line cs q u) t.heap ∧ va_D A (w_Line cs q u)) A) args s 0 0 A) (F0 m 0 ls []) := by
  obtain ⟨hx, hb, hr, hml, hown, hts, hlocks, hKK⟩ := id hC
  have hK := hKK.1
  refine lv_aload_n hx hb dX2_writeDigit_0 rfl (lv_at hl 0 rfl) ?_
  refine va_get (D := D) (ci := 1) (v := .ref (q 1)) (C := RX1) (T := TX1) (N := 13) hx hb hts (h_X1_X2_writeDigit) hown hK hP 0 rfl rfl 4 (by decide) (z_w hts 1 rfl) (fun _ h9 => h9) rfl dX2_writeDigit_1 ?_
  refine lv_iload_n hx hb dX2_writeDigit_4 rfl (lv_at hl 1 rfl) ?_
  obtain ⟨h1, hw⟩ := hw
  refine va_iald hx hb hK hP 1 0 rfl rfl h1 dX2_writeDigit_5 ?_
  refine lv_istore (lv' := [(4, .int (L.1 1 x1.toNatClampNeg)), (0, .ref (q 0)), (1, .int x1), (2, .int x2), (3, .int x3)]) hx hb dX2_writeDigit_6 hl (by decide) rfl (fun ls hl => ?_)
  refine lv_iload hx hb dX2_writeDigit_8 (lv_at hl 0 rfl) ?_
  refine lv_bipush (v := (9 : Int32)) hx hb dX2_writeDigit_10 (by decide) ?_
  refine lv_icmp_ge (tgt := 49) hx hb dX2_writeDigit_12 (by decide) (fun c2 => ?_) (fun c2 => ?_)
  · have hw := hw.1 c2
    exact W.vret hx hb hr (fun t ht hW => ⟨⟨(L), rfl, hw, by rw [ht]; exact hP, hD⟩, hS.F ht⟩) hS.2.2 dX2_writeDigit_49 hlocks
  · have hw := hw.2 c2
    refine lv_aload_n hx hb dX2_writeDigit_15 rfl (lv_at hl 1 rfl) ?_
    refine va_get (D := D) (ci := 1) (v := .ref (q 4)) (C := RX1) (T := TX1) (N := 13) hx hb hts (h_X1_X2_writeDigit) hown hK hP 0 rfl rfl 7 (by decide) (z_w hts 2 rfl) (fun _ h9 => h9) rfl dX2_writeDigit_16 ?_
    refine lv_iload_n hx hb dX2_writeDigit_19 rfl (lv_at hl 2 rfl) ?_
    refine lv_iload hx hb dX2_writeDigit_20 (lv_at hl 0 rfl) ?_
    have hPc := hP.sub (ws' := ([] : va_W)) [] rfl
    have hDc := hD.sub (ws' := ([] : va_W)) [] (by decide) rfl
    refine z_calli (va_runSN (As := [.int x1, .int (L.1 1 x1.toNatClampNeg)]) (rest := [.ref (q 4)]) ⟨hx, hb, hml, hown, hts⟩ (c_X3_cellOf l D cs  H.size x1 (L.1 1 x1.toNatClampNeg) _ hw) ⟨va_cnB 2 hts gX2_writeDigit_X3_cellOf_n53 rfl rfl rfl hKK.2.2.2.1 (z_w hts 5 rfl) (by decide +kernel) ⟨Nat.le_of_ble_eq_true rfl, Nat.le_of_ble_eq_true rfl⟩, z_w hts 4 rfl, trivial⟩ (PC_S hPc hDc hKK) rfl rfl hl.1 rfl (lv_room (Nat.le_of_ble_eq_true rfl)) dX2_writeDigit_22 ⟨Nat.le_of_ble_eq_true rfl, Nat.le_of_ble_eq_true rfl⟩) (fun r3 hw => ?_)
    refine lv_iload_n hx hb dX2_writeDigit_25 rfl (lv_at hl 3 rfl) ?_
    obtain ⟨h4, hw⟩ := hw
    refine va_iast hx hb hK hP hD hS 4 0 rfl rfl h4 dX2_writeDigit_26 (fun H locs hP hD hS => ?_)
    have hP : va_P D vwCl (w_Line cs q (lsR L 4 (upd (L.1 4) r3.toNatClampNeg x2))) H := hP
    have hD : va_D A (w_Line cs q (lsR L 4 (upd (L.1 4) r3.toNatClampNeg x2))) := hD
    refine lv_aload_n hx hb dX2_writeDigit_27 rfl (lv_at hl 1 rfl) ?_
    refine va_get (D := D) (ci := 1) (v := .ref (q 5)) (C := RX1) (T := TX1) (N := 13) hx hb hts (h_X1_X2_writeDigit) hown hK hP 0 rfl rfl 8 (by decide) (z_w hts 3 rfl) (fun _ h9 => h9) rfl dX2_writeDigit_28 ?_
    refine lv_iload_n hx hb dX2_writeDigit_31 rfl (lv_at hl 2 rfl) ?_
    refine lv_iload hx hb dX2_writeDigit_32 (lv_at hl 0 rfl) ?_
    have hPc := hP.sub (ws' := ([] : va_W)) [] rfl
    have hDc := hD.sub (ws' := ([] : va_W)) [] (by decide) rfl
    refine z_calli (va_runSN (As := [.int x1, .int (L.1 1 x1.toNatClampNeg)]) (rest := [.ref (q 5)]) ⟨hx, hb, hml, hown, hts⟩ (c_X3_cellOf l D cs  H.size x1 (L.1 1 x1.toNatClampNeg) _ hw) ⟨va_cnB 2 hts gX2_writeDigit_X3_cellOf_n53 rfl rfl rfl hKK.2.2.2.1 (z_w hts 5 rfl) (by decide +kernel) ⟨Nat.le_of_ble_eq_true rfl, Nat.le_of_ble_eq_true rfl⟩, z_w hts 4 rfl, trivial⟩ (PC_S hPc hDc hKK) rfl rfl hl.1 rfl (lv_room (Nat.le_of_ble_eq_true rfl)) dX2_writeDigit_34 ⟨Nat.le_of_ble_eq_true rfl, Nat.le_of_ble_eq_true rfl⟩) (fun r5 hw => ?_)
    refine lv_iload_n hx hb dX2_writeDigit_37 rfl (lv_at hl 4 rfl) ?_
    obtain ⟨L6, eL6⟩ : ∃ z : LnS, z = (lsR L 4 (upd (L.1 4) r3.toNatClampNeg x2)) := ⟨_, rfl⟩
    have hw := hw L6 eL6
    rw [← eL6] at hP hD
    obtain ⟨h7, hw⟩ := hw
    refine va_iast hx hb hK hP hD hS 5 0 rfl rfl h7 dX2_writeDigit_38 (fun H locs hP hD hS => ?_)
    have hP : va_P D vwCl (w_Line cs q (lsR L6 5 (upd (L6.1 5) r5.toNatClampNeg x3))) H := hP
    have hD : va_D A (w_Line cs q (lsR L6 5 (upd (L6.1 5) r5.toNatClampNeg x3))) := hD
    refine lv_aload_n hx hb dX2_writeDigit_39 rfl (lv_at hl 1 rfl) ?_
    refine va_get (D := D) (ci := 1) (v := .ref (q 1)) (C := RX1) (T := TX1) (N := 13) hx hb hts (h_X1_X2_writeDigit) hown hK hP 0 rfl rfl 4 (by decide) (z_w hts 1 rfl) (fun _ h9 => h9) rfl dX2_writeDigit_40 ?_
    refine lv_iload_n hx hb dX2_writeDigit_43 rfl (lv_at hl 2 rfl) ?_
    refine lv_iload hx hb dX2_writeDigit_44 (lv_at hl 0 rfl) ?_
    refine lv_iconst (v := (1 : Int32)) hx hb dX2_writeDigit_46 (by decide) ?_
    refine lv_iadd hx hb dX2_writeDigit_47 ?_
    obtain ⟨L8, eL8⟩ : ∃ z : LnS, z = (lsR L6 5 (upd (L6.1 5) r5.toNatClampNeg x3)) := ⟨_, rfl⟩
    have hw := hw L8 eL8
    rw [← eL8] at hP hD
    obtain ⟨h9, hw⟩ := hw
    refine va_iast hx hb hK hP hD hS 1 0 rfl rfl h9 dX2_writeDigit_48 (fun H locs hP hD hS => ?_)
    have hP : va_P D vwCl (w_Line cs q (lsR L8 1 (upd (L8.1 1) x1.toNatClampNeg ((L.1 1 x1.toNatClampNeg) + (1 : Int32))))) H := hP
    have hD : va_D A (w_Line cs q (lsR L8 1 (upd (L8.1 1) x1.toNatClampNeg ((L.1 1 x1.toNatClampNeg) + (1 : Int32))))) := hD
    exact W.vret hx hb hr (fun t ht hW => ⟨⟨(lsR L8 1 (upd (L8.1 1) x1.toNatClampNeg ((L.1 1 x1.toNatClampNeg) + (1 : Int32)))), rfl, hw, by rw [ht]; exact hP, hD⟩, hS.F ht⟩) hS.2.2 dX2_writeDigit_49 hlocks
set_option maxHeartbeats 4000000 in
set_option maxRecDepth 100000 in
theorem c_X2_writeDigit (l : Launch) (D : va_G) (cs : Nat → ClassId) (q : Nat → Nat) (sz : Nat) (L : LnS) (x1 : Int32) (x2 : Int32) (x3 : Int32) (Q : LnS → Prop) (hw : wp_X2_writeDigit L x1 x2 x3 Q) : Met l yX2_writeDigit wsX2_writeDigit ({ frames := 1, cells := 0, slots := 0, locals := 21 } : Room) (va_Pc [.ref (q 0), .int x1, .int x2, .int x3] (PC D cs (w_Line cs q L) sz)) (va_Qv (fun (u : LnS) => Q u) (fun (u : LnS) t => va_P D vwCl (w_Line cs q u) t.heap ∧ va_D (va_A (w_Line cs q L) sz) (w_Line cs q u)) (va_A (w_Line cs q L) sz)) 0 0 (va_A (w_Line cs q L) sz) := by
  refine Met.ofW (cc := cX2_writeDigit) (maxL := 5) (ret := none) (by decide) rfl ?_
  intro p e s m args below meth c s₁ B hml hv
  obtain ⟨rfl, hsz, hP, hKK, hD0⟩ := hv
  have hC : MAt p s m _ meth c RX2 cX2_writeDigit 5 none wsX2_writeDigit D cs := ⟨B.exec, B.bytes, B.returns, hml, findClass_of_methodNamed B.named, atoms_spec (ws := wsX2_writeDigit) B.pre, B.notSynchronized, hKK⟩
  have hl := lv_entry ([.ref (q 0), .int x1, .int x2, .int x3]) (n := 5) (Nat.le_of_ble_eq_true rfl)
  rw [lg_entry_eq]
  generalize (lg_sl ([.ref (q 0), .int x1, .int x2, .int x3]) ++ List.replicate (5 - (lg_sl ([.ref (q 0), .int x1, .int x2, .int x3])).length) Slot.unset).toArray = ls at hl ⊢
  subst hsz
  have hD := hD0.self (sz := s.heap.size)
  have hA : ∀ z : Nat, s.heap.size ≤ z → va_A (w_Line cs q L) s.heap.size z := fun z h => Or.inr h
  exact t_X2_writeDigit hC q L x1 x2 x3 Q hA hw s.heap [] hP hD va_S.rf ls hl
theorem h_X1_X2_writeInto : ∀ w ∈ u_ws RX1 TX1 13, w ∈ wsX2_writeInto := fun _ h => List.mem_cons_of_mem _ (List.mem_append_left _ (List.mem_append_right _ h))
theorem h_X2_X2_writeInto : ∀ w ∈ u_ws RX2 TX2 2, w ∈ wsX2_writeInto := fun _ h => List.mem_cons_of_mem _ (List.mem_append_right _ h)
set_option maxHeartbeats 4000000 in
set_option maxRecDepth 100000 in
theorem t_X2_writeInto_25 {p : Program} {l : Launch} {e : Env} {s : State} {m : MethodId} {args : Array Value} {below : List Frame} {meth : Method} {c : Code} {D : va_G} {cs : Nat → ClassId} {A : Nat → Prop} (hC : MAt p s m args meth c RX2 cX2_writeInto 6 none wsX2_writeInto D cs) (tq : Nat → Nat) (q : Nat → Nat) (tx : TS) (Q : LnS → Prop) (hA : ∀ q : Nat, s.heap.size ≤ q → A q) : ∀ (n : Nat) (L : LnS) (x2 : Int32) (x3 : Int32) (x4 : Int32), wl_X2_writeInto_25 tx Q n L x2 x3 x4 → ∀ (H : Heap) (locs : List Loc), va_P D vwCl (w_Text cs tq tx ++ w_Line cs q L) H → va_D A (w_Text cs tq tx ++ w_Line cs q L) → va_S A s.heap H locs → ∀ ls : Array Slot, lv_has ls 6 [(0, .ref (tq 0)), (1, .ref (q 0)), (2, .int x2), (3, .int x3), (4, .int x4)] → W p l e ({ frames := 2, cells := 0, slots := 0, locals := 45 } : Room) s m args below meth c H locs 0 0 (MQ below (va_Qv (fun (u : LnS) => Q u) (fun (u : LnS) t => va_P D vwCl (w_Text cs tq tx ++ w_Line cs q u) t.heap ∧ va_D A (w_Text cs tq tx ++ w_Line cs q u)) A) args s 0 0 A) (F0 m 25 ls []) := by
  obtain ⟨hx, hb, hr, hml, hown, hts, hlocks, hKK⟩ := id hC
  have hK := hKK.1
  intro n
  induction n with
  | zero =>
    intro L x2 x3 x4 hw
    exact False.elim hw
  | succ n ih =>
    intro L x2 x3 x4 hw H locs hP hD hS ls hl
    refine lv_iload hx hb dX2_writeInto_25 (lv_at hl 4 rfl) ?_
    refine lv_if_lt (tgt := 124) hx hb dX2_writeInto_27 (by decide) (fun c2 => ?_) (fun c2 => ?_)
    · have hw := hw.1 c2
      exact W.vret hx hb hr (fun t ht hW => ⟨⟨(L), rfl, hw, by rw [ht]; exact hP, hD⟩, hS.F ht⟩) hS.2.2 dX2_writeInto_124 hlocks
    · have hw := hw.2 c2
      refine lv_iload_n hx hb dX2_writeInto_30 rfl (lv_at hl 2 rfl) ?_
      refine lv_if_lt (tgt := 124) hx hb dX2_writeInto_31 (by decide) (fun c3 => ?_) (fun c3 => ?_)
      · have hw := hw.1 c3
        exact W.vret hx hb hr (fun t ht hW => ⟨⟨(L), rfl, hw, by rw [ht]; exact hP, hD⟩, hS.F ht⟩) hS.2.2 dX2_writeInto_124 hlocks
      · have hw := hw.2 c3
        refine lv_aload_n hx hb dX2_writeInto_34 rfl (lv_at hl 0 rfl) ?_
        refine va_get (D := D) (ci := 2) (v := .ref (tq 1)) (C := RX2) (T := TX2) (N := 2) hx hb hts (h_X2_X2_writeInto) hown hK hP 0 rfl rfl 0 (by decide) (z_w hts 3 rfl) (fun _ h9 => h9) rfl dX2_writeInto_35 ?_
        refine lv_iload hx hb dX2_writeInto_38 (lv_at hl 4 rfl) ?_
        obtain ⟨h4, hw⟩ := hw
        refine va_cald hx hb hK hP 1 2 rfl rfl h4 dX2_writeInto_40 ?_
        refine lv_istore (lv' := [(5, .int (tx.2 x4.toNatClampNeg)), (0, .ref (tq 0)), (1, .ref (q 0)), (2, .int x2), (3, .int x3), (4, .int x4)]) hx hb dX2_writeInto_41 hl (by decide) rfl (fun ls hl => ?_)
        refine lv_iload hx hb dX2_writeInto_43 (lv_at hl 0 rfl) ?_
        have hPc := hP.sub (ws' := ([] : va_W)) [] rfl
        have hDc := hD.sub (ws' := ([] : va_W)) [] (by decide) rfl
        refine z_calli (va_runS (As := [.int (tx.2 x4.toNatClampNeg)]) (rest := []) ⟨hx, hb, hml, hown, hts⟩ (c_X2_isDigit l D cs  H.size (tx.2 x4.toNatClampNeg) _ hw) (va_cwS 1 hts gX2_writeInto_X2_isDigit rfl rfl rfl (by decide +kernel) ⟨Nat.le_of_ble_eq_true rfl, Nat.le_of_ble_eq_true rfl⟩) (PC_S hPc hDc hKK) rfl rfl hl.1 rfl (lv_room (Nat.le_of_ble_eq_true rfl)) dX2_writeInto_45 ⟨Nat.le_of_ble_eq_true rfl, Nat.le_of_ble_eq_true rfl⟩) (fun r5 hw => ?_)
        obtain ⟨b5, hw⟩ := hw
        refine lv_if_eq (tgt := 67) hx hb dX2_writeInto_48 (by decide) (fun c6 => ?_) (fun c6 => ?_)
        · have hw := hw.1 c6
          refine lv_iload hx hb dX2_writeInto_67 (lv_at hl 0 rfl) ?_
          have hPc := hP.sub (ws' := ([] : va_W)) [] rfl
          have hDc := hD.sub (ws' := ([] : va_W)) [] (by decide) rfl
          refine z_calli (va_runS (As := [.int (tx.2 x4.toNatClampNeg)]) (rest := []) ⟨hx, hb, hml, hown, hts⟩ (c_X2_isMark l D cs  H.size (tx.2 x4.toNatClampNeg) _ hw) (va_cwS 1 hts gX2_writeInto_X2_isMark rfl rfl rfl (by decide +kernel) ⟨Nat.le_of_ble_eq_true rfl, Nat.le_of_ble_eq_true rfl⟩) (PC_S hPc hDc hKK) rfl rfl hl.1 rfl (lv_room (Nat.le_of_ble_eq_true rfl)) dX2_writeInto_69 ⟨Nat.le_of_ble_eq_true rfl, Nat.le_of_ble_eq_true rfl⟩) (fun r7 hw => ?_)
          obtain ⟨b7, hw⟩ := hw
          refine lv_if_eq (tgt := 93) hx hb dX2_writeInto_72 (by decide) (fun c8 => ?_) (fun c8 => ?_)
          · have hw := hw.1 c8
            refine lv_iinc (v := x2 + (-1)) (lv' := [(2, .int (x2 + (-1))), (5, .int (tx.2 x4.toNatClampNeg)), (0, .ref (tq 0)), (1, .ref (q 0)), (3, .int x3), (4, .int x4)]) hx hb dX2_writeInto_93 hl (k := 3) rfl rfl (by decide) rfl (fun ls hl => ?_)
            refine lv_iload_n hx hb dX2_writeInto_96 rfl (lv_at hl 0 rfl) ?_
            refine lv_if_lt (tgt := 118) hx hb dX2_writeInto_97 (by decide) (fun c9 => ?_) (fun c9 => ?_)
            · have hw := hw.1 c9
              refine lv_iinc (v := x4 + (-1)) (lv' := [(4, .int (x4 + (-1))), (2, .int (x2 + (-1))), (5, .int (tx.2 x4.toNatClampNeg)), (0, .ref (tq 0)), (1, .ref (q 0)), (3, .int x3)]) hx hb dX2_writeInto_118 hl (k := 5) rfl rfl (by decide) rfl (fun ls hl => ?_)
              refine lv_goto (tgt := 25) hx hb dX2_writeInto_121 (by decide) ?_
              exact ih _ _ _ _ hw _ _ hP hD hS ls (lv_sub hl [3, 4, 1, 5, 0] rfl)
            · have hw := hw.2 c9
              refine lv_aload_n hx hb dX2_writeInto_100 rfl (lv_at hl 3 rfl) ?_
              refine va_get (D := D) (ci := 1) (v := .ref (q 2)) (C := RX1) (T := TX1) (N := 13) hx hb hts (h_X1_X2_writeInto) hown hK hP 2 rfl rfl 5 (by decide) (z_w hts 4 rfl) (fun _ h9 => h9) rfl dX2_writeInto_101 ?_
              refine lv_iload_n hx hb dX2_writeInto_104 rfl (lv_at hl 0 rfl) ?_
              refine lv_iload hx hb dX2_writeInto_105 (lv_at hl 1 rfl) ?_
              refine lv_bipush (v := (62 : Int32)) hx hb dX2_writeInto_107 (by decide) ?_
              refine lv_icmp_ne (tgt := 116) hx hb dX2_writeInto_109 (by decide) (fun c10 => ?_) (fun c10 => ?_)
              · have hw := hw.2 c10
                refine lv_iconst (v := (0 : Int32)) hx hb dX2_writeInto_116 (by decide) ?_
                obtain ⟨h11, hw⟩ := hw
                refine va_zast hx hb hK hP hD hS 4 1 rfl rfl h11 dX2_writeInto_117 (fun H locs hP hD hS => ?_)
                have hP : va_P D vwCl (w_Text cs tq tx ++ w_Line cs q (lsR L 2 (upd (L.1 2) (x2 + (-1)).toNatClampNeg (vp_nar .boolean (0 : Int32))))) H := hP
                have hD : va_D A (w_Text cs tq tx ++ w_Line cs q (lsR L 2 (upd (L.1 2) (x2 + (-1)).toNatClampNeg (vp_nar .boolean (0 : Int32))))) := hD
                refine lv_iinc (v := x4 + (-1)) (lv' := [(4, .int (x4 + (-1))), (2, .int (x2 + (-1))), (5, .int (tx.2 x4.toNatClampNeg)), (0, .ref (tq 0)), (1, .ref (q 0)), (3, .int x3)]) hx hb dX2_writeInto_118 hl (k := 5) rfl rfl (by decide) rfl (fun ls hl => ?_)
                refine lv_goto (tgt := 25) hx hb dX2_writeInto_121 (by decide) ?_
                exact ih _ _ _ _ hw _ _ hP hD hS ls (lv_sub hl [3, 4, 1, 5, 0] rfl)
              · have hw := hw.1 c10
                refine lv_iconst (v := (1 : Int32)) hx hb dX2_writeInto_112 (by decide) ?_
                refine lv_goto (tgt := 117) hx hb dX2_writeInto_113 (by decide) ?_
                obtain ⟨h12, hw⟩ := hw
                refine va_zast hx hb hK hP hD hS 4 1 rfl rfl h12 dX2_writeInto_117 (fun H locs hP hD hS => ?_)
                have hP : va_P D vwCl (w_Text cs tq tx ++ w_Line cs q (lsR L 2 (upd (L.1 2) (x2 + (-1)).toNatClampNeg (vp_nar .boolean (1 : Int32))))) H := hP
                have hD : va_D A (w_Text cs tq tx ++ w_Line cs q (lsR L 2 (upd (L.1 2) (x2 + (-1)).toNatClampNeg (vp_nar .boolean (1 : Int32))))) := hD
                refine lv_iinc (v := x4 + (-1)) (lv' := [(4, .int (x4 + (-1))), (2, .int (x2 + (-1))), (5, .int (tx.2 x4.toNatClampNeg)), (0, .ref (tq 0)), (1, .ref (q 0)), (3, .int x3)]) hx hb dX2_writeInto_118 hl (k := 5) rfl rfl (by decide) rfl (fun ls hl => ?_)
                refine lv_goto (tgt := 25) hx hb dX2_writeInto_121 (by decide) ?_
                exact ih _ _ _ _ hw _ _ hP hD hS ls (lv_sub hl [3, 4, 1, 5, 0] rfl)
          · have hw := hw.2 c8
            refine lv_iload_n hx hb dX2_writeInto_75 rfl (lv_at hl 4 rfl) ?_
            refine lv_iload hx hb dX2_writeInto_76 (lv_at hl 0 rfl) ?_
            refine lv_bipush (v := (43 : Int32)) hx hb dX2_writeInto_78 (by decide) ?_
            refine lv_icmp_ne (tgt := 87) hx hb dX2_writeInto_80 (by decide) (fun c13 => ?_) (fun c13 => ?_)
            · have hw := hw.2 c13
              refine lv_iconst (v := (-1 : Int32)) hx hb dX2_writeInto_87 (by decide) ?_
              refine lv_iadd hx hb dX2_writeInto_88 ?_
              refine lv_istore_n (lv' := [(3, .int (x3 + (-1 : Int32))), (5, .int (tx.2 x4.toNatClampNeg)), (0, .ref (tq 0)), (1, .ref (q 0)), (2, .int x2), (4, .int x4)]) hx hb dX2_writeInto_89 rfl hl (by decide) rfl (fun ls hl => ?_)
              refine lv_goto (tgt := 118) hx hb dX2_writeInto_90 (by decide) ?_
              refine lv_iinc (v := x4 + (-1)) (lv' := [(4, .int (x4 + (-1))), (3, .int (x3 + (-1 : Int32))), (5, .int (tx.2 x4.toNatClampNeg)), (0, .ref (tq 0)), (1, .ref (q 0)), (2, .int x2)]) hx hb dX2_writeInto_118 hl (k := 5) rfl rfl (by decide) rfl (fun ls hl => ?_)
              refine lv_goto (tgt := 25) hx hb dX2_writeInto_121 (by decide) ?_
              exact ih _ _ _ _ hw _ _ hP hD hS ls (lv_sub hl [3, 4, 5, 1, 0] rfl)
            · have hw := hw.1 c13
              refine lv_iconst (v := (1 : Int32)) hx hb dX2_writeInto_83 (by decide) ?_
              refine lv_goto (tgt := 88) hx hb dX2_writeInto_84 (by decide) ?_
              refine lv_iadd hx hb dX2_writeInto_88 ?_
              refine lv_istore_n (lv' := [(3, .int (x3 + (1 : Int32))), (5, .int (tx.2 x4.toNatClampNeg)), (0, .ref (tq 0)), (1, .ref (q 0)), (2, .int x2), (4, .int x4)]) hx hb dX2_writeInto_89 rfl hl (by decide) rfl (fun ls hl => ?_)
              refine lv_goto (tgt := 118) hx hb dX2_writeInto_90 (by decide) ?_
              refine lv_iinc (v := x4 + (-1)) (lv' := [(4, .int (x4 + (-1))), (3, .int (x3 + (1 : Int32))), (5, .int (tx.2 x4.toNatClampNeg)), (0, .ref (tq 0)), (1, .ref (q 0)), (2, .int x2)]) hx hb dX2_writeInto_118 hl (k := 5) rfl rfl (by decide) rfl (fun ls hl => ?_)
              refine lv_goto (tgt := 25) hx hb dX2_writeInto_121 (by decide) ?_
              exact ih _ _ _ _ hw _ _ hP hD hS ls (lv_sub hl [3, 4, 5, 1, 0] rfl)
        · have hw := hw.2 c6
          refine lv_aload_n hx hb dX2_writeInto_51 rfl (lv_at hl 2 rfl) ?_
          refine lv_iload_n hx hb dX2_writeInto_52 rfl (lv_at hl 3 rfl) ?_
          refine lv_iload hx hb dX2_writeInto_53 (lv_at hl 0 rfl) ?_
          refine lv_bipush (v := (48 : Int32)) hx hb dX2_writeInto_55 (by decide) ?_
          refine lv_isub hx hb dX2_writeInto_57 ?_
          refine lv_iload_n hx hb dX2_writeInto_58 rfl (lv_at hl 4 rfl) ?_
          have hPc := hP.sub (ws' := w_Line cs q L) [2, 3, 4, 5, 6, 7, 8, 9, 10, 11] rfl
          have hDc := hD.sub (ws' := w_Line cs q L) [2, 3, 4, 5, 6, 7, 8, 9, 10, 11] (by decide) rfl
          have hFc := va_free (wc := w_Line cs q L) hD hS hA [2, 3, 4, 5, 6, 7, 8, 9, 10, 11] rfl
          refine va_callv (va_runS (As := [.ref (q 0), .int x2, .int ((tx.2 x4.toNatClampNeg) - (48 : Int32)), .int x3]) (rest := []) ⟨hx, hb, hml, hown, hts⟩ (c_X2_writeDigit l D cs q H.size L x2 ((tx.2 x4.toNatClampNeg) - (48 : Int32)) x3 _ hw) (va_cwS 4 hts gX2_writeInto_X2_writeDigit rfl rfl rfl (by decide +kernel) ⟨Nat.le_of_ble_eq_true rfl, Nat.le_of_ble_eq_true rfl⟩) (PC_S hPc hDc hKK) rfl rfl hl.1 rfl (lv_room (Nat.le_of_ble_eq_true rfl)) dX2_writeInto_59 ⟨Nat.le_of_ble_eq_true rfl, Nat.le_of_ble_eq_true rfl⟩) hS (fun q _ h => hFc q h) hFc (fun u14 t H locs ht hvm hw hB hz1 hk1 hS => ?_)
          obtain ⟨hP1, hD1⟩ := hB
          rw [ht] at hP1
          obtain ⟨hP, hD⟩ := va_join (wr := ([0, 1].filterMap (fun i => (w_Text cs tq tx ++ w_Line cs q L)[i]?))) (w1 := w_Line cs q u14) hP hD [2, 3, 4, 5, 6, 7, 8, 9, 10, 11] [0, 1] rfl rfl (by decide) (by decide) hk1 hFc hP1 hD1
          have hP : va_P D vwCl (w_Text cs tq tx ++ w_Line cs q u14) H := hP.sub (ws' := w_Text cs tq tx ++ w_Line cs q u14) [0, 1, 2, 3, 4, 5, 6, 7, 8, 9, 10, 11] rfl
          have hD : va_D A (w_Text cs tq tx ++ w_Line cs q u14) := hD.sub (ws' := w_Text cs tq tx ++ w_Line cs q u14) [0, 1, 2, 3, 4, 5, 6, 7, 8, 9, 10, 11] (by decide) rfl
          refine lv_iconst (v := (0 : Int32)) hx hb dX2_writeInto_62 (by decide) ?_
          refine lv_istore_n (lv' := [(3, .int (0 : Int32)), (5, .int (tx.2 x4.toNatClampNeg)), (0, .ref (tq 0)), (1, .ref (q 0)), (2, .int x2), (4, .int x4)]) hx hb dX2_writeInto_63 rfl hl (by decide) rfl (fun ls hl => ?_)
          refine lv_goto (tgt := 118) hx hb dX2_writeInto_64 (by decide) ?_
          refine lv_iinc (v := x4 + (-1)) (lv' := [(4, .int (x4 + (-1))), (3, .int (0 : Int32)), (5, .int (tx.2 x4.toNatClampNeg)), (0, .ref (tq 0)), (1, .ref (q 0)), (2, .int x2)]) hx hb dX2_writeInto_118 hl (k := 5) rfl rfl (by decide) rfl (fun ls hl => ?_)
          refine lv_goto (tgt := 25) hx hb dX2_writeInto_121 (by decide) ?_
          exact ih _ _ _ _ hw _ _ hP hD hS ls (lv_sub hl [3, 4, 5, 1, 0] rfl)
set_option maxHeartbeats 4000000 in
set_option maxRecDepth 100000 in
theorem t_X2_writeInto {p : Program} {l : Launch} {e : Env} {s : State} {m : MethodId} {args : Array Value} {below : List Frame} {meth : Method} {c : Code} {D : va_G} {cs : Nat → ClassId} {A : Nat → Prop} (hC : MAt p s m args meth c RX2 cX2_writeInto 6 none wsX2_writeInto D cs) (tq : Nat → Nat) (q : Nat → Nat) (tx : TS) (L : LnS) (Q : LnS → Prop) (hA : ∀ q : Nat, s.heap.size ≤ q → A q) (hw : wp_X2_writeInto tx L Q) (H : Heap) (locs : List Loc) (hP : va_P D vwCl (w_Text cs tq tx ++ w_Line cs q L) H) (hD : va_D A (w_Text cs tq tx ++ w_Line cs q L)) (hS : va_S A s.heap H locs) (ls : Array Slot) (hl : lv_has ls 6 [(0, .ref (tq 0)), (1, .ref (q 0))]) : W p l e ({ frames := 2, cells := 0, slots := 0, locals := 45 } : Room) s m args below meth c H locs 0 0 (MQ below (va_Qv (fun (u : LnS) => Q u) (fun (u : LnS) t => va_P D vwCl (w_Text cs tq tx ++ w_Line cs q u) t.heap ∧ va_D A (w_Text cs tq tx ++ w_Line cs q u)) A) args s 0 0 A) (F0 m 0 ls []) := by
  obtain ⟨hx, hb, hr, hml, hown, hts, hlocks, hKK⟩ := id hC
  have hK := hKK.1
  refine lv_aload_n hx hb dX2_writeInto_0 rfl (lv_at hl 1 rfl) ?_
  refine lv_aload_n hx hb dX2_writeInto_1 rfl (lv_at hl 0 rfl) ?_
  have hPc := hP.sub (ws' := w_Text cs tq tx) [0, 1] rfl
  have hDc := hD.sub (ws' := w_Text cs tq tx) [0, 1] (by decide) rfl
  refine z_calli (va_runV (As := []) (rest := [.ref (q 0)]) ⟨hx, hb, hml, hown, hts⟩ (c_X2_countersInText l D cs tq H.size tx _ hw) (cwV 0 hts gX2_writeInto_X2_countersInText rfl rfl rfl (by decide +kernel) ⟨Nat.le_of_ble_eq_true rfl, Nat.le_of_ble_eq_true rfl⟩) (PC_V hPc hDc hKK 0 2 rfl rfl) rfl rfl hl.1 rfl (lv_room (Nat.le_of_ble_eq_true rfl)) dX2_writeInto_2 ⟨Nat.le_of_ble_eq_true rfl, Nat.le_of_ble_eq_true rfl⟩) (fun r1 hw => ?_)
  refine va_put (D := D) (ci := 1) (v := .int r1) (ty := .int) (C := RX1) (T := TX1) (N := 13) hx hb hts (h_X1_X2_writeInto) tyX1 tyX1_ok nmX1 hown hK hP hD hS 2 rfl rfl 0 (by decide) (z_w hts 1 rfl) (fun _ h9 => h9) rfl (by decide +kernel) rfl rfl (Nat.le_of_ble_eq_true rfl) dX2_writeInto_5 (fun H locs hP hD hS => ?_)
  have hP : va_P D vwCl (w_Text cs tq tx ++ w_Line cs q (lsS L 0 0 r1)) H := hP
  have hD : va_D A (w_Text cs tq tx ++ w_Line cs q (lsS L 0 0 r1)) := hD
  refine lv_aload_n hx hb dX2_writeInto_8 rfl (lv_at hl 1 rfl) ?_
  refine va_get (D := D) (ci := 1) (v := .int r1) (C := RX1) (T := TX1) (N := 13) hx hb hts (h_X1_X2_writeInto) hown hK hP 2 rfl rfl 0 (by decide) (z_w hts 1 rfl) (fun _ h9 => h9) rfl dX2_writeInto_9 ?_
  refine lv_iconst (v := (1 : Int32)) hx hb dX2_writeInto_12 (by decide) ?_
  refine lv_isub hx hb dX2_writeInto_13 ?_
  refine lv_istore_n (lv' := [(2, .int (r1 - (1 : Int32))), (0, .ref (tq 0)), (1, .ref (q 0))]) hx hb dX2_writeInto_14 rfl hl (by decide) rfl (fun ls hl => ?_)
  refine lv_iconst (v := (0 : Int32)) hx hb dX2_writeInto_15 (by decide) ?_
  refine lv_istore_n (lv' := [(3, .int (0 : Int32)), (2, .int (r1 - (1 : Int32))), (0, .ref (tq 0)), (1, .ref (q 0))]) hx hb dX2_writeInto_16 rfl hl (by decide) rfl (fun ls hl => ?_)
  refine lv_aload_n hx hb dX2_writeInto_17 rfl (lv_at hl 2 rfl) ?_
  refine va_get (D := D) (ci := 2) (v := .int tx.1) (C := RX2) (T := TX2) (N := 2) hx hb hts (h_X2_X2_writeInto) hown hK hP 0 rfl rfl 1 (by decide) (z_w hts 2 rfl) (fun _ h9 => h9) rfl dX2_writeInto_18 ?_
  refine lv_iconst (v := (1 : Int32)) hx hb dX2_writeInto_21 (by decide) ?_
  refine lv_isub hx hb dX2_writeInto_22 ?_
  refine lv_istore (lv' := [(4, .int (tx.1 - (1 : Int32))), (3, .int (0 : Int32)), (2, .int (r1 - (1 : Int32))), (0, .ref (tq 0)), (1, .ref (q 0))]) hx hb dX2_writeInto_23 hl (by decide) rfl (fun ls hl => ?_)
  obtain ⟨n15, hw⟩ := hw
  exact t_X2_writeInto_25 hC tq q _ _ hA n15 _ _ _ _ hw H locs hP hD hS ls (lv_sub hl [3, 4, 2, 1, 0] rfl)
set_option maxHeartbeats 4000000 in
set_option maxRecDepth 100000 in
theorem c_X2_writeInto (l : Launch) (D : va_G) (cs : Nat → ClassId) (tq : Nat → Nat) (q : Nat → Nat) (sz : Nat) (tx : TS) (L : LnS) (Q : LnS → Prop) (hw : wp_X2_writeInto tx L Q) : Met l yX2_writeInto wsX2_writeInto ({ frames := 2, cells := 0, slots := 0, locals := 45 } : Room) (va_Pc [.ref (tq 0), .ref (q 0)] (PC D cs (w_Text cs tq tx ++ w_Line cs q L) sz)) (va_Qv (fun (u : LnS) => Q u) (fun (u : LnS) t => va_P D vwCl (w_Text cs tq tx ++ w_Line cs q u) t.heap ∧ va_D (va_A (w_Text cs tq tx ++ w_Line cs q L) sz) (w_Text cs tq tx ++ w_Line cs q u)) (va_A (w_Text cs tq tx ++ w_Line cs q L) sz)) 0 0 (va_A (w_Text cs tq tx ++ w_Line cs q L) sz) := by
  refine Met.ofW (cc := cX2_writeInto) (maxL := 6) (ret := none) (by decide) rfl ?_
  intro p e s m args below meth c s₁ B hml hv
  obtain ⟨rfl, hsz, hP, hKK, hD0⟩ := hv
  have hC : MAt p s m _ meth c RX2 cX2_writeInto 6 none wsX2_writeInto D cs := ⟨B.exec, B.bytes, B.returns, hml, findClass_of_methodNamed B.named, atoms_spec (ws := wsX2_writeInto) B.pre, B.notSynchronized, hKK⟩
  have hl := lv_entry ([.ref (tq 0), .ref (q 0)]) (n := 6) (Nat.le_of_ble_eq_true rfl)
  rw [lg_entry_eq]
  generalize (lg_sl ([.ref (tq 0), .ref (q 0)]) ++ List.replicate (6 - (lg_sl ([.ref (tq 0), .ref (q 0)])).length) Slot.unset).toArray = ls at hl ⊢
  subst hsz
  have hD := hD0.self (sz := s.heap.size)
  have hA : ∀ z : Nat, s.heap.size ≤ z → va_A (w_Text cs tq tx ++ w_Line cs q L) s.heap.size z := fun z h => Or.inr h
  exact t_X2_writeInto hC tq q tx L Q hA hw s.heap [] hP hD va_S.rf ls hl
theorem h_X0_X0_forget : ∀ w ∈ u_ws RX0 TX0 3, w ∈ wsX0_forget := fun _ h => List.mem_cons_of_mem _ (List.mem_append_right _ h)
set_option maxHeartbeats 4000000 in
set_option maxRecDepth 100000 in
theorem t_X0_forget {p : Program} {l : Launch} {e : Env} {s : State} {m : MethodId} {args : Array Value} {below : List Frame} {meth : Method} {c : Code} {D : va_G} {cs : Nat → ClassId} {A : Nat → Prop} (hC : MAt p s m args meth c RX0 cX0_forget 1 none wsX0_forget D cs) (h : Nat → Nat) (a : Nat → Nat → Nat) (S : HS) (Ls : (Nat → LnS)) (Q : HS → Prop) (hA : ∀ q : Nat, s.heap.size ≤ q → A q) (hw : wp_X0_forget S Ls Q) (H : Heap) (locs : List Loc) (hP : va_P D vwCl (w_Hist cs h a S ++ linesW cs a 18 Ls) H) (hD : va_D A (w_Hist cs h a S ++ linesW cs a 18 Ls)) (hS : va_S A s.heap H locs) (ls : Array Slot) (hl : lv_has ls 1 [(0, .ref (h 0))]) : W p l e ({ frames := 0, cells := 0, slots := 0, locals := 0 } : Room) s m args below meth c H locs 0 0 (MQ below (va_Qv (fun (u : HS) => Q u) (fun (u : HS) t => va_P D vwCl (w_Hist cs h a u ++ linesW cs a 18 Ls) t.heap ∧ va_D A (w_Hist cs h a u ++ linesW cs a 18 Ls)) A) args s 0 0 A) (F0 m 0 ls []) := by
  obtain ⟨hx, hb, hr, hml, hown, hts, hlocks, hKK⟩ := id hC
  have hK := hKK.1
  refine lv_aload_n hx hb dX0_forget_0 rfl (lv_at hl 0 rfl) ?_
  refine lv_iconst (v := (0 : Int32)) hx hb dX0_forget_1 (by decide) ?_
  refine va_put (D := D) (ci := 0) (v := .int (0 : Int32)) (ty := .int) (C := RX0) (T := TX0) (N := 3) hx hb hts (h_X0_X0_forget) tyX0 tyX0_ok nmX0 hown hK hP hD hS 0 rfl rfl 2 (by decide) (z_w hts 1 rfl) (fun _ h9 => h9) rfl (by decide +kernel) rfl rfl (Nat.le_of_ble_eq_true rfl) dX0_forget_2 (fun H locs hP hD hS => ?_)
  have hP : va_P D vwCl (w_Hist cs h a (S.1, (0 : Int32)) ++ linesW cs a 18 Ls) H := hP
  have hD : va_D A (w_Hist cs h a (S.1, (0 : Int32)) ++ linesW cs a 18 Ls) := hD
  exact W.vret hx hb hr (fun t ht hW => ⟨⟨((S.1, (0 : Int32))), rfl, hw, by rw [ht]; exact hP, hD⟩, hS.F ht⟩) hS.2.2 dX0_forget_5 hlocks
set_option maxHeartbeats 4000000 in
set_option maxRecDepth 100000 in
theorem c_X0_forget (l : Launch) (D : va_G) (cs : Nat → ClassId) (h : Nat → Nat) (a : Nat → Nat → Nat) (sz : Nat) (S : HS) (Ls : (Nat → LnS)) (Q : HS → Prop) (hw : wp_X0_forget S Ls Q) : Met l yX0_forget wsX0_forget ({ frames := 0, cells := 0, slots := 0, locals := 0 } : Room) (va_Pc [.ref (h 0)] (PC D cs (w_Hist cs h a S ++ linesW cs a 18 Ls) sz)) (va_Qv (fun (u : HS) => Q u) (fun (u : HS) t => va_P D vwCl (w_Hist cs h a u ++ linesW cs a 18 Ls) t.heap ∧ va_D (va_A (w_Hist cs h a S ++ linesW cs a 18 Ls) sz) (w_Hist cs h a u ++ linesW cs a 18 Ls)) (va_A (w_Hist cs h a S ++ linesW cs a 18 Ls) sz)) 0 0 (va_A (w_Hist cs h a S ++ linesW cs a 18 Ls) sz) := by
  refine Met.ofW (cc := cX0_forget) (maxL := 1) (ret := none) (by decide) rfl ?_
  intro p e s m args below meth c s₁ B hml hv
  obtain ⟨rfl, hsz, hP, hKK, hD0⟩ := hv
  have hC : MAt p s m _ meth c RX0 cX0_forget 1 none wsX0_forget D cs := ⟨B.exec, B.bytes, B.returns, hml, findClass_of_methodNamed B.named, atoms_spec (ws := wsX0_forget) B.pre, B.notSynchronized, hKK⟩
  have hl := lv_entry ([.ref (h 0)]) (n := 1) (Nat.le_of_ble_eq_true rfl)
  rw [lg_entry_eq]
  generalize (lg_sl ([.ref (h 0)]) ++ List.replicate (1 - (lg_sl ([.ref (h 0)])).length) Slot.unset).toArray = ls at hl ⊢
  subst hsz
  have hD := hD0.self (sz := s.heap.size)
  have hA : ∀ z : Nat, s.heap.size ≤ z → va_A (w_Hist cs h a S ++ linesW cs a 18 Ls) s.heap.size z := fun z h => Or.inr h
  exact t_X0_forget hC h a S Ls Q hA hw s.heap [] hP hD va_S.rf ls hl
theorem h_X0_X0_remember : ∀ w ∈ u_ws RX0 TX0 3, w ∈ wsX0_remember := fun _ h => List.mem_cons_of_mem _ (List.mem_append_left _ (List.mem_append_right _ h))
set_option maxHeartbeats 4000000 in
set_option maxRecDepth 100000 in
theorem t_X0_remember {p : Program} {l : Launch} {e : Env} {s : State} {m : MethodId} {args : Array Value} {below : List Frame} {meth : Method} {c : Code} {D : va_G} {cs : Nat → ClassId} {A : Nat → Prop} (hC : MAt p s m args meth c RX0 cX0_remember 2 none wsX0_remember D cs) (h : Nat → Nat) (a : Nat → Nat → Nat) (S : HS) (Ls : (Nat → LnS)) (Q : HS → (Nat → LnS) → Prop) (hA : ∀ q : Nat, s.heap.size ≤ q → A q) (hw : wp_X0_remember S Ls Q) (H : Heap) (locs : List Loc) (hP : va_P D vwCl (w_Hist cs h a S ++ linesW cs a 18 Ls) H) (hD : va_D A (w_Hist cs h a S ++ linesW cs a 18 Ls)) (hS : va_S A s.heap H locs) (ls : Array Slot) (hl : lv_has ls 2 [(0, .ref (h 0)), (1, .ref (a 0 0))]) : W p l e ({ frames := 2, cells := 0, slots := 0, locals := 61 } : Room) s m args below meth c H locs 0 0 (MQ below (va_Qv (fun (u : HS × (Nat → LnS)) => Q u.1 u.2) (fun (u : HS × (Nat → LnS)) t => va_P D vwCl (w_Hist cs h a u.1 ++ linesW cs a 18 u.2) t.heap ∧ va_D A (w_Hist cs h a u.1 ++ linesW cs a 18 u.2)) A) args s 0 0 A) (F0 m 0 ls []) := by
  obtain ⟨hx, hb, hr, hml, hown, hts, hlocks, hKK⟩ := id hC
  have hK := hKK.1
  refine lv_aload_n hx hb dX0_remember_0 rfl (lv_at hl 0 rfl) ?_
  refine va_get (D := D) (ci := 0) (v := .int S.2) (C := RX0) (T := TX0) (N := 3) hx hb hts (h_X0_X0_remember) hown hK hP 0 rfl rfl 2 (by decide) (z_w hts 1 rfl) (fun _ h9 => h9) rfl dX0_remember_1 ?_
  refine lv_bipush (v := (14 : Int32)) hx hb dX0_remember_4 (by decide) ?_
  refine lv_icmp_ne (tgt := 32) hx hb dX0_remember_6 (by decide) (fun c1 => ?_) (fun c1 => ?_)
  · have hw := hw.2 c1
    refine lv_aload_n hx hb dX0_remember_32 rfl (lv_at hl 0 rfl) ?_
    refine va_get (D := D) (ci := 0) (v := .ref (h 1)) (C := RX0) (T := TX0) (N := 3) hx hb hts (h_X0_X0_remember) hown hK hP 0 rfl rfl 0 (by decide) (z_w hts 3 rfl) (fun _ h9 => h9) rfl dX0_remember_33 ?_
    refine lv_aload_n hx hb dX0_remember_36 rfl (lv_at hl 0 rfl) ?_
    refine va_get (D := D) (ci := 0) (v := .int S.1) (C := RX0) (T := TX0) (N := 3) hx hb hts (h_X0_X0_remember) hown hK hP 0 rfl rfl 1 (by decide) (z_w hts 2 rfl) (fun _ h9 => h9) rfl dX0_remember_37 ?_
    refine lv_aload_n hx hb dX0_remember_40 rfl (lv_at hl 0 rfl) ?_
    refine va_get (D := D) (ci := 0) (v := .int S.2) (C := RX0) (T := TX0) (N := 3) hx hb hts (h_X0_X0_remember) hown hK hP 0 rfl rfl 2 (by decide) (z_w hts 1 rfl) (fun _ h9 => h9) rfl dX0_remember_41 ?_
    refine lv_iadd hx hb dX0_remember_44 ?_
    refine lv_bipush (v := (14 : Int32)) hx hb dX0_remember_45 (by decide) ?_
    refine lv_irem hx hb dX0_remember_47 (by decide) ?_
    obtain ⟨h2, hw⟩ := hw
    refine va_aldq hx hb hK hP 1 4 rfl rfl h2 dX0_remember_48 ?_
    refine W.eq (g2 := F0 m 49 ls [.ref (a (4 + ((S.1 + S.2) - (S.1 + S.2) / (14 : Int32) * (14 : Int32)).toNatClampNeg) 0)]) rfl ?_
    refine lv_aload_n hx hb dX0_remember_49 rfl (lv_at hl 1 rfl) ?_
    have hPx := z_perm_P (lines_2 (cs := cs) (a := a) (n := 18) (i := 4 + ((S.1 + S.2) - (S.1 + S.2) / (14 : Int32) * (14 : Int32)).toNatClampNeg) (j := 0) Ls (w_Hist cs h a S) (z_lt4 h2) (by decide) (by omega)) hP
    have hDx := z_perm_D (lines_2 (cs := cs) (a := a) (n := 18) (i := 4 + ((S.1 + S.2) - (S.1 + S.2) / (14 : Int32) * (14 : Int32)).toNatClampNeg) (j := 0) Ls (w_Hist cs h a S) (z_lt4 h2) (by decide) (by omega)) hD
    have hPc := (z_app_P hPx).1
    have hDc := (z_app_D hDx).1
    have hFc := z_free hDx hS hA
    refine va_callv (va_runV (As := [.ref (a 0 0)]) (rest := []) ⟨hx, hb, hml, hown, hts⟩ (c_X1_copyFrom l D cs (a (4 + ((S.1 + S.2) - (S.1 + S.2) / (14 : Int32) * (14 : Int32)).toNatClampNeg)) (a 0) H.size (Ls (4 + ((S.1 + S.2) - (S.1 + S.2) / (14 : Int32) * (14 : Int32)).toNatClampNeg)) (Ls 0) _ hw) (cwV 1 hts gX0_remember_X1_copyFrom rfl rfl rfl (by decide +kernel) ⟨Nat.le_of_ble_eq_true rfl, Nat.le_of_ble_eq_true rfl⟩) (PC_V hPc hDc hKK 0 1 rfl rfl) rfl rfl hl.1 rfl (lv_room (Nat.le_of_ble_eq_true rfl)) dX0_remember_50 ⟨Nat.le_of_ble_eq_true rfl, Nat.le_of_ble_eq_true rfl⟩) hS (fun q _ h => hFc q h) hFc (fun u3 t H locs ht hvm hw hB hz1 hk1 hS => ?_)
    obtain ⟨hP1, hD1⟩ := hB
    rw [ht] at hP1
    obtain ⟨hPx, hDx⟩ := z_join hPx hDx hk1 hFc hP1 hD1
    have hP : va_P D vwCl (w_Hist cs h a S ++ linesW cs a 18 (va_up Ls (4 + ((S.1 + S.2) - (S.1 + S.2) / (14 : Int32) * (14 : Int32)).toNatClampNeg) u3)) H := z_perm_P (lines_2b (cs := cs) (a := a) (n := 18) (i := 4 + ((S.1 + S.2) - (S.1 + S.2) / (14 : Int32) * (14 : Int32)).toNatClampNeg) (j := 0) Ls (w_Hist cs h a S) (z_lt4 h2) (by decide) (by omega) u3) hPx
    have hD : va_D A (w_Hist cs h a S ++ linesW cs a 18 (va_up Ls (4 + ((S.1 + S.2) - (S.1 + S.2) / (14 : Int32) * (14 : Int32)).toNatClampNeg) u3)) := z_perm_D (lines_2b (cs := cs) (a := a) (n := 18) (i := 4 + ((S.1 + S.2) - (S.1 + S.2) / (14 : Int32) * (14 : Int32)).toNatClampNeg) (j := 0) Ls (w_Hist cs h a S) (z_lt4 h2) (by decide) (by omega) u3) hDx
    refine lv_aload_n hx hb dX0_remember_53 rfl (lv_at hl 0 rfl) ?_
    refine lv_dup hx hb dX0_remember_54 rfl ?_
    refine va_get (D := D) (ci := 0) (v := .int S.2) (C := RX0) (T := TX0) (N := 3) hx hb hts (h_X0_X0_remember) hown hK hP 0 rfl rfl 2 (by decide) (z_w hts 1 rfl) (fun _ h9 => h9) rfl dX0_remember_55 ?_
    refine lv_iconst (v := (1 : Int32)) hx hb dX0_remember_58 (by decide) ?_
    refine lv_iadd hx hb dX0_remember_59 ?_
    refine va_put (D := D) (ci := 0) (v := .int (S.2 + (1 : Int32))) (ty := .int) (C := RX0) (T := TX0) (N := 3) hx hb hts (h_X0_X0_remember) tyX0 tyX0_ok nmX0 hown hK hP hD hS 0 rfl rfl 2 (by decide) (z_w hts 1 rfl) (fun _ h9 => h9) rfl (by decide +kernel) rfl rfl (Nat.le_of_ble_eq_true rfl) dX0_remember_60 (fun H locs hP hD hS => ?_)
    have hP : va_P D vwCl (w_Hist cs h a (S.1, S.2 + (1 : Int32)) ++ linesW cs a 18 (va_up Ls (4 + ((S.1 + S.2) - (S.1 + S.2) / (14 : Int32) * (14 : Int32)).toNatClampNeg) u3)) H := hP
    have hD : va_D A (w_Hist cs h a (S.1, S.2 + (1 : Int32)) ++ linesW cs a 18 (va_up Ls (4 + ((S.1 + S.2) - (S.1 + S.2) / (14 : Int32) * (14 : Int32)).toNatClampNeg) u3)) := hD
    exact W.vret hx hb hr (fun t ht hW => ⟨⟨((S.1, S.2 + (1 : Int32)), va_up Ls (4 + ((S.1 + S.2) - (S.1 + S.2) / (14 : Int32) * (14 : Int32)).toNatClampNeg) u3), rfl, hw, by rw [ht]; exact hP, hD⟩, hS.F ht⟩) hS.2.2 dX0_remember_63 hlocks
  · have hw := hw.1 c1
    refine lv_aload_n hx hb dX0_remember_9 rfl (lv_at hl 0 rfl) ?_
    refine lv_aload_n hx hb dX0_remember_10 rfl (lv_at hl 0 rfl) ?_
    refine va_get (D := D) (ci := 0) (v := .int S.1) (C := RX0) (T := TX0) (N := 3) hx hb hts (h_X0_X0_remember) hown hK hP 0 rfl rfl 1 (by decide) (z_w hts 2 rfl) (fun _ h9 => h9) rfl dX0_remember_11 ?_
    refine lv_iconst (v := (1 : Int32)) hx hb dX0_remember_14 (by decide) ?_
    refine lv_iadd hx hb dX0_remember_15 ?_
    refine lv_bipush (v := (14 : Int32)) hx hb dX0_remember_16 (by decide) ?_
    refine lv_irem hx hb dX0_remember_18 (by decide) ?_
    refine va_put (D := D) (ci := 0) (v := .int ((S.1 + (1 : Int32)) - (S.1 + (1 : Int32)) / (14 : Int32) * (14 : Int32))) (ty := .int) (C := RX0) (T := TX0) (N := 3) hx hb hts (h_X0_X0_remember) tyX0 tyX0_ok nmX0 hown hK hP hD hS 0 rfl rfl 1 (by decide) (z_w hts 2 rfl) (fun _ h9 => h9) rfl (by decide +kernel) rfl rfl (Nat.le_of_ble_eq_true rfl) dX0_remember_19 (fun H locs hP hD hS => ?_)
    have hP : va_P D vwCl (w_Hist cs h a ((S.1 + (1 : Int32)) - (S.1 + (1 : Int32)) / (14 : Int32) * (14 : Int32), S.2) ++ linesW cs a 18 Ls) H := hP
    have hD : va_D A (w_Hist cs h a ((S.1 + (1 : Int32)) - (S.1 + (1 : Int32)) / (14 : Int32) * (14 : Int32), S.2) ++ linesW cs a 18 Ls) := hD
    refine lv_aload_n hx hb dX0_remember_22 rfl (lv_at hl 0 rfl) ?_
    refine lv_dup hx hb dX0_remember_23 rfl ?_
    refine va_get (D := D) (ci := 0) (v := .int S.2) (C := RX0) (T := TX0) (N := 3) hx hb hts (h_X0_X0_remember) hown hK hP 0 rfl rfl 2 (by decide) (z_w hts 1 rfl) (fun _ h9 => h9) rfl dX0_remember_24 ?_
    refine lv_iconst (v := (1 : Int32)) hx hb dX0_remember_27 (by decide) ?_
    refine lv_isub hx hb dX0_remember_28 ?_
    refine va_put (D := D) (ci := 0) (v := .int (S.2 - (1 : Int32))) (ty := .int) (C := RX0) (T := TX0) (N := 3) hx hb hts (h_X0_X0_remember) tyX0 tyX0_ok nmX0 hown hK hP hD hS 0 rfl rfl 2 (by decide) (z_w hts 1 rfl) (fun _ h9 => h9) rfl (by decide +kernel) rfl rfl (Nat.le_of_ble_eq_true rfl) dX0_remember_29 (fun H locs hP hD hS => ?_)
    have hP : va_P D vwCl (w_Hist cs h a ((S.1 + (1 : Int32)) - (S.1 + (1 : Int32)) / (14 : Int32) * (14 : Int32), S.2 - (1 : Int32)) ++ linesW cs a 18 Ls) H := hP
    have hD : va_D A (w_Hist cs h a ((S.1 + (1 : Int32)) - (S.1 + (1 : Int32)) / (14 : Int32) * (14 : Int32), S.2 - (1 : Int32)) ++ linesW cs a 18 Ls) := hD
    refine lv_aload_n hx hb dX0_remember_32 rfl (lv_at hl 0 rfl) ?_
    refine va_get (D := D) (ci := 0) (v := .ref (h 1)) (C := RX0) (T := TX0) (N := 3) hx hb hts (h_X0_X0_remember) hown hK hP 0 rfl rfl 0 (by decide) (z_w hts 3 rfl) (fun _ h9 => h9) rfl dX0_remember_33 ?_
    refine lv_aload_n hx hb dX0_remember_36 rfl (lv_at hl 0 rfl) ?_
    refine va_get (D := D) (ci := 0) (v := .int ((S.1 + (1 : Int32)) - (S.1 + (1 : Int32)) / (14 : Int32) * (14 : Int32))) (C := RX0) (T := TX0) (N := 3) hx hb hts (h_X0_X0_remember) hown hK hP 0 rfl rfl 1 (by decide) (z_w hts 2 rfl) (fun _ h9 => h9) rfl dX0_remember_37 ?_
    refine lv_aload_n hx hb dX0_remember_40 rfl (lv_at hl 0 rfl) ?_
    refine va_get (D := D) (ci := 0) (v := .int (S.2 - (1 : Int32))) (C := RX0) (T := TX0) (N := 3) hx hb hts (h_X0_X0_remember) hown hK hP 0 rfl rfl 2 (by decide) (z_w hts 1 rfl) (fun _ h9 => h9) rfl dX0_remember_41 ?_
    refine lv_iadd hx hb dX0_remember_44 ?_
    refine lv_bipush (v := (14 : Int32)) hx hb dX0_remember_45 (by decide) ?_
    refine lv_irem hx hb dX0_remember_47 (by decide) ?_
    obtain ⟨h4, hw⟩ := hw
    refine va_aldq hx hb hK hP 1 4 rfl rfl h4 dX0_remember_48 ?_
    refine W.eq (g2 := F0 m 49 ls [.ref (a (4 + ((((S.1 + (1 : Int32)) - (S.1 + (1 : Int32)) / (14 : Int32) * (14 : Int32)) + (S.2 - (1 : Int32))) - (((S.1 + (1 : Int32)) - (S.1 + (1 : Int32)) / (14 : Int32) * (14 : Int32)) + (S.2 - (1 : Int32))) / (14 : Int32) * (14 : Int32)).toNatClampNeg) 0)]) rfl ?_
    refine lv_aload_n hx hb dX0_remember_49 rfl (lv_at hl 1 rfl) ?_
    have hPx := z_perm_P (lines_2 (cs := cs) (a := a) (n := 18) (i := 4 + ((((S.1 + (1 : Int32)) - (S.1 + (1 : Int32)) / (14 : Int32) * (14 : Int32)) + (S.2 - (1 : Int32))) - (((S.1 + (1 : Int32)) - (S.1 + (1 : Int32)) / (14 : Int32) * (14 : Int32)) + (S.2 - (1 : Int32))) / (14 : Int32) * (14 : Int32)).toNatClampNeg) (j := 0) Ls (w_Hist cs h a ((S.1 + (1 : Int32)) - (S.1 + (1 : Int32)) / (14 : Int32) * (14 : Int32), S.2 - (1 : Int32))) (z_lt4 h4) (by decide) (by omega)) hP
    have hDx := z_perm_D (lines_2 (cs := cs) (a := a) (n := 18) (i := 4 + ((((S.1 + (1 : Int32)) - (S.1 + (1 : Int32)) / (14 : Int32) * (14 : Int32)) + (S.2 - (1 : Int32))) - (((S.1 + (1 : Int32)) - (S.1 + (1 : Int32)) / (14 : Int32) * (14 : Int32)) + (S.2 - (1 : Int32))) / (14 : Int32) * (14 : Int32)).toNatClampNeg) (j := 0) Ls (w_Hist cs h a ((S.1 + (1 : Int32)) - (S.1 + (1 : Int32)) / (14 : Int32) * (14 : Int32), S.2 - (1 : Int32))) (z_lt4 h4) (by decide) (by omega)) hD
    have hPc := (z_app_P hPx).1
    have hDc := (z_app_D hDx).1
    have hFc := z_free hDx hS hA
    refine va_callv (va_runV (As := [.ref (a 0 0)]) (rest := []) ⟨hx, hb, hml, hown, hts⟩ (c_X1_copyFrom l D cs (a (4 + ((((S.1 + (1 : Int32)) - (S.1 + (1 : Int32)) / (14 : Int32) * (14 : Int32)) + (S.2 - (1 : Int32))) - (((S.1 + (1 : Int32)) - (S.1 + (1 : Int32)) / (14 : Int32) * (14 : Int32)) + (S.2 - (1 : Int32))) / (14 : Int32) * (14 : Int32)).toNatClampNeg)) (a 0) H.size (Ls (4 + ((((S.1 + (1 : Int32)) - (S.1 + (1 : Int32)) / (14 : Int32) * (14 : Int32)) + (S.2 - (1 : Int32))) - (((S.1 + (1 : Int32)) - (S.1 + (1 : Int32)) / (14 : Int32) * (14 : Int32)) + (S.2 - (1 : Int32))) / (14 : Int32) * (14 : Int32)).toNatClampNeg)) (Ls 0) _ hw) (cwV 1 hts gX0_remember_X1_copyFrom rfl rfl rfl (by decide +kernel) ⟨Nat.le_of_ble_eq_true rfl, Nat.le_of_ble_eq_true rfl⟩) (PC_V hPc hDc hKK 0 1 rfl rfl) rfl rfl hl.1 rfl (lv_room (Nat.le_of_ble_eq_true rfl)) dX0_remember_50 ⟨Nat.le_of_ble_eq_true rfl, Nat.le_of_ble_eq_true rfl⟩) hS (fun q _ h => hFc q h) hFc (fun u5 t H locs ht hvm hw hB hz1 hk1 hS => ?_)
    obtain ⟨hP1, hD1⟩ := hB
    rw [ht] at hP1
    obtain ⟨hPx, hDx⟩ := z_join hPx hDx hk1 hFc hP1 hD1
    have hP : va_P D vwCl (w_Hist cs h a ((S.1 + (1 : Int32)) - (S.1 + (1 : Int32)) / (14 : Int32) * (14 : Int32), S.2 - (1 : Int32)) ++ linesW cs a 18 (va_up Ls (4 + ((((S.1 + (1 : Int32)) - (S.1 + (1 : Int32)) / (14 : Int32) * (14 : Int32)) + (S.2 - (1 : Int32))) - (((S.1 + (1 : Int32)) - (S.1 + (1 : Int32)) / (14 : Int32) * (14 : Int32)) + (S.2 - (1 : Int32))) / (14 : Int32) * (14 : Int32)).toNatClampNeg) u5)) H := z_perm_P (lines_2b (cs := cs) (a := a) (n := 18) (i := 4 + ((((S.1 + (1 : Int32)) - (S.1 + (1 : Int32)) / (14 : Int32) * (14 : Int32)) + (S.2 - (1 : Int32))) - (((S.1 + (1 : Int32)) - (S.1 + (1 : Int32)) / (14 : Int32) * (14 : Int32)) + (S.2 - (1 : Int32))) / (14 : Int32) * (14 : Int32)).toNatClampNeg) (j := 0) Ls (w_Hist cs h a ((S.1 + (1 : Int32)) - (S.1 + (1 : Int32)) / (14 : Int32) * (14 : Int32), S.2 - (1 : Int32))) (z_lt4 h4) (by decide) (by omega) u5) hPx
    have hD : va_D A (w_Hist cs h a ((S.1 + (1 : Int32)) - (S.1 + (1 : Int32)) / (14 : Int32) * (14 : Int32), S.2 - (1 : Int32)) ++ linesW cs a 18 (va_up Ls (4 + ((((S.1 + (1 : Int32)) - (S.1 + (1 : Int32)) / (14 : Int32) * (14 : Int32)) + (S.2 - (1 : Int32))) - (((S.1 + (1 : Int32)) - (S.1 + (1 : Int32)) / (14 : Int32) * (14 : Int32)) + (S.2 - (1 : Int32))) / (14 : Int32) * (14 : Int32)).toNatClampNeg) u5)) := z_perm_D (lines_2b (cs := cs) (a := a) (n := 18) (i := 4 + ((((S.1 + (1 : Int32)) - (S.1 + (1 : Int32)) / (14 : Int32) * (14 : Int32)) + (S.2 - (1 : Int32))) - (((S.1 + (1 : Int32)) - (S.1 + (1 : Int32)) / (14 : Int32) * (14 : Int32)) + (S.2 - (1 : Int32))) / (14 : Int32) * (14 : Int32)).toNatClampNeg) (j := 0) Ls (w_Hist cs h a ((S.1 + (1 : Int32)) - (S.1 + (1 : Int32)) / (14 : Int32) * (14 : Int32), S.2 - (1 : Int32))) (z_lt4 h4) (by decide) (by omega) u5) hDx
    refine lv_aload_n hx hb dX0_remember_53 rfl (lv_at hl 0 rfl) ?_
    refine lv_dup hx hb dX0_remember_54 rfl ?_
    refine va_get (D := D) (ci := 0) (v := .int (S.2 - (1 : Int32))) (C := RX0) (T := TX0) (N := 3) hx hb hts (h_X0_X0_remember) hown hK hP 0 rfl rfl 2 (by decide) (z_w hts 1 rfl) (fun _ h9 => h9) rfl dX0_remember_55 ?_
    refine lv_iconst (v := (1 : Int32)) hx hb dX0_remember_58 (by decide) ?_
    refine lv_iadd hx hb dX0_remember_59 ?_
    refine va_put (D := D) (ci := 0) (v := .int ((S.2 - (1 : Int32)) + (1 : Int32))) (ty := .int) (C := RX0) (T := TX0) (N := 3) hx hb hts (h_X0_X0_remember) tyX0 tyX0_ok nmX0 hown hK hP hD hS 0 rfl rfl 2 (by decide) (z_w hts 1 rfl) (fun _ h9 => h9) rfl (by decide +kernel) rfl rfl (Nat.le_of_ble_eq_true rfl) dX0_remember_60 (fun H locs hP hD hS => ?_)
    have hP : va_P D vwCl (w_Hist cs h a ((S.1 + (1 : Int32)) - (S.1 + (1 : Int32)) / (14 : Int32) * (14 : Int32), (S.2 - (1 : Int32)) + (1 : Int32)) ++ linesW cs a 18 (va_up Ls (4 + ((((S.1 + (1 : Int32)) - (S.1 + (1 : Int32)) / (14 : Int32) * (14 : Int32)) + (S.2 - (1 : Int32))) - (((S.1 + (1 : Int32)) - (S.1 + (1 : Int32)) / (14 : Int32) * (14 : Int32)) + (S.2 - (1 : Int32))) / (14 : Int32) * (14 : Int32)).toNatClampNeg) u5)) H := hP
    have hD : va_D A (w_Hist cs h a ((S.1 + (1 : Int32)) - (S.1 + (1 : Int32)) / (14 : Int32) * (14 : Int32), (S.2 - (1 : Int32)) + (1 : Int32)) ++ linesW cs a 18 (va_up Ls (4 + ((((S.1 + (1 : Int32)) - (S.1 + (1 : Int32)) / (14 : Int32) * (14 : Int32)) + (S.2 - (1 : Int32))) - (((S.1 + (1 : Int32)) - (S.1 + (1 : Int32)) / (14 : Int32) * (14 : Int32)) + (S.2 - (1 : Int32))) / (14 : Int32) * (14 : Int32)).toNatClampNeg) u5)) := hD
    exact W.vret hx hb hr (fun t ht hW => ⟨⟨(((S.1 + (1 : Int32)) - (S.1 + (1 : Int32)) / (14 : Int32) * (14 : Int32), (S.2 - (1 : Int32)) + (1 : Int32)), va_up Ls (4 + ((((S.1 + (1 : Int32)) - (S.1 + (1 : Int32)) / (14 : Int32) * (14 : Int32)) + (S.2 - (1 : Int32))) - (((S.1 + (1 : Int32)) - (S.1 + (1 : Int32)) / (14 : Int32) * (14 : Int32)) + (S.2 - (1 : Int32))) / (14 : Int32) * (14 : Int32)).toNatClampNeg) u5), rfl, hw, by rw [ht]; exact hP, hD⟩, hS.F ht⟩) hS.2.2 dX0_remember_63 hlocks
set_option maxHeartbeats 4000000 in
set_option maxRecDepth 100000 in
theorem c_X0_remember (l : Launch) (D : va_G) (cs : Nat → ClassId) (h : Nat → Nat) (a : Nat → Nat → Nat) (sz : Nat) (S : HS) (Ls : (Nat → LnS)) (Q : HS → (Nat → LnS) → Prop) (hw : wp_X0_remember S Ls Q) : Met l yX0_remember wsX0_remember ({ frames := 2, cells := 0, slots := 0, locals := 61 } : Room) (va_Pc [.ref (h 0), .ref (a 0 0)] (PC D cs (w_Hist cs h a S ++ linesW cs a 18 Ls) sz)) (va_Qv (fun (u : HS × (Nat → LnS)) => Q u.1 u.2) (fun (u : HS × (Nat → LnS)) t => va_P D vwCl (w_Hist cs h a u.1 ++ linesW cs a 18 u.2) t.heap ∧ va_D (va_A (w_Hist cs h a S ++ linesW cs a 18 Ls) sz) (w_Hist cs h a u.1 ++ linesW cs a 18 u.2)) (va_A (w_Hist cs h a S ++ linesW cs a 18 Ls) sz)) 0 0 (va_A (w_Hist cs h a S ++ linesW cs a 18 Ls) sz) := by
  refine Met.ofW (cc := cX0_remember) (maxL := 2) (ret := none) (by decide) rfl ?_
  intro p e s m args below meth c s₁ B hml hv
  obtain ⟨rfl, hsz, hP, hKK, hD0⟩ := hv
  have hC : MAt p s m _ meth c RX0 cX0_remember 2 none wsX0_remember D cs := ⟨B.exec, B.bytes, B.returns, hml, findClass_of_methodNamed B.named, atoms_spec (ws := wsX0_remember) B.pre, B.notSynchronized, hKK⟩
  have hl := lv_entry ([.ref (h 0), .ref (a 0 0)]) (n := 2) (Nat.le_of_ble_eq_true rfl)
  rw [lg_entry_eq]
  generalize (lg_sl ([.ref (h 0), .ref (a 0 0)]) ++ List.replicate (2 - (lg_sl ([.ref (h 0), .ref (a 0 0)])).length) Slot.unset).toArray = ls at hl ⊢
  subst hsz
  have hD := hD0.self (sz := s.heap.size)
  have hA : ∀ z : Nat, s.heap.size ≤ z → va_A (w_Hist cs h a S ++ linesW cs a 18 Ls) s.heap.size z := fun z h => Or.inr h
  exact t_X0_remember hC h a S Ls Q hA hw s.heap [] hP hD va_S.rf ls hl
theorem h_X0_X0_takeBack : ∀ w ∈ u_ws RX0 TX0 3, w ∈ wsX0_takeBack := fun _ h => List.mem_cons_of_mem _ (List.mem_append_left _ (List.mem_append_right _ h))
set_option maxHeartbeats 4000000 in
set_option maxRecDepth 100000 in
theorem t_X0_takeBack {p : Program} {l : Launch} {e : Env} {s : State} {m : MethodId} {args : Array Value} {below : List Frame} {meth : Method} {c : Code} {D : va_G} {cs : Nat → ClassId} {A : Nat → Prop} (hC : MAt p s m args meth c RX0 cX0_takeBack 2 none wsX0_takeBack D cs) (h : Nat → Nat) (a : Nat → Nat → Nat) (S : HS) (Ls : (Nat → LnS)) (Q : HS → (Nat → LnS) → Prop) (hA : ∀ q : Nat, s.heap.size ≤ q → A q) (hw : wp_X0_takeBack S Ls Q) (H : Heap) (locs : List Loc) (hP : va_P D vwCl (w_Hist cs h a S ++ linesW cs a 18 Ls) H) (hD : va_D A (w_Hist cs h a S ++ linesW cs a 18 Ls)) (hS : va_S A s.heap H locs) (ls : Array Slot) (hl : lv_has ls 2 [(0, .ref (h 0)), (1, .ref (a 0 0))]) : W p l e ({ frames := 2, cells := 0, slots := 0, locals := 61 } : Room) s m args below meth c H locs 0 0 (MQ below (va_Qv (fun (u : HS × (Nat → LnS)) => Q u.1 u.2) (fun (u : HS × (Nat → LnS)) t => va_P D vwCl (w_Hist cs h a u.1 ++ linesW cs a 18 u.2) t.heap ∧ va_D A (w_Hist cs h a u.1 ++ linesW cs a 18 u.2)) A) args s 0 0 A) (F0 m 0 ls []) := by
  obtain ⟨hx, hb, hr, hml, hown, hts, hlocks, hKK⟩ := id hC
  have hK := hKK.1
  refine lv_aload_n hx hb dX0_takeBack_0 rfl (lv_at hl 0 rfl) ?_
  refine va_get (D := D) (ci := 0) (v := .int S.2) (C := RX0) (T := TX0) (N := 3) hx hb hts (h_X0_X0_takeBack) hown hK hP 0 rfl rfl 2 (by decide) (z_w hts 1 rfl) (fun _ h9 => h9) rfl dX0_takeBack_1 ?_
  refine lv_if_le (tgt := 38) hx hb dX0_takeBack_4 (by decide) (fun c1 => ?_) (fun c1 => ?_)
  · have hw := hw.1 c1
    exact W.vret hx hb hr (fun t ht hW => ⟨⟨(S, Ls), rfl, hw, by rw [ht]; exact hP, hD⟩, hS.F ht⟩) hS.2.2 dX0_takeBack_38 hlocks
  · have hw := hw.2 c1
    refine lv_aload_n hx hb dX0_takeBack_7 rfl (lv_at hl 0 rfl) ?_
    refine lv_dup hx hb dX0_takeBack_8 rfl ?_
    refine va_get (D := D) (ci := 0) (v := .int S.2) (C := RX0) (T := TX0) (N := 3) hx hb hts (h_X0_X0_takeBack) hown hK hP 0 rfl rfl 2 (by decide) (z_w hts 1 rfl) (fun _ h9 => h9) rfl dX0_takeBack_9 ?_
    refine lv_iconst (v := (1 : Int32)) hx hb dX0_takeBack_12 (by decide) ?_
    refine lv_isub hx hb dX0_takeBack_13 ?_
    refine va_put (D := D) (ci := 0) (v := .int (S.2 - (1 : Int32))) (ty := .int) (C := RX0) (T := TX0) (N := 3) hx hb hts (h_X0_X0_takeBack) tyX0 tyX0_ok nmX0 hown hK hP hD hS 0 rfl rfl 2 (by decide) (z_w hts 1 rfl) (fun _ h9 => h9) rfl (by decide +kernel) rfl rfl (Nat.le_of_ble_eq_true rfl) dX0_takeBack_14 (fun H locs hP hD hS => ?_)
    have hP : va_P D vwCl (w_Hist cs h a (S.1, S.2 - (1 : Int32)) ++ linesW cs a 18 Ls) H := hP
    have hD : va_D A (w_Hist cs h a (S.1, S.2 - (1 : Int32)) ++ linesW cs a 18 Ls) := hD
    refine lv_aload_n hx hb dX0_takeBack_17 rfl (lv_at hl 1 rfl) ?_
    refine lv_aload_n hx hb dX0_takeBack_18 rfl (lv_at hl 0 rfl) ?_
    refine va_get (D := D) (ci := 0) (v := .ref (h 1)) (C := RX0) (T := TX0) (N := 3) hx hb hts (h_X0_X0_takeBack) hown hK hP 0 rfl rfl 0 (by decide) (z_w hts 2 rfl) (fun _ h9 => h9) rfl dX0_takeBack_19 ?_
    refine lv_aload_n hx hb dX0_takeBack_22 rfl (lv_at hl 0 rfl) ?_
    refine va_get (D := D) (ci := 0) (v := .int S.1) (C := RX0) (T := TX0) (N := 3) hx hb hts (h_X0_X0_takeBack) hown hK hP 0 rfl rfl 1 (by decide) (z_w hts 3 rfl) (fun _ h9 => h9) rfl dX0_takeBack_23 ?_
    refine lv_aload_n hx hb dX0_takeBack_26 rfl (lv_at hl 0 rfl) ?_
    refine va_get (D := D) (ci := 0) (v := .int (S.2 - (1 : Int32))) (C := RX0) (T := TX0) (N := 3) hx hb hts (h_X0_X0_takeBack) hown hK hP 0 rfl rfl 2 (by decide) (z_w hts 1 rfl) (fun _ h9 => h9) rfl dX0_takeBack_27 ?_
    refine lv_iadd hx hb dX0_takeBack_30 ?_
    refine lv_bipush (v := (14 : Int32)) hx hb dX0_takeBack_31 (by decide) ?_
    refine lv_irem hx hb dX0_takeBack_33 (by decide) ?_
    obtain ⟨h2, hw⟩ := hw
    refine va_aldq hx hb hK hP 1 4 rfl rfl h2 dX0_takeBack_34 ?_
    refine W.eq (g2 := F0 m 35 ls [.ref (a (4 + ((S.1 + (S.2 - (1 : Int32))) - (S.1 + (S.2 - (1 : Int32))) / (14 : Int32) * (14 : Int32)).toNatClampNeg) 0), .ref (a 0 0)]) rfl ?_
    have hPx := z_perm_P (lines_2 (cs := cs) (a := a) (n := 18) (i := 0) (j := 4 + ((S.1 + (S.2 - (1 : Int32))) - (S.1 + (S.2 - (1 : Int32))) / (14 : Int32) * (14 : Int32)).toNatClampNeg) Ls (w_Hist cs h a (S.1, S.2 - (1 : Int32))) (by decide) (z_lt4 h2) (by omega)) hP
    have hDx := z_perm_D (lines_2 (cs := cs) (a := a) (n := 18) (i := 0) (j := 4 + ((S.1 + (S.2 - (1 : Int32))) - (S.1 + (S.2 - (1 : Int32))) / (14 : Int32) * (14 : Int32)).toNatClampNeg) Ls (w_Hist cs h a (S.1, S.2 - (1 : Int32))) (by decide) (z_lt4 h2) (by omega)) hD
    have hPc := (z_app_P hPx).1
    have hDc := (z_app_D hDx).1
    have hFc := z_free hDx hS hA
    refine va_callv (va_runV (As := [.ref (a (4 + ((S.1 + (S.2 - (1 : Int32))) - (S.1 + (S.2 - (1 : Int32))) / (14 : Int32) * (14 : Int32)).toNatClampNeg) 0)]) (rest := []) ⟨hx, hb, hml, hown, hts⟩ (c_X1_copyFrom l D cs (a 0) (a (4 + ((S.1 + (S.2 - (1 : Int32))) - (S.1 + (S.2 - (1 : Int32))) / (14 : Int32) * (14 : Int32)).toNatClampNeg)) H.size (Ls 0) (Ls (4 + ((S.1 + (S.2 - (1 : Int32))) - (S.1 + (S.2 - (1 : Int32))) / (14 : Int32) * (14 : Int32)).toNatClampNeg)) _ hw) (cwV 1 hts gX0_takeBack_X1_copyFrom rfl rfl rfl (by decide +kernel) ⟨Nat.le_of_ble_eq_true rfl, Nat.le_of_ble_eq_true rfl⟩) (PC_V hPc hDc hKK 0 1 rfl rfl) rfl rfl hl.1 rfl (lv_room (Nat.le_of_ble_eq_true rfl)) dX0_takeBack_35 ⟨Nat.le_of_ble_eq_true rfl, Nat.le_of_ble_eq_true rfl⟩) hS (fun q _ h => hFc q h) hFc (fun u3 t H locs ht hvm hw hB hz1 hk1 hS => ?_)
    obtain ⟨hP1, hD1⟩ := hB
    rw [ht] at hP1
    obtain ⟨hPx, hDx⟩ := z_join hPx hDx hk1 hFc hP1 hD1
    have hP : va_P D vwCl (w_Hist cs h a (S.1, S.2 - (1 : Int32)) ++ linesW cs a 18 (va_up Ls 0 u3)) H := z_perm_P (lines_2b (cs := cs) (a := a) (n := 18) (i := 0) (j := 4 + ((S.1 + (S.2 - (1 : Int32))) - (S.1 + (S.2 - (1 : Int32))) / (14 : Int32) * (14 : Int32)).toNatClampNeg) Ls (w_Hist cs h a (S.1, S.2 - (1 : Int32))) (by decide) (z_lt4 h2) (by omega) u3) hPx
    have hD : va_D A (w_Hist cs h a (S.1, S.2 - (1 : Int32)) ++ linesW cs a 18 (va_up Ls 0 u3)) := z_perm_D (lines_2b (cs := cs) (a := a) (n := 18) (i := 0) (j := 4 + ((S.1 + (S.2 - (1 : Int32))) - (S.1 + (S.2 - (1 : Int32))) / (14 : Int32) * (14 : Int32)).toNatClampNeg) Ls (w_Hist cs h a (S.1, S.2 - (1 : Int32))) (by decide) (z_lt4 h2) (by omega) u3) hDx
    exact W.vret hx hb hr (fun t ht hW => ⟨⟨((S.1, S.2 - (1 : Int32)), va_up Ls 0 u3), rfl, hw, by rw [ht]; exact hP, hD⟩, hS.F ht⟩) hS.2.2 dX0_takeBack_38 hlocks
set_option maxHeartbeats 4000000 in
set_option maxRecDepth 100000 in
theorem c_X0_takeBack (l : Launch) (D : va_G) (cs : Nat → ClassId) (h : Nat → Nat) (a : Nat → Nat → Nat) (sz : Nat) (S : HS) (Ls : (Nat → LnS)) (Q : HS → (Nat → LnS) → Prop) (hw : wp_X0_takeBack S Ls Q) : Met l yX0_takeBack wsX0_takeBack ({ frames := 2, cells := 0, slots := 0, locals := 61 } : Room) (va_Pc [.ref (h 0), .ref (a 0 0)] (PC D cs (w_Hist cs h a S ++ linesW cs a 18 Ls) sz)) (va_Qv (fun (u : HS × (Nat → LnS)) => Q u.1 u.2) (fun (u : HS × (Nat → LnS)) t => va_P D vwCl (w_Hist cs h a u.1 ++ linesW cs a 18 u.2) t.heap ∧ va_D (va_A (w_Hist cs h a S ++ linesW cs a 18 Ls) sz) (w_Hist cs h a u.1 ++ linesW cs a 18 u.2)) (va_A (w_Hist cs h a S ++ linesW cs a 18 Ls) sz)) 0 0 (va_A (w_Hist cs h a S ++ linesW cs a 18 Ls) sz) := by
  refine Met.ofW (cc := cX0_takeBack) (maxL := 2) (ret := none) (by decide) rfl ?_
  intro p e s m args below meth c s₁ B hml hv
  obtain ⟨rfl, hsz, hP, hKK, hD0⟩ := hv
  have hC : MAt p s m _ meth c RX0 cX0_takeBack 2 none wsX0_takeBack D cs := ⟨B.exec, B.bytes, B.returns, hml, findClass_of_methodNamed B.named, atoms_spec (ws := wsX0_takeBack) B.pre, B.notSynchronized, hKK⟩
  have hl := lv_entry ([.ref (h 0), .ref (a 0 0)]) (n := 2) (Nat.le_of_ble_eq_true rfl)
  rw [lg_entry_eq]
  generalize (lg_sl ([.ref (h 0), .ref (a 0 0)]) ++ List.replicate (2 - (lg_sl ([.ref (h 0), .ref (a 0 0)])).length) Slot.unset).toArray = ls at hl ⊢
  subst hsz
  have hD := hD0.self (sz := s.heap.size)
  have hA : ∀ z : Nat, s.heap.size ≤ z → va_A (w_Hist cs h a S ++ linesW cs a 18 Ls) s.heap.size z := fun z h => Or.inr h
  exact t_X0_takeBack hC h a S Ls Q hA hw s.heap [] hP hD va_S.rf ls hl

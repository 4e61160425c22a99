theorem h_X1_X1_clear : ∀ w ∈ u_ws RX1 TX1 13, w ∈ wsX1_clear := fun _ h => List.mem_cons_of_mem _ (List.mem_append_right _ h)
set_option maxHeartbeats 4000000 in
set_option maxRecDepth 100000 in
theorem t_X1_clear_22 {p : Program} {l : Launch} {e : Env} {s : State} {m : MethodId} {args : Array Value} {below : List Frame} {meth : Method} {c : Code} {D : va_G} {cs : Nat → ClassId} {A : Nat → Prop} (hC : MAt p s m args meth c RX1 cX1_clear 2 none wsX1_clear D cs) (q : Nat → Nat) (Q : LnS → Prop) (E55 : LnS → Prop) (hA : ∀ q : Nat, s.heap.size ≤ q → A q) (hE55 : ∀ (L' : LnS) , E55 L' → ∀ (H : Heap) (locs : List Loc), va_P D vwCl (w_Line cs q L') H → va_D A (w_Line cs q L') → va_S A s.heap H locs → ∀ ls : Array Slot, lv_has ls 2 [(0, .ref (q 0))] → W p l e ({ frames := 0, cells := 0, slots := 0, locals := 0 } : Room) s m args below meth c H locs 0 0 (MQ below (va_Qv (fun (u : LnS) => Q u) (fun (u : LnS) t => va_P D vwCl (w_Line cs q u) t.heap ∧ va_D A (w_Line cs q u)) A) args s 0 0 A) (F0 m 55 ls [])) : ∀ (n : Nat) (L : LnS) (x1 : Int32), wl_X1_clear_22 Q E55 n L x1 → ∀ (H : Heap) (locs : List Loc), va_P D vwCl (w_Line cs q L) H → va_D A (w_Line cs q L) → va_S A s.heap H locs → ∀ ls : Array Slot, lv_has ls 2 [(0, .ref (q 0)), (1, .int x1)] → W p l e ({ frames := 0, cells := 0, slots := 0, locals := 0 } : Room) s m args below meth c H locs 0 0 (MQ below (va_Qv (fun (u : LnS) => Q u) (fun (u : LnS) t => va_P D vwCl (w_Line cs q u) t.heap ∧ va_D A (w_Line cs q u)) A) args s 0 0 A) (F0 m 22 ls []) := by
  obtain ⟨hx, hb, hr, hml, hown, hts, hlocks, hKK⟩ := id hC
  have hK := hKK.1
  intro n
  induction n with
  | zero =>
    intro L x1 hw
    exact False.elim hw
  | succ n ih =>
    intro L x1 hw H locs hP hD hS ls hl
    refine lv_iload_n hx hb dX1_clear_22 rfl (lv_at hl 1 rfl) ?_
    refine lv_bipush (v := (6 : Int32)) hx hb dX1_clear_23 (by decide) ?_
    refine lv_icmp_ge (tgt := 55) hx hb dX1_clear_25 (by decide) (fun c1 => ?_) (fun c1 => ?_)
    · have hw := hw.1 c1
      exact hE55 _ hw _ _ hP hD hS ls (lv_sub hl [0] rfl)
    · have hw := hw.2 c1
      refine lv_aload_n hx hb dX1_clear_28 rfl (lv_at hl 0 rfl) ?_
      refine va_get (D := D) (ci := 1) (v := .ref (q 1)) (C := RX1) (T := TX1) (N := 13) hx hb hts (h_X1_X1_clear) hown hK hP 0 rfl rfl 4 (by decide) (z_w hts 5 rfl) (fun _ h9 => h9) rfl dX1_clear_29 ?_
      refine lv_iload_n hx hb dX1_clear_32 rfl (lv_at hl 1 rfl) ?_
      refine lv_iconst (v := (0 : Int32)) hx hb dX1_clear_33 (by decide) ?_
      obtain ⟨h2, hw⟩ := hw
      refine va_iast hx hb hK hP hD hS 1 0 rfl rfl h2 dX1_clear_34 (fun H locs hP hD hS => ?_)
      have hP : va_P D vwCl (w_Line cs q (lsR L 1 (upd (L.1 1) x1.toNatClampNeg (0 : Int32)))) H := hP
      have hD : va_D A (w_Line cs q (lsR L 1 (upd (L.1 1) x1.toNatClampNeg (0 : Int32)))) := hD
      refine lv_aload_n hx hb dX1_clear_35 rfl (lv_at hl 0 rfl) ?_
      refine va_get (D := D) (ci := 1) (v := .ref (q 2)) (C := RX1) (T := TX1) (N := 13) hx hb hts (h_X1_X1_clear) hown hK hP 0 rfl rfl 5 (by decide) (z_w hts 6 rfl) (fun _ h9 => h9) rfl dX1_clear_36 ?_
      refine lv_iload_n hx hb dX1_clear_39 rfl (lv_at hl 1 rfl) ?_
      refine lv_iconst (v := (0 : Int32)) hx hb dX1_clear_40 (by decide) ?_
      obtain ⟨L3, eL3⟩ : ∃ z : LnS, z = (lsR L 1 (upd (L.1 1) x1.toNatClampNeg (0 : Int32))) := ⟨_, rfl⟩
      have hw := hw L3 eL3
      rw [← eL3] at hP hD
      obtain ⟨h4, hw⟩ := hw
      refine va_zast hx hb hK hP hD hS 2 1 rfl rfl h4 dX1_clear_41 (fun H locs hP hD hS => ?_)
      have hP : va_P D vwCl (w_Line cs q (lsR L3 2 (upd (L3.1 2) x1.toNatClampNeg (vp_nar .boolean (0 : Int32))))) H := hP
      have hD : va_D A (w_Line cs q (lsR L3 2 (upd (L3.1 2) x1.toNatClampNeg (vp_nar .boolean (0 : Int32))))) := hD
      refine lv_aload_n hx hb dX1_clear_42 rfl (lv_at hl 0 rfl) ?_
      refine va_get (D := D) (ci := 1) (v := .ref (q 3)) (C := RX1) (T := TX1) (N := 13) hx hb hts (h_X1_X1_clear) hown hK hP 0 rfl rfl 6 (by decide) (z_w hts 7 rfl) (fun _ h9 => h9) rfl dX1_clear_43 ?_
      refine lv_iload_n hx hb dX1_clear_46 rfl (lv_at hl 1 rfl) ?_
      refine lv_iconst (v := (0 : Int32)) hx hb dX1_clear_47 (by decide) ?_
      obtain ⟨L5, eL5⟩ : ∃ z : LnS, z = (lsR L3 2 (upd (L3.1 2) x1.toNatClampNeg (vp_nar .boolean (0 : Int32)))) := ⟨_, rfl⟩
      have hw := hw L5 eL5
      rw [← eL5] at hP hD
      obtain ⟨h6, hw⟩ := hw
      refine va_iast hx hb hK hP hD hS 3 0 rfl rfl h6 dX1_clear_48 (fun H locs hP hD hS => ?_)
      have hP : va_P D vwCl (w_Line cs q (lsR L5 3 (upd (L5.1 3) x1.toNatClampNeg (0 : Int32)))) H := hP
      have hD : va_D A (w_Line cs q (lsR L5 3 (upd (L5.1 3) x1.toNatClampNeg (0 : Int32)))) := hD
      refine lv_iinc (v := x1 + 1) (lv' := [(1, .int (x1 + 1)), (0, .ref (q 0))]) hx hb dX1_clear_49 hl (k := 1) rfl rfl (by decide) rfl (fun ls hl => ?_)
      refine lv_goto (tgt := 22) hx hb dX1_clear_52 (by decide) ?_
      exact ih _ _ hw _ _ hP hD hS ls (lv_sub hl [1, 0] rfl)
set_option maxHeartbeats 4000000 in
set_option maxRecDepth 100000 in
theorem t_X1_clear_57 {p : Program} {l : Launch} {e : Env} {s : State} {m : MethodId} {args : Array Value} {below : List Frame} {meth : Method} {c : Code} {D : va_G} {cs : Nat → ClassId} {A : Nat → Prop} (hC : MAt p s m args meth c RX1 cX1_clear 2 none wsX1_clear D cs) (q : Nat → Nat) (Q : LnS → Prop) (hA : ∀ q : Nat, s.heap.size ≤ q → A q) : ∀ (n : Nat) (L : LnS) (x1 : Int32), wl_X1_clear_57 Q n L x1 → ∀ (H : Heap) (locs : List Loc), va_P D vwCl (w_Line cs q L) H → va_D A (w_Line cs q L) → va_S A s.heap H locs → ∀ ls : Array Slot, lv_has ls 2 [(0, .ref (q 0)), (1, .int x1)] → W p l e ({ frames := 0, cells := 0, slots := 0, locals := 0 } : Room) s m args below meth c H locs 0 0 (MQ below (va_Qv (fun (u : LnS) => Q u) (fun (u : LnS) t => va_P D vwCl (w_Line cs q u) t.heap ∧ va_D A (w_Line cs q u)) A) args s 0 0 A) (F0 m 57 ls []) := by
  obtain ⟨hx, hb, hr, hml, hown, hts, hlocks, hKK⟩ := id hC
  have hK := hKK.1
  intro n
  induction n with
  | zero =>
    intro L x1 hw
    exact False.elim hw
  | succ n ih =>
    intro L x1 hw H locs hP hD hS ls hl
    refine lv_iload_n hx hb dX1_clear_57 rfl (lv_at hl 1 rfl) ?_
    refine lv_bipush (v := (54 : Int32)) hx hb dX1_clear_58 (by decide) ?_
    refine lv_icmp_ge (tgt := 83) hx hb dX1_clear_60 (by decide) (fun c8 => ?_) (fun c8 => ?_)
    · have hw := hw.1 c8
      exact W.vret hx hb hr (fun t ht hW => ⟨⟨(L), rfl, hw, by rw [ht]; exact hP, hD⟩, hS.F ht⟩) hS.2.2 dX1_clear_83 hlocks
    · have hw := hw.2 c8
      refine lv_aload_n hx hb dX1_clear_63 rfl (lv_at hl 0 rfl) ?_
      refine va_get (D := D) (ci := 1) (v := .ref (q 4)) (C := RX1) (T := TX1) (N := 13) hx hb hts (h_X1_X1_clear) hown hK hP 0 rfl rfl 7 (by decide) (z_w hts 8 rfl) (fun _ h9 => h9) rfl dX1_clear_64 ?_
      refine lv_iload_n hx hb dX1_clear_67 rfl (lv_at hl 1 rfl) ?_
      refine lv_iconst (v := (0 : Int32)) hx hb dX1_clear_68 (by decide) ?_
      obtain ⟨h9, hw⟩ := hw
      refine va_iast hx hb hK hP hD hS 4 0 rfl rfl h9 dX1_clear_69 (fun H locs hP hD hS => ?_)
      have hP : va_P D vwCl (w_Line cs q (lsR L 4 (upd (L.1 4) x1.toNatClampNeg (0 : Int32)))) H := hP
      have hD : va_D A (w_Line cs q (lsR L 4 (upd (L.1 4) x1.toNatClampNeg (0 : Int32)))) := hD
      refine lv_aload_n hx hb dX1_clear_70 rfl (lv_at hl 0 rfl) ?_
      refine va_get (D := D) (ci := 1) (v := .ref (q 5)) (C := RX1) (T := TX1) (N := 13) hx hb hts (h_X1_X1_clear) hown hK hP 0 rfl rfl 8 (by decide) (z_w hts 9 rfl) (fun _ h9 => h9) rfl dX1_clear_71 ?_
      refine lv_iload_n hx hb dX1_clear_74 rfl (lv_at hl 1 rfl) ?_
      refine lv_iconst (v := (0 : Int32)) hx hb dX1_clear_75 (by decide) ?_
      obtain ⟨L10, eL10⟩ : ∃ z : LnS, z = (lsR L 4 (upd (L.1 4) x1.toNatClampNeg (0 : Int32))) := ⟨_, rfl⟩
      have hw := hw L10 eL10
      rw [← eL10] at hP hD
      obtain ⟨h11, hw⟩ := hw
      refine va_iast hx hb hK hP hD hS 5 0 rfl rfl h11 dX1_clear_76 (fun H locs hP hD hS => ?_)
      have hP : va_P D vwCl (w_Line cs q (lsR L10 5 (upd (L10.1 5) x1.toNatClampNeg (0 : Int32)))) H := hP
      have hD : va_D A (w_Line cs q (lsR L10 5 (upd (L10.1 5) x1.toNatClampNeg (0 : Int32)))) := hD
      refine lv_iinc (v := x1 + 1) (lv' := [(1, .int (x1 + 1)), (0, .ref (q 0))]) hx hb dX1_clear_77 hl (k := 1) rfl rfl (by decide) rfl (fun ls hl => ?_)
      refine lv_goto (tgt := 57) hx hb dX1_clear_80 (by decide) ?_
      exact ih _ _ hw _ _ hP hD hS ls (lv_sub hl [1, 0] rfl)
set_option maxHeartbeats 4000000 in
set_option maxRecDepth 100000 in
theorem t_X1_clear {p : Program} {l : Launch} {e : Env} {s : State} {m : MethodId} {args : Array Value} {below : List Frame} {meth : Method} {c : Code} {D : va_G} {cs : Nat → ClassId} {A : Nat → Prop} (hC : MAt p s m args meth c RX1 cX1_clear 2 none wsX1_clear D cs) (q : Nat → Nat) (L : LnS) (Q : LnS → Prop) (hA : ∀ q : Nat, s.heap.size ≤ q → A q) (hw : wp_X1_clear L Q) (H : Heap) (locs : List Loc) (hP : va_P D vwCl (w_Line cs q L) H) (hD : va_D A (w_Line cs q L)) (hS : va_S A s.heap H locs) (ls : Array Slot) (hl : lv_has ls 2 [(0, .ref (q 0))]) : W p l e ({ frames := 0, cells := 0, slots := 0, locals := 0 } : Room) s m args below meth c H locs 0 0 (MQ below (va_Qv (fun (u : LnS) => Q u) (fun (u : LnS) t => va_P D vwCl (w_Line cs q u) t.heap ∧ va_D A (w_Line cs q u)) A) args s 0 0 A) (F0 m 0 ls []) := by
  obtain ⟨hx, hb, hr, hml, hown, hts, hlocks, hKK⟩ := id hC
  have hK := hKK.1
  refine lv_aload_n hx hb dX1_clear_0 rfl (lv_at hl 0 rfl) ?_
  refine lv_iconst (v := (0 : Int32)) hx hb dX1_clear_1 (by decide) ?_
  refine va_put (D := D) (ci := 1) (v := .int (0 : Int32)) (ty := .int) (C := RX1) (T := TX1) (N := 13) hx hb hts (h_X1_X1_clear) tyX1 tyX1_ok nmX1 hown hK hP hD hS 0 rfl rfl 0 (by decide) (z_w hts 1 rfl) (fun _ h9 => h9) rfl (by decide +kernel) rfl rfl (Nat.le_of_ble_eq_true rfl) dX1_clear_2 (fun H locs hP hD hS => ?_)
  have hP : va_P D vwCl (w_Line cs q (lsS L 0 0 (0 : Int32))) H := hP
  have hD : va_D A (w_Line cs q (lsS L 0 0 (0 : Int32))) := hD
  refine lv_aload_n hx hb dX1_clear_5 rfl (lv_at hl 0 rfl) ?_
  refine lv_iconst (v := (1 : Int32)) hx hb dX1_clear_6 (by decide) ?_
  refine va_put (D := D) (ci := 1) (v := .int (1 : Int32)) (ty := .int) (C := RX1) (T := TX1) (N := 13) hx hb hts (h_X1_X1_clear) tyX1 tyX1_ok nmX1 hown hK hP hD hS 0 rfl rfl 1 (by decide) (z_w hts 2 rfl) (fun _ h9 => h9) rfl (by decide +kernel) rfl rfl (Nat.le_of_ble_eq_true rfl) dX1_clear_7 (fun H locs hP hD hS => ?_)
  have hP : va_P D vwCl (w_Line cs q (lsS (lsS L 0 0 (0 : Int32)) 0 1 (1 : Int32))) H := hP
  have hD : va_D A (w_Line cs q (lsS (lsS L 0 0 (0 : Int32)) 0 1 (1 : Int32))) := hD
  refine lv_aload_n hx hb dX1_clear_10 rfl (lv_at hl 0 rfl) ?_
  refine lv_iconst (v := (0 : Int32)) hx hb dX1_clear_11 (by decide) ?_
  refine va_put (D := D) (ci := 1) (v := .int (0 : Int32)) (ty := .int) (C := RX1) (T := TX1) (N := 13) hx hb hts (h_X1_X1_clear) tyX1 tyX1_ok nmX1 hown hK hP hD hS 0 rfl rfl 2 (by decide) (z_w hts 3 rfl) (fun _ h9 => h9) rfl (by decide +kernel) rfl rfl (Nat.le_of_ble_eq_true rfl) dX1_clear_12 (fun H locs hP hD hS => ?_)
  have hP : va_P D vwCl (w_Line cs q (lsS (lsS (lsS L 0 0 (0 : Int32)) 0 1 (1 : Int32)) 0 2 (0 : Int32))) H := hP
  have hD : va_D A (w_Line cs q (lsS (lsS (lsS L 0 0 (0 : Int32)) 0 1 (1 : Int32)) 0 2 (0 : Int32))) := hD
  refine lv_aload_n hx hb dX1_clear_15 rfl (lv_at hl 0 rfl) ?_
  refine lv_iconst (v := (0 : Int32)) hx hb dX1_clear_16 (by decide) ?_
  refine va_put (D := D) (ci := 1) (v := .int (0 : Int32)) (ty := .int) (C := RX1) (T := TX1) (N := 13) hx hb hts (h_X1_X1_clear) tyX1 tyX1_ok nmX1 hown hK hP hD hS 0 rfl rfl 3 (by decide) (z_w hts 4 rfl) (fun _ h9 => h9) rfl (by decide +kernel) rfl rfl (Nat.le_of_ble_eq_true rfl) dX1_clear_17 (fun H locs hP hD hS => ?_)
  have hP : va_P D vwCl (w_Line cs q (lsS (lsS (lsS (lsS L 0 0 (0 : Int32)) 0 1 (1 : Int32)) 0 2 (0 : Int32)) 0 3 (0 : Int32))) H := hP
  have hD : va_D A (w_Line cs q (lsS (lsS (lsS (lsS L 0 0 (0 : Int32)) 0 1 (1 : Int32)) 0 2 (0 : Int32)) 0 3 (0 : Int32))) := hD
  refine lv_iconst (v := (0 : Int32)) hx hb dX1_clear_20 (by decide) ?_
  refine lv_istore_n (lv' := [(1, .int (0 : Int32)), (0, .ref (q 0))]) hx hb dX1_clear_21 rfl hl (by decide) rfl (fun ls hl => ?_)
  obtain ⟨n13, hw⟩ := hw
  refine t_X1_clear_22 hC q _ _ hA ?_ n13 _ _ hw H locs hP hD hS ls (lv_sub hl [1, 0] rfl)
  · intro v7 hw H locs hP hD hS ls hl
    refine lv_iconst (v := (0 : Int32)) hx hb dX1_clear_55 (by decide) ?_
    refine lv_istore_n (lv' := [(1, .int (0 : Int32)), (0, .ref (q 0))]) hx hb dX1_clear_56 rfl hl (by decide) rfl (fun ls hl => ?_)
    obtain ⟨n12, hw⟩ := hw
    exact t_X1_clear_57 hC q _ hA n12 _ _ hw H locs hP hD hS ls (lv_sub hl [1, 0] rfl)
set_option maxHeartbeats 4000000 in
set_option maxRecDepth 100000 in
theorem c_X1_clear (l : Launch) (D : va_G) (cs : Nat → ClassId) (q : Nat → Nat) (sz : Nat) (L : LnS) (Q : LnS → Prop) (hw : wp_X1_clear L Q) : Met l yX1_clear wsX1_clear ({ frames := 0, cells := 0, slots := 0, locals := 0 } : Room) (va_Pc [.ref (q 0)] (PC D cs (w_Line cs q L) sz)) (va_Qv (fun (u : LnS) => Q u) (fun (u : LnS) t => va_P D vwCl (w_Line cs q u) t.heap ∧ va_D (va_A (w_Line cs q L) sz) (w_Line cs q u)) (va_A (w_Line cs q L) sz)) 0 0 (va_A (w_Line cs q L) sz) := by
  refine Met.ofW (cc := cX1_clear) (maxL := 2) (ret := none) (by decide) rfl ?_
  intro p e s m args below meth c s₁ B hml hv
  obtain ⟨rfl, hsz, hP, hKK, hD0⟩ := hv
  have hC : MAt p s m _ meth c RX1 cX1_clear 2 none wsX1_clear D cs := ⟨B.exec, B.bytes, B.returns, hml, findClass_of_methodNamed B.named, atoms_spec (ws := wsX1_clear) B.pre, B.notSynchronized, hKK⟩
  have hl := lv_entry ([.ref (q 0)]) (n := 2) (Nat.le_of_ble_eq_true rfl)
  rw [lg_entry_eq]
  generalize (lg_sl ([.ref (q 0)]) ++ List.replicate (2 - (lg_sl ([.ref (q 0)])).length) Slot.unset).toArray = ls at hl ⊢
  subst hsz
  have hD := hD0.self (sz := s.heap.size)
  have hA : ∀ z : Nat, s.heap.size ≤ z → va_A (w_Line cs q L) s.heap.size z := fun z h => Or.inr h
  exact t_X1_clear hC q L Q hA hw s.heap [] hP hD va_S.rf ls hl
theorem h_X1_X1_copyFrom : ∀ w ∈ u_ws RX1 TX1 13, w ∈ wsX1_copyFrom := fun _ h => List.mem_cons_of_mem _ (List.mem_append_right _ h)
set_option maxHeartbeats 4000000 in
set_option maxRecDepth 100000 in
theorem t_X1_copyFrom {p : Program} {l : Launch} {e : Env} {s : State} {m : MethodId} {args : Array Value} {below : List Frame} {meth : Method} {c : Code} {D : va_G} {cs : Nat → ClassId} {A : Nat → Prop} (hC : MAt p s m args meth c RX1 cX1_copyFrom 2 none wsX1_copyFrom D cs) (q : Nat → Nat) (r : Nat → Nat) (L : LnS) (K : LnS) (Q : LnS → Prop) (hA : ∀ q : Nat, s.heap.size ≤ q → A q) (hw : wp_X1_copyFrom L K Q) (H : Heap) (locs : List Loc) (hP : va_P D vwCl (w_Line cs q L ++ w_Line cs r K) H) (hD : va_D A (w_Line cs q L ++ w_Line cs r K)) (hS : va_S A s.heap H locs) (ls : Array Slot) (hl : lv_has ls 2 [(0, .ref (q 0)), (1, .ref (r 0))]) : W p l e ({ frames := 1, cells := 0, slots := 0, locals := 40 } : Room) s m args below meth c H locs 0 0 (MQ below (va_Qv (fun (u : LnS) => Q u) (fun (u : LnS) t => va_P D vwCl (w_Line cs q u ++ w_Line cs r K) t.heap ∧ va_D A (w_Line cs q u ++ w_Line cs r K)) A) args s 0 0 A) (F0 m 0 ls []) := by
  obtain ⟨hx, hb, hr, hml, hown, hts, hlocks, hKK⟩ := id hC
  have hK := hKK.1
  refine lv_aload_n hx hb dX1_copyFrom_0 rfl (lv_at hl 0 rfl) ?_
  refine lv_aload_n hx hb dX1_copyFrom_1 rfl (lv_at hl 1 rfl) ?_
  refine va_get (D := D) (ci := 1) (v := .int (K.1 0 0)) (C := RX1) (T := TX1) (N := 13) hx hb hts (h_X1_X1_copyFrom) hown hK hP 10 rfl rfl 0 (by decide) (z_w hts 1 rfl) (fun _ h9 => h9) rfl dX1_copyFrom_2 ?_
  refine va_put (D := D) (ci := 1) (v := .int (K.1 0 0)) (ty := .int) (C := RX1) (T := TX1) (N := 13) hx hb hts (h_X1_X1_copyFrom) tyX1 tyX1_ok nmX1 hown hK hP hD hS 0 rfl rfl 0 (by decide) (z_w hts 1 rfl) (fun _ h9 => h9) rfl (by decide +kernel) rfl rfl (Nat.le_of_ble_eq_true rfl) dX1_copyFrom_5 (fun H locs hP hD hS => ?_)
  have hP : va_P D vwCl (w_Line cs q (lsS L 0 0 (K.1 0 0)) ++ w_Line cs r K) H := hP
  have hD : va_D A (w_Line cs q (lsS L 0 0 (K.1 0 0)) ++ w_Line cs r K) := hD
  refine lv_aload_n hx hb dX1_copyFrom_8 rfl (lv_at hl 0 rfl) ?_
  refine lv_aload_n hx hb dX1_copyFrom_9 rfl (lv_at hl 1 rfl) ?_
  refine va_get (D := D) (ci := 1) (v := .int (K.1 0 1)) (C := RX1) (T := TX1) (N := 13) hx hb hts (h_X1_X1_copyFrom) hown hK hP 10 rfl rfl 1 (by decide) (z_w hts 2 rfl) (fun _ h9 => h9) rfl dX1_copyFrom_10 ?_
  refine va_put (D := D) (ci := 1) (v := .int (K.1 0 1)) (ty := .int) (C := RX1) (T := TX1) (N := 13) hx hb hts (h_X1_X1_copyFrom) tyX1 tyX1_ok nmX1 hown hK hP hD hS 0 rfl rfl 1 (by decide) (z_w hts 2 rfl) (fun _ h9 => h9) rfl (by decide +kernel) rfl rfl (Nat.le_of_ble_eq_true rfl) dX1_copyFrom_13 (fun H locs hP hD hS => ?_)
  have hP : va_P D vwCl (w_Line cs q (lsS (lsS L 0 0 (K.1 0 0)) 0 1 (K.1 0 1)) ++ w_Line cs r K) H := hP
  have hD : va_D A (w_Line cs q (lsS (lsS L 0 0 (K.1 0 0)) 0 1 (K.1 0 1)) ++ w_Line cs r K) := hD
  refine lv_aload_n hx hb dX1_copyFrom_16 rfl (lv_at hl 0 rfl) ?_
  refine lv_aload_n hx hb dX1_copyFrom_17 rfl (lv_at hl 1 rfl) ?_
  refine va_get (D := D) (ci := 1) (v := .int (K.1 0 2)) (C := RX1) (T := TX1) (N := 13) hx hb hts (h_X1_X1_copyFrom) hown hK hP 10 rfl rfl 2 (by decide) (z_w hts 3 rfl) (fun _ h9 => h9) rfl dX1_copyFrom_18 ?_
  refine va_put (D := D) (ci := 1) (v := .int (K.1 0 2)) (ty := .int) (C := RX1) (T := TX1) (N := 13) hx hb hts (h_X1_X1_copyFrom) tyX1 tyX1_ok nmX1 hown hK hP hD hS 0 rfl rfl 2 (by decide) (z_w hts 3 rfl) (fun _ h9 => h9) rfl (by decide +kernel) rfl rfl (Nat.le_of_ble_eq_true rfl) dX1_copyFrom_21 (fun H locs hP hD hS => ?_)
  have hP : va_P D vwCl (w_Line cs q (lsS (lsS (lsS L 0 0 (K.1 0 0)) 0 1 (K.1 0 1)) 0 2 (K.1 0 2)) ++ w_Line cs r K) H := hP
  have hD : va_D A (w_Line cs q (lsS (lsS (lsS L 0 0 (K.1 0 0)) 0 1 (K.1 0 1)) 0 2 (K.1 0 2)) ++ w_Line cs r K) := hD
  refine lv_aload_n hx hb dX1_copyFrom_24 rfl (lv_at hl 0 rfl) ?_
  refine lv_aload_n hx hb dX1_copyFrom_25 rfl (lv_at hl 1 rfl) ?_
  refine va_get (D := D) (ci := 1) (v := .int (K.1 0 3)) (C := RX1) (T := TX1) (N := 13) hx hb hts (h_X1_X1_copyFrom) hown hK hP 10 rfl rfl 3 (by decide) (z_w hts 4 rfl) (fun _ h9 => h9) rfl dX1_copyFrom_26 ?_
  refine va_put (D := D) (ci := 1) (v := .int (K.1 0 3)) (ty := .int) (C := RX1) (T := TX1) (N := 13) hx hb hts (h_X1_X1_copyFrom) tyX1 tyX1_ok nmX1 hown hK hP hD hS 0 rfl rfl 3 (by decide) (z_w hts 4 rfl) (fun _ h9 => h9) rfl (by decide +kernel) rfl rfl (Nat.le_of_ble_eq_true rfl) dX1_copyFrom_29 (fun H locs hP hD hS => ?_)
  have hP : va_P D vwCl (w_Line cs q (lsS (lsS (lsS (lsS L 0 0 (K.1 0 0)) 0 1 (K.1 0 1)) 0 2 (K.1 0 2)) 0 3 (K.1 0 3)) ++ w_Line cs r K) H := hP
  have hD : va_D A (w_Line cs q (lsS (lsS (lsS (lsS L 0 0 (K.1 0 0)) 0 1 (K.1 0 1)) 0 2 (K.1 0 2)) 0 3 (K.1 0 3)) ++ w_Line cs r K) := hD
  refine lv_aload_n hx hb dX1_copyFrom_32 rfl (lv_at hl 1 rfl) ?_
  refine va_get (D := D) (ci := 1) (v := .ref (r 1)) (C := RX1) (T := TX1) (N := 13) hx hb hts (h_X1_X1_copyFrom) hown hK hP 10 rfl rfl 4 (by decide) (z_w hts 5 rfl) (fun _ h9 => h9) rfl dX1_copyFrom_33 ?_
  refine lv_iconst (v := (0 : Int32)) hx hb dX1_copyFrom_36 (by decide) ?_
  refine lv_aload_n hx hb dX1_copyFrom_37 rfl (lv_at hl 0 rfl) ?_
  refine va_get (D := D) (ci := 1) (v := .ref (q 1)) (C := RX1) (T := TX1) (N := 13) hx hb hts (h_X1_X1_copyFrom) hown hK hP 0 rfl rfl 4 (by decide) (z_w hts 5 rfl) (fun _ h9 => h9) rfl dX1_copyFrom_38 ?_
  refine lv_iconst (v := (0 : Int32)) hx hb dX1_copyFrom_41 (by decide) ?_
  refine lv_bipush (v := (6 : Int32)) hx hb dX1_copyFrom_42 (by decide) ?_
  refine va_copyi hx hb (hml.trans hl.1.symm) hown (z_w hts 6 rfl) (z_w hts 7 rfl) (z_w hts 8 rfl) (z_w hts 9 rfl) hK hP hD hS 11 1 0 0 rfl rfl rfl rfl rfl (by decide) (by decide) (by decide) (by decide) (by decide) (fun _ _ => rfl) (Nat.le_of_ble_eq_true rfl) (by decide) dX1_copyFrom_44 (fun H locs hP hD hS => ?_)
  have hP : va_P D vwCl (w_Line cs q (lsR (lsS (lsS (lsS (lsS L 0 0 (K.1 0 0)) 0 1 (K.1 0 1)) 0 2 (K.1 0 2)) 0 3 (K.1 0 3)) 1 (va_cpy (K.1 1) (L.1 1) (0 : Int32).toNatClampNeg (0 : Int32).toNatClampNeg (6 : Int32).toNatClampNeg)) ++ w_Line cs r K) H := hP
  have hD : va_D A (w_Line cs q (lsR (lsS (lsS (lsS (lsS L 0 0 (K.1 0 0)) 0 1 (K.1 0 1)) 0 2 (K.1 0 2)) 0 3 (K.1 0 3)) 1 (va_cpy (K.1 1) (L.1 1) (0 : Int32).toNatClampNeg (0 : Int32).toNatClampNeg (6 : Int32).toNatClampNeg)) ++ w_Line cs r K) := hD
  refine lv_aload_n hx hb dX1_copyFrom_47 rfl (lv_at hl 1 rfl) ?_
  refine va_get (D := D) (ci := 1) (v := .ref (r 2)) (C := RX1) (T := TX1) (N := 13) hx hb hts (h_X1_X1_copyFrom) hown hK hP 10 rfl rfl 5 (by decide) (z_w hts 10 rfl) (fun _ h9 => h9) rfl dX1_copyFrom_48 ?_
  refine lv_iconst (v := (0 : Int32)) hx hb dX1_copyFrom_51 (by decide) ?_
  refine lv_aload_n hx hb dX1_copyFrom_52 rfl (lv_at hl 0 rfl) ?_
  refine va_get (D := D) (ci := 1) (v := .ref (q 2)) (C := RX1) (T := TX1) (N := 13) hx hb hts (h_X1_X1_copyFrom) hown hK hP 0 rfl rfl 5 (by decide) (z_w hts 10 rfl) (fun _ h9 => h9) rfl dX1_copyFrom_53 ?_
  refine lv_iconst (v := (0 : Int32)) hx hb dX1_copyFrom_56 (by decide) ?_
  refine lv_bipush (v := (6 : Int32)) hx hb dX1_copyFrom_57 (by decide) ?_
  obtain ⟨h1, hw⟩ := hw
  refine va_copyi hx hb (hml.trans hl.1.symm) hown (z_w hts 6 rfl) (z_w hts 7 rfl) (z_w hts 8 rfl) (z_w hts 9 rfl) hK hP hD hS 12 2 1 1 rfl rfl rfl rfl rfl (by decide) (by decide) (by decide) (by decide) (by decide) (fun i hi => by rw [show (0 : Int32).toNatClampNeg + i = i from Nat.zero_add i]; rcases h1 i hi with h | h <;> rw [h] <;> rfl) (Nat.le_of_ble_eq_true rfl) (by decide) dX1_copyFrom_59 (fun H locs hP hD hS => ?_)
  have hP : va_P D vwCl (w_Line cs q (lsR (lsR (lsS (lsS (lsS (lsS L 0 0 (K.1 0 0)) 0 1 (K.1 0 1)) 0 2 (K.1 0 2)) 0 3 (K.1 0 3)) 1 (va_cpy (K.1 1) (L.1 1) (0 : Int32).toNatClampNeg (0 : Int32).toNatClampNeg (6 : Int32).toNatClampNeg)) 2 (va_cpy (K.1 2) (L.1 2) (0 : Int32).toNatClampNeg (0 : Int32).toNatClampNeg (6 : Int32).toNatClampNeg)) ++ w_Line cs r K) H := hP
  have hD : va_D A (w_Line cs q (lsR (lsR (lsS (lsS (lsS (lsS L 0 0 (K.1 0 0)) 0 1 (K.1 0 1)) 0 2 (K.1 0 2)) 0 3 (K.1 0 3)) 1 (va_cpy (K.1 1) (L.1 1) (0 : Int32).toNatClampNeg (0 : Int32).toNatClampNeg (6 : Int32).toNatClampNeg)) 2 (va_cpy (K.1 2) (L.1 2) (0 : Int32).toNatClampNeg (0 : Int32).toNatClampNeg (6 : Int32).toNatClampNeg)) ++ w_Line cs r K) := hD
  refine lv_aload_n hx hb dX1_copyFrom_62 rfl (lv_at hl 1 rfl) ?_
  refine va_get (D := D) (ci := 1) (v := .ref (r 3)) (C := RX1) (T := TX1) (N := 13) hx hb hts (h_X1_X1_copyFrom) hown hK hP 10 rfl rfl 6 (by decide) (z_w hts 11 rfl) (fun _ h9 => h9) rfl dX1_copyFrom_63 ?_
  refine lv_iconst (v := (0 : Int32)) hx hb dX1_copyFrom_66 (by decide) ?_
  refine lv_aload_n hx hb dX1_copyFrom_67 rfl (lv_at hl 0 rfl) ?_
  refine va_get (D := D) (ci := 1) (v := .ref (q 3)) (C := RX1) (T := TX1) (N := 13) hx hb hts (h_X1_X1_copyFrom) hown hK hP 0 rfl rfl 6 (by decide) (z_w hts 11 rfl) (fun _ h9 => h9) rfl dX1_copyFrom_68 ?_
  refine lv_iconst (v := (0 : Int32)) hx hb dX1_copyFrom_71 (by decide) ?_
  refine lv_bipush (v := (6 : Int32)) hx hb dX1_copyFrom_72 (by decide) ?_
  refine va_copyi hx hb (hml.trans hl.1.symm) hown (z_w hts 6 rfl) (z_w hts 7 rfl) (z_w hts 8 rfl) (z_w hts 9 rfl) hK hP hD hS 13 3 0 0 rfl rfl rfl rfl rfl (by decide) (by decide) (by decide) (by decide) (by decide) (fun _ _ => rfl) (Nat.le_of_ble_eq_true rfl) (by decide) dX1_copyFrom_74 (fun H locs hP hD hS => ?_)
  have hP : va_P D vwCl (w_Line cs q (lsR (lsR (lsR (lsS (lsS (lsS (lsS L 0 0 (K.1 0 0)) 0 1 (K.1 0 1)) 0 2 (K.1 0 2)) 0 3 (K.1 0 3)) 1 (va_cpy (K.1 1) (L.1 1) (0 : Int32).toNatClampNeg (0 : Int32).toNatClampNeg (6 : Int32).toNatClampNeg)) 2 (va_cpy (K.1 2) (L.1 2) (0 : Int32).toNatClampNeg (0 : Int32).toNatClampNeg (6 : Int32).toNatClampNeg)) 3 (va_cpy (K.1 3) (L.1 3) (0 : Int32).toNatClampNeg (0 : Int32).toNatClampNeg (6 : Int32).toNatClampNeg)) ++ w_Line cs r K) H := hP
  have hD : va_D A (w_Line cs q (lsR (lsR (lsR (lsS (lsS (lsS (lsS L 0 0 (K.1 0 0)) 0 1 (K.1 0 1)) 0 2 (K.1 0 2)) 0 3 (K.1 0 3)) 1 (va_cpy (K.1 1) (L.1 1) (0 : Int32).toNatClampNeg (0 : Int32).toNatClampNeg (6 : Int32).toNatClampNeg)) 2 (va_cpy (K.1 2) (L.1 2) (0 : Int32).toNatClampNeg (0 : Int32).toNatClampNeg (6 : Int32).toNatClampNeg)) 3 (va_cpy (K.1 3) (L.1 3) (0 : Int32).toNatClampNeg (0 : Int32).toNatClampNeg (6 : Int32).toNatClampNeg)) ++ w_Line cs r K) := hD
  refine lv_aload_n hx hb dX1_copyFrom_77 rfl (lv_at hl 1 rfl) ?_
  refine va_get (D := D) (ci := 1) (v := .ref (r 4)) (C := RX1) (T := TX1) (N := 13) hx hb hts (h_X1_X1_copyFrom) hown hK hP 10 rfl rfl 7 (by decide) (z_w hts 12 rfl) (fun _ h9 => h9) rfl dX1_copyFrom_78 ?_
  refine lv_iconst (v := (0 : Int32)) hx hb dX1_copyFrom_81 (by decide) ?_
  refine lv_aload_n hx hb dX1_copyFrom_82 rfl (lv_at hl 0 rfl) ?_
  refine va_get (D := D) (ci := 1) (v := .ref (q 4)) (C := RX1) (T := TX1) (N := 13) hx hb hts (h_X1_X1_copyFrom) hown hK hP 0 rfl rfl 7 (by decide) (z_w hts 12 rfl) (fun _ h9 => h9) rfl dX1_copyFrom_83 ?_
  refine lv_iconst (v := (0 : Int32)) hx hb dX1_copyFrom_86 (by decide) ?_
  refine lv_bipush (v := (54 : Int32)) hx hb dX1_copyFrom_87 (by decide) ?_
  refine va_copyi hx hb (hml.trans hl.1.symm) hown (z_w hts 6 rfl) (z_w hts 7 rfl) (z_w hts 8 rfl) (z_w hts 9 rfl) hK hP hD hS 14 4 0 0 rfl rfl rfl rfl rfl (by decide) (by decide) (by decide) (by decide) (by decide) (fun _ _ => rfl) (Nat.le_of_ble_eq_true rfl) (by decide) dX1_copyFrom_89 (fun H locs hP hD hS => ?_)
  have hP : va_P D vwCl (w_Line cs q (lsR (lsR (lsR (lsR (lsS (lsS (lsS (lsS L 0 0 (K.1 0 0)) 0 1 (K.1 0 1)) 0 2 (K.1 0 2)) 0 3 (K.1 0 3)) 1 (va_cpy (K.1 1) (L.1 1) (0 : Int32).toNatClampNeg (0 : Int32).toNatClampNeg (6 : Int32).toNatClampNeg)) 2 (va_cpy (K.1 2) (L.1 2) (0 : Int32).toNatClampNeg (0 : Int32).toNatClampNeg (6 : Int32).toNatClampNeg)) 3 (va_cpy (K.1 3) (L.1 3) (0 : Int32).toNatClampNeg (0 : Int32).toNatClampNeg (6 : Int32).toNatClampNeg)) 4 (va_cpy (K.1 4) (L.1 4) (0 : Int32).toNatClampNeg (0 : Int32).toNatClampNeg (54 : Int32).toNatClampNeg)) ++ w_Line cs r K) H := hP
  have hD : va_D A (w_Line cs q (lsR (lsR (lsR (lsR (lsS (lsS (lsS (lsS L 0 0 (K.1 0 0)) 0 1 (K.1 0 1)) 0 2 (K.1 0 2)) 0 3 (K.1 0 3)) 1 (va_cpy (K.1 1) (L.1 1) (0 : Int32).toNatClampNeg (0 : Int32).toNatClampNeg (6 : Int32).toNatClampNeg)) 2 (va_cpy (K.1 2) (L.1 2) (0 : Int32).toNatClampNeg (0 : Int32).toNatClampNeg (6 : Int32).toNatClampNeg)) 3 (va_cpy (K.1 3) (L.1 3) (0 : Int32).toNatClampNeg (0 : Int32).toNatClampNeg (6 : Int32).toNatClampNeg)) 4 (va_cpy (K.1 4) (L.1 4) (0 : Int32).toNatClampNeg (0 : Int32).toNatClampNeg (54 : Int32).toNatClampNeg)) ++ w_Line cs r K) := hD
  refine lv_aload_n hx hb dX1_copyFrom_92 rfl (lv_at hl 1 rfl) ?_
  refine va_get (D := D) (ci := 1) (v := .ref (r 5)) (C := RX1) (T := TX1) (N := 13) hx hb hts (h_X1_X1_copyFrom) hown hK hP 10 rfl rfl 8 (by decide) (z_w hts 13 rfl) (fun _ h9 => h9) rfl dX1_copyFrom_93 ?_
  refine lv_iconst (v := (0 : Int32)) hx hb dX1_copyFrom_96 (by decide) ?_
  refine lv_aload_n hx hb dX1_copyFrom_97 rfl (lv_at hl 0 rfl) ?_
  refine va_get (D := D) (ci := 1) (v := .ref (q 5)) (C := RX1) (T := TX1) (N := 13) hx hb hts (h_X1_X1_copyFrom) hown hK hP 0 rfl rfl 8 (by decide) (z_w hts 13 rfl) (fun _ h9 => h9) rfl dX1_copyFrom_98 ?_
  refine lv_iconst (v := (0 : Int32)) hx hb dX1_copyFrom_101 (by decide) ?_
  refine lv_bipush (v := (54 : Int32)) hx hb dX1_copyFrom_102 (by decide) ?_
  refine va_copyi hx hb (hml.trans hl.1.symm) hown (z_w hts 6 rfl) (z_w hts 7 rfl) (z_w hts 8 rfl) (z_w hts 9 rfl) hK hP hD hS 15 5 0 0 rfl rfl rfl rfl rfl (by decide) (by decide) (by decide) (by decide) (by decide) (fun _ _ => rfl) (Nat.le_of_ble_eq_true rfl) (by decide) dX1_copyFrom_104 (fun H locs hP hD hS => ?_)
  have hP : va_P D vwCl (w_Line cs q (lsR (lsR (lsR (lsR (lsR (lsS (lsS (lsS (lsS L 0 0 (K.1 0 0)) 0 1 (K.1 0 1)) 0 2 (K.1 0 2)) 0 3 (K.1 0 3)) 1 (va_cpy (K.1 1) (L.1 1) (0 : Int32).toNatClampNeg (0 : Int32).toNatClampNeg (6 : Int32).toNatClampNeg)) 2 (va_cpy (K.1 2) (L.1 2) (0 : Int32).toNatClampNeg (0 : Int32).toNatClampNeg (6 : Int32).toNatClampNeg)) 3 (va_cpy (K.1 3) (L.1 3) (0 : Int32).toNatClampNeg (0 : Int32).toNatClampNeg (6 : Int32).toNatClampNeg)) 4 (va_cpy (K.1 4) (L.1 4) (0 : Int32).toNatClampNeg (0 : Int32).toNatClampNeg (54 : Int32).toNatClampNeg)) 5 (va_cpy (K.1 5) (L.1 5) (0 : Int32).toNatClampNeg (0 : Int32).toNatClampNeg (54 : Int32).toNatClampNeg)) ++ w_Line cs r K) H := hP
  have hD : va_D A (w_Line cs q (lsR (lsR (lsR (lsR (lsR (lsS (lsS (lsS (lsS L 0 0 (K.1 0 0)) 0 1 (K.1 0 1)) 0 2 (K.1 0 2)) 0 3 (K.1 0 3)) 1 (va_cpy (K.1 1) (L.1 1) (0 : Int32).toNatClampNeg (0 : Int32).toNatClampNeg (6 : Int32).toNatClampNeg)) 2 (va_cpy (K.1 2) (L.1 2) (0 : Int32).toNatClampNeg (0 : Int32).toNatClampNeg (6 : Int32).toNatClampNeg)) 3 (va_cpy (K.1 3) (L.1 3) (0 : Int32).toNatClampNeg (0 : Int32).toNatClampNeg (6 : Int32).toNatClampNeg)) 4 (va_cpy (K.1 4) (L.1 4) (0 : Int32).toNatClampNeg (0 : Int32).toNatClampNeg (54 : Int32).toNatClampNeg)) 5 (va_cpy (K.1 5) (L.1 5) (0 : Int32).toNatClampNeg (0 : Int32).toNatClampNeg (54 : Int32).toNatClampNeg)) ++ w_Line cs r K) := hD
  refine lv_aload_n hx hb dX1_copyFrom_107 rfl (lv_at hl 1 rfl) ?_
  refine va_get (D := D) (ci := 1) (v := .ref (r 6)) (C := RX1) (T := TX1) (N := 13) hx hb hts (h_X1_X1_copyFrom) hown hK hP 10 rfl rfl 9 (by decide) (z_w hts 14 rfl) (fun _ h9 => h9) rfl dX1_copyFrom_108 ?_
  refine lv_iconst (v := (0 : Int32)) hx hb dX1_copyFrom_111 (by decide) ?_
  refine lv_aload_n hx hb dX1_copyFrom_112 rfl (lv_at hl 0 rfl) ?_
  refine va_get (D := D) (ci := 1) (v := .ref (q 6)) (C := RX1) (T := TX1) (N := 13) hx hb hts (h_X1_X1_copyFrom) hown hK hP 0 rfl rfl 9 (by decide) (z_w hts 14 rfl) (fun _ h9 => h9) rfl dX1_copyFrom_113 ?_
  refine lv_iconst (v := (0 : Int32)) hx hb dX1_copyFrom_116 (by decide) ?_
  refine lv_aload_n hx hb dX1_copyFrom_117 rfl (lv_at hl 0 rfl) ?_
  refine va_get (D := D) (ci := 1) (v := .int (K.1 0 3)) (C := RX1) (T := TX1) (N := 13) hx hb hts (h_X1_X1_copyFrom) hown hK hP 0 rfl rfl 3 (by decide) (z_w hts 4 rfl) (fun _ h9 => h9) rfl dX1_copyFrom_118 ?_
  obtain ⟨h2, h2a, hw⟩ := hw
  refine va_copyi hx hb (hml.trans hl.1.symm) hown (z_w hts 6 rfl) (z_w hts 7 rfl) (z_w hts 8 rfl) (z_w hts 9 rfl) hK hP hD hS 16 6 0 0 rfl rfl rfl rfl rfl (by decide) (by decide) h2 (Nat.le_trans (Nat.le_of_eq (Nat.zero_add _)) h2a) (Nat.le_trans (Nat.le_of_eq (Nat.zero_add _)) h2a) (fun _ _ => rfl) (Nat.le_of_ble_eq_true rfl) (by decide) dX1_copyFrom_121 (fun H locs hP hD hS => ?_)
  have hP : va_P D vwCl (w_Line cs q (lsR (lsR (lsR (lsR (lsR (lsR (lsS (lsS (lsS (lsS L 0 0 (K.1 0 0)) 0 1 (K.1 0 1)) 0 2 (K.1 0 2)) 0 3 (K.1 0 3)) 1 (va_cpy (K.1 1) (L.1 1) (0 : Int32).toNatClampNeg (0 : Int32).toNatClampNeg (6 : Int32).toNatClampNeg)) 2 (va_cpy (K.1 2) (L.1 2) (0 : Int32).toNatClampNeg (0 : Int32).toNatClampNeg (6 : Int32).toNatClampNeg)) 3 (va_cpy (K.1 3) (L.1 3) (0 : Int32).toNatClampNeg (0 : Int32).toNatClampNeg (6 : Int32).toNatClampNeg)) 4 (va_cpy (K.1 4) (L.1 4) (0 : Int32).toNatClampNeg (0 : Int32).toNatClampNeg (54 : Int32).toNatClampNeg)) 5 (va_cpy (K.1 5) (L.1 5) (0 : Int32).toNatClampNeg (0 : Int32).toNatClampNeg (54 : Int32).toNatClampNeg)) 6 (va_cpy (K.1 6) (L.1 6) (0 : Int32).toNatClampNeg (0 : Int32).toNatClampNeg (K.1 0 3).toNatClampNeg)) ++ w_Line cs r K) H := hP
  have hD : va_D A (w_Line cs q (lsR (lsR (lsR (lsR (lsR (lsR (lsS (lsS (lsS (lsS L 0 0 (K.1 0 0)) 0 1 (K.1 0 1)) 0 2 (K.1 0 2)) 0 3 (K.1 0 3)) 1 (va_cpy (K.1 1) (L.1 1) (0 : Int32).toNatClampNeg (0 : Int32).toNatClampNeg (6 : Int32).toNatClampNeg)) 2 (va_cpy (K.1 2) (L.1 2) (0 : Int32).toNatClampNeg (0 : Int32).toNatClampNeg (6 : Int32).toNatClampNeg)) 3 (va_cpy (K.1 3) (L.1 3) (0 : Int32).toNatClampNeg (0 : Int32).toNatClampNeg (6 : Int32).toNatClampNeg)) 4 (va_cpy (K.1 4) (L.1 4) (0 : Int32).toNatClampNeg (0 : Int32).toNatClampNeg (54 : Int32).toNatClampNeg)) 5 (va_cpy (K.1 5) (L.1 5) (0 : Int32).toNatClampNeg (0 : Int32).toNatClampNeg (54 : Int32).toNatClampNeg)) 6 (va_cpy (K.1 6) (L.1 6) (0 : Int32).toNatClampNeg (0 : Int32).toNatClampNeg (K.1 0 3).toNatClampNeg)) ++ w_Line cs r K) := hD
  refine lv_aload_n hx hb dX1_copyFrom_124 rfl (lv_at hl 1 rfl) ?_
  refine va_get (D := D) (ci := 1) (v := .ref (r 7)) (C := RX1) (T := TX1) (N := 13) hx hb hts (h_X1_X1_copyFrom) hown hK hP 10 rfl rfl 10 (by decide) (z_w hts 15 rfl) (fun _ h9 => h9) rfl dX1_copyFrom_125 ?_
  refine lv_iconst (v := (0 : Int32)) hx hb dX1_copyFrom_128 (by decide) ?_
  refine lv_aload_n hx hb dX1_copyFrom_129 rfl (lv_at hl 0 rfl) ?_
  refine va_get (D := D) (ci := 1) (v := .ref (q 7)) (C := RX1) (T := TX1) (N := 13) hx hb hts (h_X1_X1_copyFrom) hown hK hP 0 rfl rfl 10 (by decide) (z_w hts 15 rfl) (fun _ h9 => h9) rfl dX1_copyFrom_130 ?_
  refine lv_iconst (v := (0 : Int32)) hx hb dX1_copyFrom_133 (by decide) ?_
  refine lv_aload_n hx hb dX1_copyFrom_134 rfl (lv_at hl 0 rfl) ?_
  refine va_get (D := D) (ci := 1) (v := .int (K.1 0 3)) (C := RX1) (T := TX1) (N := 13) hx hb hts (h_X1_X1_copyFrom) hown hK hP 0 rfl rfl 3 (by decide) (z_w hts 4 rfl) (fun _ h9 => h9) rfl dX1_copyFrom_135 ?_
  obtain ⟨h3, h3a, hw⟩ := hw
  refine va_copyi hx hb (hml.trans hl.1.symm) hown (z_w hts 6 rfl) (z_w hts 7 rfl) (z_w hts 8 rfl) (z_w hts 9 rfl) hK hP hD hS 17 7 0 0 rfl rfl rfl rfl rfl (by decide) (by decide) h3 (Nat.le_trans (Nat.le_of_eq (Nat.zero_add _)) h3a) (Nat.le_trans (Nat.le_of_eq (Nat.zero_add _)) h3a) (fun _ _ => rfl) (Nat.le_of_ble_eq_true rfl) (by decide) dX1_copyFrom_138 (fun H locs hP hD hS => ?_)
  have hP : va_P D vwCl (w_Line cs q (lsR (lsR (lsR (lsR (lsR (lsR (lsR (lsS (lsS (lsS (lsS L 0 0 (K.1 0 0)) 0 1 (K.1 0 1)) 0 2 (K.1 0 2)) 0 3 (K.1 0 3)) 1 (va_cpy (K.1 1) (L.1 1) (0 : Int32).toNatClampNeg (0 : Int32).toNatClampNeg (6 : Int32).toNatClampNeg)) 2 (va_cpy (K.1 2) (L.1 2) (0 : Int32).toNatClampNeg (0 : Int32).toNatClampNeg (6 : Int32).toNatClampNeg)) 3 (va_cpy (K.1 3) (L.1 3) (0 : Int32).toNatClampNeg (0 : Int32).toNatClampNeg (6 : Int32).toNatClampNeg)) 4 (va_cpy (K.1 4) (L.1 4) (0 : Int32).toNatClampNeg (0 : Int32).toNatClampNeg (54 : Int32).toNatClampNeg)) 5 (va_cpy (K.1 5) (L.1 5) (0 : Int32).toNatClampNeg (0 : Int32).toNatClampNeg (54 : Int32).toNatClampNeg)) 6 (va_cpy (K.1 6) (L.1 6) (0 : Int32).toNatClampNeg (0 : Int32).toNatClampNeg (K.1 0 3).toNatClampNeg)) 7 (va_cpy (K.1 7) (L.1 7) (0 : Int32).toNatClampNeg (0 : Int32).toNatClampNeg (K.1 0 3).toNatClampNeg)) ++ w_Line cs r K) H := hP
  have hD : va_D A (w_Line cs q (lsR (lsR (lsR (lsR (lsR (lsR (lsR (lsS (lsS (lsS (lsS L 0 0 (K.1 0 0)) 0 1 (K.1 0 1)) 0 2 (K.1 0 2)) 0 3 (K.1 0 3)) 1 (va_cpy (K.1 1) (L.1 1) (0 : Int32).toNatClampNeg (0 : Int32).toNatClampNeg (6 : Int32).toNatClampNeg)) 2 (va_cpy (K.1 2) (L.1 2) (0 : Int32).toNatClampNeg (0 : Int32).toNatClampNeg (6 : Int32).toNatClampNeg)) 3 (va_cpy (K.1 3) (L.1 3) (0 : Int32).toNatClampNeg (0 : Int32).toNatClampNeg (6 : Int32).toNatClampNeg)) 4 (va_cpy (K.1 4) (L.1 4) (0 : Int32).toNatClampNeg (0 : Int32).toNatClampNeg (54 : Int32).toNatClampNeg)) 5 (va_cpy (K.1 5) (L.1 5) (0 : Int32).toNatClampNeg (0 : Int32).toNatClampNeg (54 : Int32).toNatClampNeg)) 6 (va_cpy (K.1 6) (L.1 6) (0 : Int32).toNatClampNeg (0 : Int32).toNatClampNeg (K.1 0 3).toNatClampNeg)) 7 (va_cpy (K.1 7) (L.1 7) (0 : Int32).toNatClampNeg (0 : Int32).toNatClampNeg (K.1 0 3).toNatClampNeg)) ++ w_Line cs r K) := hD
  refine lv_aload_n hx hb dX1_copyFrom_141 rfl (lv_at hl 1 rfl) ?_
  refine va_get (D := D) (ci := 1) (v := .ref (r 8)) (C := RX1) (T := TX1) (N := 13) hx hb hts (h_X1_X1_copyFrom) hown hK hP 10 rfl rfl 11 (by decide) (z_w hts 16 rfl) (fun _ h9 => h9) rfl dX1_copyFrom_142 ?_
  refine lv_iconst (v := (0 : Int32)) hx hb dX1_copyFrom_145 (by decide) ?_
  refine lv_aload_n hx hb dX1_copyFrom_146 rfl (lv_at hl 0 rfl) ?_
  refine va_get (D := D) (ci := 1) (v := .ref (q 8)) (C := RX1) (T := TX1) (N := 13) hx hb hts (h_X1_X1_copyFrom) hown hK hP 0 rfl rfl 11 (by decide) (z_w hts 16 rfl) (fun _ h9 => h9) rfl dX1_copyFrom_147 ?_
  refine lv_iconst (v := (0 : Int32)) hx hb dX1_copyFrom_150 (by decide) ?_
  refine lv_aload_n hx hb dX1_copyFrom_151 rfl (lv_at hl 0 rfl) ?_
  refine va_get (D := D) (ci := 1) (v := .int (K.1 0 3)) (C := RX1) (T := TX1) (N := 13) hx hb hts (h_X1_X1_copyFrom) hown hK hP 0 rfl rfl 3 (by decide) (z_w hts 4 rfl) (fun _ h9 => h9) rfl dX1_copyFrom_152 ?_
  obtain ⟨h4, h4a, hw⟩ := hw
  refine va_copyi hx hb (hml.trans hl.1.symm) hown (z_w hts 6 rfl) (z_w hts 7 rfl) (z_w hts 8 rfl) (z_w hts 9 rfl) hK hP hD hS 18 8 0 0 rfl rfl rfl rfl rfl (by decide) (by decide) h4 (Nat.le_trans (Nat.le_of_eq (Nat.zero_add _)) h4a) (Nat.le_trans (Nat.le_of_eq (Nat.zero_add _)) h4a) (fun _ _ => rfl) (Nat.le_of_ble_eq_true rfl) (by decide) dX1_copyFrom_155 (fun H locs hP hD hS => ?_)
  have hP : va_P D vwCl (w_Line cs q (lsR (lsR (lsR (lsR (lsR (lsR (lsR (lsR (lsS (lsS (lsS (lsS L 0 0 (K.1 0 0)) 0 1 (K.1 0 1)) 0 2 (K.1 0 2)) 0 3 (K.1 0 3)) 1 (va_cpy (K.1 1) (L.1 1) (0 : Int32).toNatClampNeg (0 : Int32).toNatClampNeg (6 : Int32).toNatClampNeg)) 2 (va_cpy (K.1 2) (L.1 2) (0 : Int32).toNatClampNeg (0 : Int32).toNatClampNeg (6 : Int32).toNatClampNeg)) 3 (va_cpy (K.1 3) (L.1 3) (0 : Int32).toNatClampNeg (0 : Int32).toNatClampNeg (6 : Int32).toNatClampNeg)) 4 (va_cpy (K.1 4) (L.1 4) (0 : Int32).toNatClampNeg (0 : Int32).toNatClampNeg (54 : Int32).toNatClampNeg)) 5 (va_cpy (K.1 5) (L.1 5) (0 : Int32).toNatClampNeg (0 : Int32).toNatClampNeg (54 : Int32).toNatClampNeg)) 6 (va_cpy (K.1 6) (L.1 6) (0 : Int32).toNatClampNeg (0 : Int32).toNatClampNeg (K.1 0 3).toNatClampNeg)) 7 (va_cpy (K.1 7) (L.1 7) (0 : Int32).toNatClampNeg (0 : Int32).toNatClampNeg (K.1 0 3).toNatClampNeg)) 8 (va_cpy (K.1 8) (L.1 8) (0 : Int32).toNatClampNeg (0 : Int32).toNatClampNeg (K.1 0 3).toNatClampNeg)) ++ w_Line cs r K) H := hP
  have hD : va_D A (w_Line cs q (lsR (lsR (lsR (lsR (lsR (lsR (lsR (lsR (lsS (lsS (lsS (lsS L 0 0 (K.1 0 0)) 0 1 (K.1 0 1)) 0 2 (K.1 0 2)) 0 3 (K.1 0 3)) 1 (va_cpy (K.1 1) (L.1 1) (0 : Int32).toNatClampNeg (0 : Int32).toNatClampNeg (6 : Int32).toNatClampNeg)) 2 (va_cpy (K.1 2) (L.1 2) (0 : Int32).toNatClampNeg (0 : Int32).toNatClampNeg (6 : Int32).toNatClampNeg)) 3 (va_cpy (K.1 3) (L.1 3) (0 : Int32).toNatClampNeg (0 : Int32).toNatClampNeg (6 : Int32).toNatClampNeg)) 4 (va_cpy (K.1 4) (L.1 4) (0 : Int32).toNatClampNeg (0 : Int32).toNatClampNeg (54 : Int32).toNatClampNeg)) 5 (va_cpy (K.1 5) (L.1 5) (0 : Int32).toNatClampNeg (0 : Int32).toNatClampNeg (54 : Int32).toNatClampNeg)) 6 (va_cpy (K.1 6) (L.1 6) (0 : Int32).toNatClampNeg (0 : Int32).toNatClampNeg (K.1 0 3).toNatClampNeg)) 7 (va_cpy (K.1 7) (L.1 7) (0 : Int32).toNatClampNeg (0 : Int32).toNatClampNeg (K.1 0 3).toNatClampNeg)) 8 (va_cpy (K.1 8) (L.1 8) (0 : Int32).toNatClampNeg (0 : Int32).toNatClampNeg (K.1 0 3).toNatClampNeg)) ++ w_Line cs r K) := hD
  refine lv_aload_n hx hb dX1_copyFrom_158 rfl (lv_at hl 1 rfl) ?_
  refine va_get (D := D) (ci := 1) (v := .ref (r 9)) (C := RX1) (T := TX1) (N := 13) hx hb hts (h_X1_X1_copyFrom) hown hK hP 10 rfl rfl 12 (by decide) (z_w hts 17 rfl) (fun _ h9 => h9) rfl dX1_copyFrom_159 ?_
  refine lv_iconst (v := (0 : Int32)) hx hb dX1_copyFrom_162 (by decide) ?_
  refine lv_aload_n hx hb dX1_copyFrom_163 rfl (lv_at hl 0 rfl) ?_
  refine va_get (D := D) (ci := 1) (v := .ref (q 9)) (C := RX1) (T := TX1) (N := 13) hx hb hts (h_X1_X1_copyFrom) hown hK hP 0 rfl rfl 12 (by decide) (z_w hts 17 rfl) (fun _ h9 => h9) rfl dX1_copyFrom_164 ?_
  refine lv_iconst (v := (0 : Int32)) hx hb dX1_copyFrom_167 (by decide) ?_
  refine lv_aload_n hx hb dX1_copyFrom_168 rfl (lv_at hl 0 rfl) ?_
  refine va_get (D := D) (ci := 1) (v := .int (K.1 0 3)) (C := RX1) (T := TX1) (N := 13) hx hb hts (h_X1_X1_copyFrom) hown hK hP 0 rfl rfl 3 (by decide) (z_w hts 4 rfl) (fun _ h9 => h9) rfl dX1_copyFrom_169 ?_
  obtain ⟨h5, h5a, hw⟩ := hw
  refine va_copyl hx hb (hml.trans hl.1.symm) hown (z_w hts 6 rfl) (z_w hts 7 rfl) (z_w hts 8 rfl) (z_w hts 9 rfl) hK hP hD hS 19 9 3 3 rfl rfl rfl rfl rfl (by decide) (by decide) h5 (Nat.le_trans (Nat.le_of_eq (Nat.zero_add _)) h5a) (Nat.le_trans (Nat.le_of_eq (Nat.zero_add _)) h5a) (fun _ _ => rfl) (Nat.le_of_ble_eq_true rfl) (by decide) dX1_copyFrom_172 (fun H locs hP hD hS => ?_)
  have hP : va_P D vwCl (w_Line cs q (lsX (lsR (lsR (lsR (lsR (lsR (lsR (lsR (lsR (lsS (lsS (lsS (lsS L 0 0 (K.1 0 0)) 0 1 (K.1 0 1)) 0 2 (K.1 0 2)) 0 3 (K.1 0 3)) 1 (va_cpy (K.1 1) (L.1 1) (0 : Int32).toNatClampNeg (0 : Int32).toNatClampNeg (6 : Int32).toNatClampNeg)) 2 (va_cpy (K.1 2) (L.1 2) (0 : Int32).toNatClampNeg (0 : Int32).toNatClampNeg (6 : Int32).toNatClampNeg)) 3 (va_cpy (K.1 3) (L.1 3) (0 : Int32).toNatClampNeg (0 : Int32).toNatClampNeg (6 : Int32).toNatClampNeg)) 4 (va_cpy (K.1 4) (L.1 4) (0 : Int32).toNatClampNeg (0 : Int32).toNatClampNeg (54 : Int32).toNatClampNeg)) 5 (va_cpy (K.1 5) (L.1 5) (0 : Int32).toNatClampNeg (0 : Int32).toNatClampNeg (54 : Int32).toNatClampNeg)) 6 (va_cpy (K.1 6) (L.1 6) (0 : Int32).toNatClampNeg (0 : Int32).toNatClampNeg (K.1 0 3).toNatClampNeg)) 7 (va_cpy (K.1 7) (L.1 7) (0 : Int32).toNatClampNeg (0 : Int32).toNatClampNeg (K.1 0 3).toNatClampNeg)) 8 (va_cpy (K.1 8) (L.1 8) (0 : Int32).toNatClampNeg (0 : Int32).toNatClampNeg (K.1 0 3).toNatClampNeg)) (va_cpy K.2 L.2 (0 : Int32).toNatClampNeg (0 : Int32).toNatClampNeg (K.1 0 3).toNatClampNeg)) ++ w_Line cs r K) H := hP
  have hD : va_D A (w_Line cs q (lsX (lsR (lsR (lsR (lsR (lsR (lsR (lsR (lsR (lsS (lsS (lsS (lsS L 0 0 (K.1 0 0)) 0 1 (K.1 0 1)) 0 2 (K.1 0 2)) 0 3 (K.1 0 3)) 1 (va_cpy (K.1 1) (L.1 1) (0 : Int32).toNatClampNeg (0 : Int32).toNatClampNeg (6 : Int32).toNatClampNeg)) 2 (va_cpy (K.1 2) (L.1 2) (0 : Int32).toNatClampNeg (0 : Int32).toNatClampNeg (6 : Int32).toNatClampNeg)) 3 (va_cpy (K.1 3) (L.1 3) (0 : Int32).toNatClampNeg (0 : Int32).toNatClampNeg (6 : Int32).toNatClampNeg)) 4 (va_cpy (K.1 4) (L.1 4) (0 : Int32).toNatClampNeg (0 : Int32).toNatClampNeg (54 : Int32).toNatClampNeg)) 5 (va_cpy (K.1 5) (L.1 5) (0 : Int32).toNatClampNeg (0 : Int32).toNatClampNeg (54 : Int32).toNatClampNeg)) 6 (va_cpy (K.1 6) (L.1 6) (0 : Int32).toNatClampNeg (0 : Int32).toNatClampNeg (K.1 0 3).toNatClampNeg)) 7 (va_cpy (K.1 7) (L.1 7) (0 : Int32).toNatClampNeg (0 : Int32).toNatClampNeg (K.1 0 3).toNatClampNeg)) 8 (va_cpy (K.1 8) (L.1 8) (0 : Int32).toNatClampNeg (0 : Int32).toNatClampNeg (K.1 0 3).toNatClampNeg)) (va_cpy K.2 L.2 (0 : Int32).toNatClampNeg (0 : Int32).toNatClampNeg (K.1 0 3).toNatClampNeg)) ++ w_Line cs r K) := hD
  exact W.vret hx hb hr (fun t ht hW => ⟨⟨(lsX (lsR (lsR (lsR (lsR (lsR (lsR (lsR (lsR (lsS (lsS (lsS (lsS L 0 0 (K.1 0 0)) 0 1 (K.1 0 1)) 0 2 (K.1 0 2)) 0 3 (K.1 0 3)) 1 (va_cpy (K.1 1) (L.1 1) (0 : Int32).toNatClampNeg (0 : Int32).toNatClampNeg (6 : Int32).toNatClampNeg)) 2 (va_cpy (K.1 2) (L.1 2) (0 : Int32).toNatClampNeg (0 : Int32).toNatClampNeg (6 : Int32).toNatClampNeg)) 3 (va_cpy (K.1 3) (L.1 3) (0 : Int32).toNatClampNeg (0 : Int32).toNatClampNeg (6 : Int32).toNatClampNeg)) 4 (va_cpy (K.1 4) (L.1 4) (0 : Int32).toNatClampNeg (0 : Int32).toNatClampNeg (54 : Int32).toNatClampNeg)) 5 (va_cpy (K.1 5) (L.1 5) (0 : Int32).toNatClampNeg (0 : Int32).toNatClampNeg (54 : Int32).toNatClampNeg)) 6 (va_cpy (K.1 6) (L.1 6) (0 : Int32).toNatClampNeg (0 : Int32).toNatClampNeg (K.1 0 3).toNatClampNeg)) 7 (va_cpy (K.1 7) (L.1 7) (0 : Int32).toNatClampNeg (0 : Int32).toNatClampNeg (K.1 0 3).toNatClampNeg)) 8 (va_cpy (K.1 8) (L.1 8) (0 : Int32).toNatClampNeg (0 : Int32).toNatClampNeg (K.1 0 3).toNatClampNeg)) (va_cpy K.2 L.2 (0 : Int32).toNatClampNeg (0 : Int32).toNatClampNeg (K.1 0 3).toNatClampNeg)), rfl, hw, by rw [ht]; exact hP, hD⟩, hS.F ht⟩) hS.2.2 dX1_copyFrom_175 hlocks
set_option maxHeartbeats 4000000 in
set_option maxRecDepth 100000 in
theorem c_X1_copyFrom (l : Launch) (D : va_G) (cs : Nat → ClassId) (q : Nat → Nat) (r : Nat → Nat) (sz : Nat) (L : LnS) (K : LnS) (Q : LnS → Prop) (hw : wp_X1_copyFrom L K Q) : Met l yX1_copyFrom wsX1_copyFrom ({ frames := 1, cells := 0, slots := 0, locals := 40 } : Room) (va_Pc [.ref (q 0), .ref (r 0)] (PC D cs (w_Line cs q L ++ w_Line cs r K) sz)) (va_Qv (fun (u : LnS) => Q u) (fun (u : LnS) t => va_P D vwCl (w_Line cs q u ++ w_Line cs r K) t.heap ∧ va_D (va_A (w_Line cs q L ++ w_Line cs r K) sz) (w_Line cs q u ++ w_Line cs r K)) (va_A (w_Line cs q L ++ w_Line cs r K) sz)) 0 0 (va_A (w_Line cs q L ++ w_Line cs r K) sz) := by
  refine Met.ofW (cc := cX1_copyFrom) (maxL := 2) (ret := none) (by decide) rfl ?_
  intro p e s m args below meth c s₁ B hml hv
  obtain ⟨rfl, hsz, hP, hKK, hD0⟩ := hv
  have hC : MAt p s m _ meth c RX1 cX1_copyFrom 2 none wsX1_copyFrom D cs := ⟨B.exec, B.bytes, B.returns, hml, findClass_of_methodNamed B.named, atoms_spec (ws := wsX1_copyFrom) B.pre, B.notSynchronized, hKK⟩
  have hl := lv_entry ([.ref (q 0), .ref (r 0)]) (n := 2) (Nat.le_of_ble_eq_true rfl)
  rw [lg_entry_eq]
  generalize (lg_sl ([.ref (q 0), .ref (r 0)]) ++ List.replicate (2 - (lg_sl ([.ref (q 0), .ref (r 0)])).length) Slot.unset).toArray = ls at hl ⊢
  subst hsz
  have hD := hD0.self (sz := s.heap.size)
  have hA : ∀ z : Nat, s.heap.size ≤ z → va_A (w_Line cs q L ++ w_Line cs r K) s.heap.size z := fun z h => Or.inr h
  exact t_X1_copyFrom hC q r L K Q hA hw s.heap [] hP hD va_S.rf ls hl
theorem h_X1_X1_putDigits : ∀ w ∈ u_ws RX1 TX1 13, w ∈ wsX1_putDigits := fun _ h => List.mem_cons_of_mem _ (List.mem_append_right _ h)
set_option maxHeartbeats 4000000 in
set_option maxRecDepth 100000 in
theorem t_X1_putDigits_22 {p : Program} {l : Launch} {e : Env} {s : State} {m : MethodId} {args : Array Value} {below : List Frame} {meth : Method} {c : Code} {D : va_G} {cs : Nat → ClassId} {A : Nat → Prop} (hC : MAt p s m args meth c RX1 cX1_putDigits 8 (some .int) wsX1_putDigits D cs) (q : Nat → Nat) (x1 : Int32) (x3 : Int32) (Q : Int32 → LnS → Prop) (hA : ∀ q : Nat, s.heap.size ≤ q → A q) : ∀ (n : Nat) (L : LnS) (x4 : Int32) (x5 : Int32) (x6 : Int32), wl_X1_putDigits_22 x1 x3 Q n L x4 x5 x6 → ∀ (H : Heap) (locs : List Loc), va_P D vwCl (w_Line cs q L) H → va_D A (w_Line cs q L) → va_S A s.heap H locs → ∀ ls : Array Slot, lv_has ls 8 [(0, .ref (q 0)), (1, .int x1), (3, .int x3), (4, .int x4), (5, .int x5), (6, .int x6)] → W p l e ({ frames := 1, cells := 0, slots := 0, locals := 21 } : Room) s m args below meth c H locs 0 0 (MQ below (va_Qi (fun r (u : LnS) => Q r u) (fun (u : LnS) t => va_P D vwCl (w_Line cs q u) t.heap ∧ va_D A (w_Line cs q u)) A) args s 0 0 A) (F0 m 22 ls []) := by
  obtain ⟨hx, hb, hr, hml, hown, hts, hlocks, hKK⟩ := id hC
  have hK := hKK.1
  intro n
  induction n with
  | zero =>
    intro L x4 x5 x6 hw
    exact False.elim hw
  | succ n ih =>
    intro L x4 x5 x6 hw H locs hP hD hS ls hl
    refine lv_iload hx hb dX1_putDigits_22 (lv_at hl 5 rfl) ?_
    refine lv_aload_n hx hb dX1_putDigits_24 rfl (lv_at hl 0 rfl) ?_
    refine va_get (D := D) (ci := 1) (v := .ref (q 1)) (C := RX1) (T := TX1) (N := 13) hx hb hts (h_X1_X1_putDigits) hown hK hP 0 rfl rfl 4 (by decide) (z_w hts 5 rfl) (fun _ h9 => h9) rfl dX1_putDigits_25 ?_
    refine lv_iload_n hx hb dX1_putDigits_28 rfl (lv_at hl 1 rfl) ?_
    obtain ⟨h2, hw⟩ := hw
    refine va_iald hx hb hK hP 1 0 rfl rfl h2 dX1_putDigits_29 ?_
    refine lv_icmp_ge (tgt := 76) hx hb dX1_putDigits_30 (by decide) (fun c3 => ?_) (fun c3 => ?_)
    · have hw := hw.1 c3
      refine lv_iload hx hb dX1_putDigits_76 (lv_at hl 4 rfl) ?_
      exact W.iret (v := x5) hx hb hr (fun t ht hW => ⟨⟨x5, (L), rfl, hw, by rw [ht]; exact hP, hD⟩, hS.F ht⟩) hS.2.2 dX1_putDigits_78 hlocks
    · have hw := hw.2 c3
      refine lv_iload hx hb dX1_putDigits_33 (lv_at hl 3 rfl) ?_
      refine lv_iconst (v := (3 : Int32)) hx hb dX1_putDigits_35 (by decide) ?_
      refine lv_irem hx hb dX1_putDigits_36 (by decide) ?_
      refine lv_istore (lv' := [(7, .int (x4 - x4 / (3 : Int32) * (3 : Int32))), (0, .ref (q 0)), (1, .int x1), (3, .int x3), (4, .int x4), (5, .int x5), (6, .int x6)]) hx hb dX1_putDigits_37 hl (by decide) rfl (fun ls hl => ?_)
      refine lv_aload_n hx hb dX1_putDigits_39 rfl (lv_at hl 1 rfl) ?_
      refine va_get (D := D) (ci := 1) (v := .ref (q 5)) (C := RX1) (T := TX1) (N := 13) hx hb hts (h_X1_X1_putDigits) hown hK hP 0 rfl rfl 8 (by decide) (z_w hts 6 rfl) (fun _ h9 => h9) rfl dX1_putDigits_40 ?_
      refine lv_iload_n hx hb dX1_putDigits_43 rfl (lv_at hl 2 rfl) ?_
      refine lv_iload hx hb dX1_putDigits_44 (lv_at hl 6 rfl) ?_
      have hPc := hP.sub (ws' := ([] : va_W)) [] rfl
      have hDc := hD.sub (ws' := ([] : va_W)) [] (by decide) rfl
      refine z_calli (va_runSN (As := [.int x1, .int x6]) (rest := [.ref (q 5)]) ⟨hx, hb, hml, hown, hts⟩ (c_X3_cellOf l D cs  H.size x1 x6 _ hw) ⟨va_cnB 2 hts gX1_putDigits_X3_cellOf_n66 rfl rfl rfl hKK.2.2.1 (z_w hts 8 rfl) (by decide +kernel) ⟨Nat.le_of_ble_eq_true rfl, Nat.le_of_ble_eq_true rfl⟩, z_w hts 7 rfl, trivial⟩ (PC_S hPc hDc hKK) rfl rfl hl.1 rfl (lv_room (Nat.le_of_ble_eq_true rfl)) dX1_putDigits_46 ⟨Nat.le_of_ble_eq_true rfl, Nat.le_of_ble_eq_true rfl⟩) (fun r4 hw => ?_)
      refine lv_dup2_11 hx hb dX1_putDigits_49 rfl rfl ?_
      obtain ⟨h5, hw⟩ := hw
      refine va_iald hx hb hK hP 5 0 rfl rfl h5 dX1_putDigits_50 ?_
      refine lv_iload_n hx hb dX1_putDigits_51 rfl (lv_at hl 3 rfl) ?_
      refine lv_iload hx hb dX1_putDigits_52 (lv_at hl 0 rfl) ?_
      refine lv_imul hx hb dX1_putDigits_54 ?_
      refine lv_iadd hx hb dX1_putDigits_55 ?_
      obtain ⟨h6, hw⟩ := hw
      refine va_iast hx hb hK hP hD hS 5 0 rfl rfl h6 dX1_putDigits_56 (fun H locs hP hD hS => ?_)
      have hP : va_P D vwCl (w_Line cs q (lsR L 5 (upd (L.1 5) r4.toNatClampNeg ((L.1 5 r4.toNatClampNeg) + (x3 * (x4 - x4 / (3 : Int32) * (3 : Int32))))))) H := hP
      have hD : va_D A (w_Line cs q (lsR L 5 (upd (L.1 5) r4.toNatClampNeg ((L.1 5 r4.toNatClampNeg) + (x3 * (x4 - x4 / (3 : Int32) * (3 : Int32))))))) := hD
      refine lv_iload hx hb dX1_putDigits_57 (lv_at hl 5 rfl) ?_
      refine lv_iload hx hb dX1_putDigits_59 (lv_at hl 0 rfl) ?_
      refine lv_iadd hx hb dX1_putDigits_61 ?_
      refine lv_topi (fun y7 ey7 => ?_)
      have hw := hw y7 ey7
      refine lv_istore (lv' := [(5, .int y7), (7, .int (x4 - x4 / (3 : Int32) * (3 : Int32))), (0, .ref (q 0)), (1, .int x1), (3, .int x3), (4, .int x4), (6, .int x6)]) hx hb dX1_putDigits_62 hl (by decide) rfl (fun ls hl => ?_)
      refine lv_iload hx hb dX1_putDigits_64 (lv_at hl 5 rfl) ?_
      refine lv_iconst (v := (3 : Int32)) hx hb dX1_putDigits_66 (by decide) ?_
      refine lv_idiv hx hb dX1_putDigits_67 (by decide) ?_
      refine lv_istore (lv' := [(4, .int (x4 / (3 : Int32))), (5, .int y7), (7, .int (x4 - x4 / (3 : Int32) * (3 : Int32))), (0, .ref (q 0)), (1, .int x1), (3, .int x3), (6, .int x6)]) hx hb dX1_putDigits_68 hl (by decide) rfl (fun ls hl => ?_)
      refine lv_iinc (v := x6 + 1) (lv' := [(6, .int (x6 + 1)), (4, .int (x4 / (3 : Int32))), (5, .int y7), (7, .int (x4 - x4 / (3 : Int32) * (3 : Int32))), (0, .ref (q 0)), (1, .int x1), (3, .int x3)]) hx hb dX1_putDigits_70 hl (k := 6) rfl rfl (by decide) rfl (fun ls hl => ?_)
      refine lv_goto (tgt := 22) hx hb dX1_putDigits_73 (by decide) ?_
      exact ih _ _ _ _ hw _ _ hP hD hS ls (lv_sub hl [4, 5, 6, 1, 2, 0] rfl)
set_option maxHeartbeats 4000000 in
set_option maxRecDepth 100000 in
theorem t_X1_putDigits {p : Program} {l : Launch} {e : Env} {s : State} {m : MethodId} {args : Array Value} {below : List Frame} {meth : Method} {c : Code} {D : va_G} {cs : Nat → ClassId} {A : Nat → Prop} (hC : MAt p s m args meth c RX1 cX1_putDigits 8 (some .int) wsX1_putDigits D cs) (q : Nat → Nat) (L : LnS) (x1 : Int32) (x2 : Int32) (Q : Int32 → LnS → Prop) (hA : ∀ q : Nat, s.heap.size ≤ q → A q) (hw : wp_X1_putDigits L x1 x2 Q) (H : Heap) (locs : List Loc) (hP : va_P D vwCl (w_Line cs q L) H) (hD : va_D A (w_Line cs q L)) (hS : va_S A s.heap H locs) (ls : Array Slot) (hl : lv_has ls 8 [(0, .ref (q 0)), (1, .int x1), (2, .int x2)]) : W p l e ({ frames := 1, cells := 0, slots := 0, locals := 21 } : Room) s m args below meth c H locs 0 0 (MQ below (va_Qi (fun r (u : LnS) => Q r u) (fun (u : LnS) t => va_P D vwCl (w_Line cs q u) t.heap ∧ va_D A (w_Line cs q u)) A) args s 0 0 A) (F0 m 0 ls []) := by
  obtain ⟨hx, hb, hr, hml, hown, hts, hlocks, hKK⟩ := id hC
  have hK := hKK.1
  refine lv_iload_n hx hb dX1_putDigits_0 rfl (lv_at hl 2 rfl) ?_
  refine lv_if_ge (tgt := 8) hx hb dX1_putDigits_1 (by decide) (fun c1 => ?_) (fun c1 => ?_)
  · have hw := hw.1 c1
    refine lv_iconst (v := (1 : Int32)) hx hb dX1_putDigits_8 (by decide) ?_
    refine lv_istore_n (lv' := [(3, .int (1 : Int32)), (0, .ref (q 0)), (1, .int x1), (2, .int x2)]) hx hb dX1_putDigits_9 rfl hl (by decide) rfl (fun ls hl => ?_)
    refine lv_iload_n hx hb dX1_putDigits_10 rfl (lv_at hl 3 rfl) ?_
    refine va_mabs hx hb (hml.trans hl.1.symm) hown (z_w hts 1 rfl) (z_w hts 2 rfl) (z_w hts 3 rfl) (z_w hts 4 rfl) (Nat.le_of_ble_eq_true rfl) (Nat.le_of_ble_eq_true rfl) (Nat.le_of_ble_eq_true rfl) (Nat.le_of_ble_eq_true rfl) dX1_putDigits_11 ?_
    refine lv_istore (lv' := [(4, .int (if 0 ≤ x2 then x2 else 0 - x2)), (3, .int (1 : Int32)), (0, .ref (q 0)), (1, .int x1), (2, .int x2)]) hx hb dX1_putDigits_14 hl (by decide) rfl (fun ls hl => ?_)
    refine lv_iconst (v := (0 : Int32)) hx hb dX1_putDigits_16 (by decide) ?_
    refine lv_istore (lv' := [(5, .int (0 : Int32)), (4, .int (if 0 ≤ x2 then x2 else 0 - x2)), (3, .int (1 : Int32)), (0, .ref (q 0)), (1, .int x1), (2, .int x2)]) hx hb dX1_putDigits_17 hl (by decide) rfl (fun ls hl => ?_)
    refine lv_iconst (v := (0 : Int32)) hx hb dX1_putDigits_19 (by decide) ?_
    refine lv_istore (lv' := [(6, .int (0 : Int32)), (5, .int (0 : Int32)), (4, .int (if 0 ≤ x2 then x2 else 0 - x2)), (3, .int (1 : Int32)), (0, .ref (q 0)), (1, .int x1), (2, .int x2)]) hx hb dX1_putDigits_20 hl (by decide) rfl (fun ls hl => ?_)
    obtain ⟨n8, hw⟩ := hw
    exact t_X1_putDigits_22 hC q _ _ _ hA n8 _ _ _ _ hw H locs hP hD hS ls (lv_sub hl [4, 5, 3, 2, 1, 0] rfl)
  · have hw := hw.2 c1
    refine lv_iconst (v := (-1 : Int32)) hx hb dX1_putDigits_4 (by decide) ?_
    refine lv_goto (tgt := 9) hx hb dX1_putDigits_5 (by decide) ?_
    refine lv_istore_n (lv' := [(3, .int (-1 : Int32)), (0, .ref (q 0)), (1, .int x1), (2, .int x2)]) hx hb dX1_putDigits_9 rfl hl (by decide) rfl (fun ls hl => ?_)
    refine lv_iload_n hx hb dX1_putDigits_10 rfl (lv_at hl 3 rfl) ?_
    refine va_mabs hx hb (hml.trans hl.1.symm) hown (z_w hts 1 rfl) (z_w hts 2 rfl) (z_w hts 3 rfl) (z_w hts 4 rfl) (Nat.le_of_ble_eq_true rfl) (Nat.le_of_ble_eq_true rfl) (Nat.le_of_ble_eq_true rfl) (Nat.le_of_ble_eq_true rfl) dX1_putDigits_11 ?_
    refine lv_istore (lv' := [(4, .int (if 0 ≤ x2 then x2 else 0 - x2)), (3, .int (-1 : Int32)), (0, .ref (q 0)), (1, .int x1), (2, .int x2)]) hx hb dX1_putDigits_14 hl (by decide) rfl (fun ls hl => ?_)
    refine lv_iconst (v := (0 : Int32)) hx hb dX1_putDigits_16 (by decide) ?_
    refine lv_istore (lv' := [(5, .int (0 : Int32)), (4, .int (if 0 ≤ x2 then x2 else 0 - x2)), (3, .int (-1 : Int32)), (0, .ref (q 0)), (1, .int x1), (2, .int x2)]) hx hb dX1_putDigits_17 hl (by decide) rfl (fun ls hl => ?_)
    refine lv_iconst (v := (0 : Int32)) hx hb dX1_putDigits_19 (by decide) ?_
    refine lv_istore (lv' := [(6, .int (0 : Int32)), (5, .int (0 : Int32)), (4, .int (if 0 ≤ x2 then x2 else 0 - x2)), (3, .int (-1 : Int32)), (0, .ref (q 0)), (1, .int x1), (2, .int x2)]) hx hb dX1_putDigits_20 hl (by decide) rfl (fun ls hl => ?_)
    obtain ⟨n9, hw⟩ := hw
    exact t_X1_putDigits_22 hC q _ _ _ hA n9 _ _ _ _ hw H locs hP hD hS ls (lv_sub hl [4, 5, 3, 2, 1, 0] rfl)
set_option maxHeartbeats 4000000 in
set_option maxRecDepth 100000 in
theorem c_X1_putDigits (l : Launch) (D : va_G) (cs : Nat → ClassId) (q : Nat → Nat) (sz : Nat) (L : LnS) (x1 : Int32) (x2 : Int32) (Q : Int32 → LnS → Prop) (hw : wp_X1_putDigits L x1 x2 Q) : Met l yX1_putDigits wsX1_putDigits ({ frames := 1, cells := 0, slots := 0, locals := 21 } : Room) (va_Pc [.ref (q 0), .int x1, .int x2] (PC D cs (w_Line cs q L) sz)) (va_Qi (fun r (u : LnS) => Q r u) (fun (u : LnS) t => va_P D vwCl (w_Line cs q u) t.heap ∧ va_D (va_A (w_Line cs q L) sz) (w_Line cs q u)) (va_A (w_Line cs q L) sz)) 0 0 (va_A (w_Line cs q L) sz) := by
  refine Met.ofW (cc := cX1_putDigits) (maxL := 8) (ret := (some .int)) (by decide) rfl ?_
  intro p e s m args below meth c s₁ B hml hv
  obtain ⟨rfl, hsz, hP, hKK, hD0⟩ := hv
  have hC : MAt p s m _ meth c RX1 cX1_putDigits 8 (some .int) wsX1_putDigits D cs := ⟨B.exec, B.bytes, B.returns, hml, findClass_of_methodNamed B.named, atoms_spec (ws := wsX1_putDigits) B.pre, B.notSynchronized, hKK⟩
  have hl := lv_entry ([.ref (q 0), .int x1, .int x2]) (n := 8) (Nat.le_of_ble_eq_true rfl)
  rw [lg_entry_eq]
  generalize (lg_sl ([.ref (q 0), .int x1, .int x2]) ++ List.replicate (8 - (lg_sl ([.ref (q 0), .int x1, .int x2])).length) Slot.unset).toArray = ls at hl ⊢
  subst hsz
  have hD := hD0.self (sz := s.heap.size)
  have hA : ∀ z : Nat, s.heap.size ≤ z → va_A (w_Line cs q L) s.heap.size z := fun z h => Or.inr h
  exact t_X1_putDigits hC q L x1 x2 Q hA hw s.heap [] hP hD va_S.rf ls hl
set_option maxHeartbeats 4000000 in
set_option maxRecDepth 100000 in
theorem t_X1_tryPutDigits {p : Program} {l : Launch} {e : Env} {s : State} {m : MethodId} {args : Array Value} {below : List Frame} {meth : Method} {c : Code} {D : va_G} {cs : Nat → ClassId} {A : Nat → Prop} (hC : MAt p s m args meth c RX1 cX1_tryPutDigits 3 (some .boolean) wsX1_tryPutDigits D cs) (q : Nat → Nat) (L : LnS) (x1 : Int32) (x2 : Int32) (Q : Int32 → LnS → Prop) (hA : ∀ q : Nat, s.heap.size ≤ q → A q) (hw : wp_X1_tryPutDigits L x1 x2 Q) (H : Heap) (locs : List Loc) (hP : va_P D vwCl (w_Line cs q L) H) (hD : va_D A (w_Line cs q L)) (hS : va_S A s.heap H locs) (ls : Array Slot) (hl : lv_has ls 3 [(0, .ref (q 0)), (1, .int x1), (2, .int x2)]) : W p l e ({ frames := 2, cells := 0, slots := 0, locals := 48 } : Room) s m args below meth c H locs 0 0 (MQ below (va_Qi (fun r (u : LnS) => (r = 0 ∨ r = 1) ∧ Q r u) (fun (u : LnS) t => va_P D vwCl (w_Line cs q u) t.heap ∧ va_D A (w_Line cs q u)) A) args s 0 0 A) (F0 m 0 ls []) := by
  obtain ⟨hx, hb, hr, hml, hown, hts, hlocks, hKK⟩ := id hC
  have hK := hKK.1
  refine lv_aload_n hx hb dX1_tryPutDigits_0 rfl (lv_at hl 0 rfl) ?_
  refine lv_iload_n hx hb dX1_tryPutDigits_1 rfl (lv_at hl 1 rfl) ?_
  refine z_calli (va_runV (As := [.int x1]) (rest := []) ⟨hx, hb, hml, hown, hts⟩ (c_X1_hasCounter l D cs q H.size L x1 _ hw) (cwV 1 hts gX1_tryPutDigits_X1_hasCounter rfl rfl rfl (by decide +kernel) ⟨Nat.le_of_ble_eq_true rfl, Nat.le_of_ble_eq_true rfl⟩) (PC_V hP hD hKK 0 1 rfl rfl) rfl rfl hl.1 rfl (lv_room (Nat.le_of_ble_eq_true rfl)) dX1_tryPutDigits_2 ⟨Nat.le_of_ble_eq_true rfl, Nat.le_of_ble_eq_true rfl⟩) (fun r1 hw => ?_)
  obtain ⟨b1, hw⟩ := hw
  refine lv_if_eq (tgt := 17) hx hb dX1_tryPutDigits_5 (by decide) (fun c2 => ?_) (fun c2 => ?_)
  · have hw := hw.1 c2
    refine lv_iconst (v := (0 : Int32)) hx hb dX1_tryPutDigits_17 (by decide) ?_
    exact W.zret (v := (0 : Int32)) hx hb hr rfl (fun t ht hW => ⟨⟨(0 : Int32), (L), rfl, ⟨Or.inl rfl, hw⟩, by rw [ht]; exact hP, hD⟩, hS.F ht⟩) hS.2.2 dX1_tryPutDigits_18 hlocks
  · have hw := hw.2 c2
    refine lv_aload_n hx hb dX1_tryPutDigits_8 rfl (lv_at hl 0 rfl) ?_
    refine lv_iload_n hx hb dX1_tryPutDigits_9 rfl (lv_at hl 1 rfl) ?_
    refine lv_iload_n hx hb dX1_tryPutDigits_10 rfl (lv_at hl 2 rfl) ?_
    refine z_calli (va_runV (As := [.int x1, .int x2]) (rest := []) ⟨hx, hb, hml, hown, hts⟩ (c_X1_hasPlacesFor l D cs q H.size L x1 x2 _ hw) (cwV 2 hts gX1_tryPutDigits_X1_hasPlacesFor rfl rfl rfl (by decide +kernel) ⟨Nat.le_of_ble_eq_true rfl, Nat.le_of_ble_eq_true rfl⟩) (PC_V hP hD hKK 0 1 rfl rfl) rfl rfl hl.1 rfl (lv_room (Nat.le_of_ble_eq_true rfl)) dX1_tryPutDigits_11 ⟨Nat.le_of_ble_eq_true rfl, Nat.le_of_ble_eq_true rfl⟩) (fun r3 hw => ?_)
    obtain ⟨b3, hw⟩ := hw
    refine lv_if_ne (tgt := 19) hx hb dX1_tryPutDigits_14 (by decide) (fun c4 => ?_) (fun c4 => ?_)
    · have hw := hw.2 c4
      refine lv_aload_n hx hb dX1_tryPutDigits_19 rfl (lv_at hl 0 rfl) ?_
      refine lv_iload_n hx hb dX1_tryPutDigits_20 rfl (lv_at hl 1 rfl) ?_
      refine lv_iload_n hx hb dX1_tryPutDigits_21 rfl (lv_at hl 2 rfl) ?_
      have hFc := va_free (wc := w_Line cs q L) hD hS hA [0, 1, 2, 3, 4, 5, 6, 7, 8, 9] rfl
      refine va_calli (va_runV (As := [.int x1, .int x2]) (rest := []) ⟨hx, hb, hml, hown, hts⟩ (c_X1_putDigits l D cs q H.size L x1 x2 _ hw) (cwV 2 hts gX1_tryPutDigits_X1_putDigits rfl rfl rfl (by decide +kernel) ⟨Nat.le_of_ble_eq_true rfl, Nat.le_of_ble_eq_true rfl⟩) (PC_V hP hD hKK 0 1 rfl rfl) rfl rfl hl.1 rfl (lv_room (Nat.le_of_ble_eq_true rfl)) dX1_tryPutDigits_22 ⟨Nat.le_of_ble_eq_true rfl, Nat.le_of_ble_eq_true rfl⟩) hS (fun q _ h => hFc q h) hFc (fun r5 u5 t H locs ht hvm hw hB hz1 hk1 hS => ?_)
      obtain ⟨hP1, hD1⟩ := hB
      rw [ht] at hP1
      have hD : va_D A (w_Line cs q u5) := hD1.weaken (fun k q _ h => hFc q.1 h)
      have hP : va_P D vwCl (w_Line cs q u5) H := hP1
      refine lv_pop hx hb dX1_tryPutDigits_25 rfl ?_
      refine lv_iconst (v := (1 : Int32)) hx hb dX1_tryPutDigits_26 (by decide) ?_
      exact W.zret (v := (1 : Int32)) hx hb hr rfl (fun t ht hW => ⟨⟨(1 : Int32), (u5), rfl, ⟨Or.inr rfl, hw⟩, by rw [ht]; exact hP, hD⟩, hS.F ht⟩) hS.2.2 dX1_tryPutDigits_27 hlocks
    · have hw := hw.1 c4
      refine lv_iconst (v := (0 : Int32)) hx hb dX1_tryPutDigits_17 (by decide) ?_
      exact W.zret (v := (0 : Int32)) hx hb hr rfl (fun t ht hW => ⟨⟨(0 : Int32), (L), rfl, ⟨Or.inl rfl, hw⟩, by rw [ht]; exact hP, hD⟩, hS.F ht⟩) hS.2.2 dX1_tryPutDigits_18 hlocks
set_option maxHeartbeats 4000000 in
set_option maxRecDepth 100000 in
theorem c_X1_tryPutDigits (l : Launch) (D : va_G) (cs : Nat → ClassId) (q : Nat → Nat) (sz : Nat) (L : LnS) (x1 : Int32) (x2 : Int32) (Q : Int32 → LnS → Prop) (hw : wp_X1_tryPutDigits L x1 x2 Q) : Met l yX1_tryPutDigits wsX1_tryPutDigits ({ frames := 2, cells := 0, slots := 0, locals := 48 } : Room) (va_Pc [.ref (q 0), .int x1, .int x2] (PC D cs (w_Line cs q L) sz)) (va_Qi (fun r (u : LnS) => (r = 0 ∨ r = 1) ∧ Q r u) (fun (u : LnS) t => va_P D vwCl (w_Line cs q u) t.heap ∧ va_D (va_A (w_Line cs q L) sz) (w_Line cs q u)) (va_A (w_Line cs q L) sz)) 0 0 (va_A (w_Line cs q L) sz) := by
  refine Met.ofW (cc := cX1_tryPutDigits) (maxL := 3) (ret := (some .boolean)) (by decide) rfl ?_
  intro p e s m args below meth c s₁ B hml hv
  obtain ⟨rfl, hsz, hP, hKK, hD0⟩ := hv
  have hC : MAt p s m _ meth c RX1 cX1_tryPutDigits 3 (some .boolean) wsX1_tryPutDigits D cs := ⟨B.exec, B.bytes, B.returns, hml, findClass_of_methodNamed B.named, atoms_spec (ws := wsX1_tryPutDigits) B.pre, B.notSynchronized, hKK⟩
  have hl := lv_entry ([.ref (q 0), .int x1, .int x2]) (n := 3) (Nat.le_of_ble_eq_true rfl)
  rw [lg_entry_eq]
  generalize (lg_sl ([.ref (q 0), .int x1, .int x2]) ++ List.replicate (3 - (lg_sl ([.ref (q 0), .int x1, .int x2])).length) Slot.unset).toArray = ls at hl ⊢
  subst hsz
  have hD := hD0.self (sz := s.heap.size)
  have hA : ∀ z : Nat, s.heap.size ≤ z → va_A (w_Line cs q L) s.heap.size z := fun z h => Or.inr h
  exact t_X1_tryPutDigits hC q L x1 x2 Q hA hw s.heap [] hP hD va_S.rf ls hl
theorem h_X1_X1_drawFrom : ∀ w ∈ u_ws RX1 TX1 13, w ∈ wsX1_drawFrom := fun _ h => List.mem_cons_of_mem _ (List.mem_append_right _ h)
set_option maxHeartbeats 4000000 in
set_option maxRecDepth 100000 in
theorem t_X1_drawFrom {p : Program} {l : Launch} {e : Env} {s : State} {m : MethodId} {args : Array Value} {below : List Frame} {meth : Method} {c : Code} {D : va_G} {cs : Nat → ClassId} {A : Nat → Prop} (hC : MAt p s m args meth c RX1 cX1_drawFrom 3 (some .int) wsX1_drawFrom D cs) (q : Nat → Nat) (L : LnS) (x1 : Int32) (Q : Int32 → LnS → Prop) (hA : ∀ q : Nat, s.heap.size ≤ q → A q) (hw : wp_X1_drawFrom L x1 Q) (H : Heap) (locs : List Loc) (hP : va_P D vwCl (w_Line cs q L) H) (hD : va_D A (w_Line cs q L)) (hS : va_S A s.heap H locs) (ls : Array Slot) (hl : lv_has ls 3 [(0, .ref (q 0)), (1, .int x1)]) : W p l e ({ frames := 2, cells := 0, slots := 0, locals := 46 } : Room) s m args below meth c H locs 0 0 (MQ below (va_Qi (fun r (u : LnS) => Q r u) (fun (u : LnS) t => va_P D vwCl (w_Line cs q u) t.heap ∧ va_D A (w_Line cs q u)) A) args s 0 0 A) (F0 m 0 ls []) := by
  obtain ⟨hx, hb, hr, hml, hown, hts, hlocks, hKK⟩ := id hC
  have hK := hKK.1
  refine lv_aload_n hx hb dX1_drawFrom_0 rfl (lv_at hl 0 rfl) ?_
  refine lv_iload_n hx hb dX1_drawFrom_1 rfl (lv_at hl 1 rfl) ?_
  refine z_calli (va_runV (As := [.int x1]) (rest := []) ⟨hx, hb, hml, hown, hts⟩ (c_X1_reading l D cs q H.size L x1 _ hw) (cwV 1 hts gX1_drawFrom_X1_reading rfl rfl rfl (by decide +kernel) ⟨Nat.le_of_ble_eq_true rfl, Nat.le_of_ble_eq_true rfl⟩) (PC_V hP hD hKK 0 1 rfl rfl) rfl rfl hl.1 rfl (lv_room (Nat.le_of_ble_eq_true rfl)) dX1_drawFrom_2 ⟨Nat.le_of_ble_eq_true rfl, Nat.le_of_ble_eq_true rfl⟩) (fun r1 hw => ?_)
  refine lv_istore_n (lv' := [(2, .int r1), (0, .ref (q 0)), (1, .int x1)]) hx hb dX1_drawFrom_5 rfl hl (by decide) rfl (fun ls hl => ?_)
  refine lv_aload_n hx hb dX1_drawFrom_6 rfl (lv_at hl 1 rfl) ?_
  refine va_get (D := D) (ci := 1) (v := .int (L.1 0 3)) (C := RX1) (T := TX1) (N := 13) hx hb hts (h_X1_X1_drawFrom) hown hK hP 0 rfl rfl 3 (by decide) (z_w hts 1 rfl) (fun _ h9 => h9) rfl dX1_drawFrom_7 ?_
  refine lv_aload_n hx hb dX1_drawFrom_10 rfl (lv_at hl 1 rfl) ?_
  refine va_get (D := D) (ci := 1) (v := .ref (q 7)) (C := RX1) (T := TX1) (N := 13) hx hb hts (h_X1_X1_drawFrom) hown hK hP 0 rfl rfl 10 (by decide) (z_w hts 2 rfl) (fun _ h9 => h9) rfl dX1_drawFrom_11 ?_
  refine va_alen hx hb hK hP 7 0 rfl rfl (v := 49) rfl dX1_drawFrom_14 ?_
  refine lv_icmp_ge (tgt := 78) hx hb dX1_drawFrom_15 (by decide) (fun c2 => ?_) (fun c2 => ?_)
  · have hw := hw.1 c2
    refine lv_aload_n hx hb dX1_drawFrom_78 rfl (lv_at hl 1 rfl) ?_
    refine va_get (D := D) (ci := 1) (v := .ref (q 5)) (C := RX1) (T := TX1) (N := 13) hx hb hts (h_X1_X1_drawFrom) hown hK hP 0 rfl rfl 8 (by decide) (z_w hts 7 rfl) (fun _ h9 => h9) rfl dX1_drawFrom_79 ?_
    refine lv_iload_n hx hb dX1_drawFrom_82 rfl (lv_at hl 2 rfl) ?_
    refine lv_iconst (v := (0 : Int32)) hx hb dX1_drawFrom_83 (by decide) ?_
    have hPc := hP.sub (ws' := ([] : va_W)) [] rfl
    have hDc := hD.sub (ws' := ([] : va_W)) [] (by decide) rfl
    refine z_calli (va_runSN (As := [.int x1, .int (0 : Int32)]) (rest := [.ref (q 5)]) ⟨hx, hb, hml, hown, hts⟩ (c_X3_cellOf l D cs  H.size x1 (0 : Int32) _ hw) ⟨va_cnB 2 hts gX1_drawFrom_X3_cellOf_n66 rfl rfl rfl hKK.2.2.1 (z_w hts 16 rfl) (by decide +kernel) ⟨Nat.le_of_ble_eq_true rfl, Nat.le_of_ble_eq_true rfl⟩, z_w hts 15 rfl, trivial⟩ (PC_S hPc hDc hKK) rfl rfl hl.1 rfl (lv_room (Nat.le_of_ble_eq_true rfl)) dX1_drawFrom_84 ⟨Nat.le_of_ble_eq_true rfl, Nat.le_of_ble_eq_true rfl⟩) (fun r3 hw => ?_)
    refine lv_dup2_11 hx hb dX1_drawFrom_87 rfl rfl ?_
    obtain ⟨h4, hw⟩ := hw
    refine va_iald hx hb hK hP 5 0 rfl rfl h4 dX1_drawFrom_88 ?_
    refine lv_iconst (v := (1 : Int32)) hx hb dX1_drawFrom_89 (by decide) ?_
    refine lv_iadd hx hb dX1_drawFrom_90 ?_
    obtain ⟨h5, hw⟩ := hw
    refine va_iast hx hb hK hP hD hS 5 0 rfl rfl h5 dX1_drawFrom_91 (fun H locs hP hD hS => ?_)
    have hP : va_P D vwCl (w_Line cs q (lsR L 5 (upd (L.1 5) r3.toNatClampNeg ((L.1 5 r3.toNatClampNeg) + (1 : Int32))))) H := hP
    have hD : va_D A (w_Line cs q (lsR L 5 (upd (L.1 5) r3.toNatClampNeg ((L.1 5 r3.toNatClampNeg) + (1 : Int32))))) := hD
    refine lv_iload_n hx hb dX1_drawFrom_92 rfl (lv_at hl 0 rfl) ?_
    exact W.iret (v := r1) hx hb hr (fun t ht hW => ⟨⟨r1, (lsR L 5 (upd (L.1 5) r3.toNatClampNeg ((L.1 5 r3.toNatClampNeg) + (1 : Int32)))), rfl, hw, by rw [ht]; exact hP, hD⟩, hS.F ht⟩) hS.2.2 dX1_drawFrom_93 hlocks
  · have hw := hw.2 c2
    refine lv_aload_n hx hb dX1_drawFrom_18 rfl (lv_at hl 1 rfl) ?_
    refine va_get (D := D) (ci := 1) (v := .ref (q 6)) (C := RX1) (T := TX1) (N := 13) hx hb hts (h_X1_X1_drawFrom) hown hK hP 0 rfl rfl 9 (by decide) (z_w hts 3 rfl) (fun _ h9 => h9) rfl dX1_drawFrom_19 ?_
    refine lv_aload_n hx hb dX1_drawFrom_22 rfl (lv_at hl 1 rfl) ?_
    refine va_get (D := D) (ci := 1) (v := .int (L.1 0 3)) (C := RX1) (T := TX1) (N := 13) hx hb hts (h_X1_X1_drawFrom) hown hK hP 0 rfl rfl 3 (by decide) (z_w hts 1 rfl) (fun _ h9 => h9) rfl dX1_drawFrom_23 ?_
    refine lv_iload_n hx hb dX1_drawFrom_26 rfl (lv_at hl 2 rfl) ?_
    obtain ⟨h6, hw⟩ := hw
    refine va_iast hx hb hK hP hD hS 6 0 rfl rfl h6 dX1_drawFrom_27 (fun H locs hP hD hS => ?_)
    have hP : va_P D vwCl (w_Line cs q (lsR L 6 (upd (L.1 6) (L.1 0 3).toNatClampNeg x1))) H := hP
    have hD : va_D A (w_Line cs q (lsR L 6 (upd (L.1 6) (L.1 0 3).toNatClampNeg x1))) := hD
    refine lv_aload_n hx hb dX1_drawFrom_28 rfl (lv_at hl 1 rfl) ?_
    refine va_get (D := D) (ci := 1) (v := .ref (q 7)) (C := RX1) (T := TX1) (N := 13) hx hb hts (h_X1_X1_drawFrom) hown hK hP 0 rfl rfl 10 (by decide) (z_w hts 2 rfl) (fun _ h9 => h9) rfl dX1_drawFrom_29 ?_
    refine lv_aload_n hx hb dX1_drawFrom_32 rfl (lv_at hl 1 rfl) ?_
    refine va_get (D := D) (ci := 1) (v := .int (L.1 0 3)) (C := RX1) (T := TX1) (N := 13) hx hb hts (h_X1_X1_drawFrom) hown hK hP 0 rfl rfl 3 (by decide) (z_w hts 1 rfl) (fun _ h9 => h9) rfl dX1_drawFrom_33 ?_
    refine lv_iload_n hx hb dX1_drawFrom_36 rfl (lv_at hl 0 rfl) ?_
    obtain ⟨L7, eL7⟩ : ∃ z : LnS, z = (lsR L 6 (upd (L.1 6) (L.1 0 3).toNatClampNeg x1)) := ⟨_, rfl⟩
    have hw := hw L7 eL7
    rw [← eL7] at hP hD
    obtain ⟨h8, hw⟩ := hw
    refine va_iast hx hb hK hP hD hS 7 0 rfl rfl h8 dX1_drawFrom_37 (fun H locs hP hD hS => ?_)
    have hP : va_P D vwCl (w_Line cs q (lsR L7 7 (upd (L7.1 7) (L.1 0 3).toNatClampNeg r1))) H := hP
    have hD : va_D A (w_Line cs q (lsR L7 7 (upd (L7.1 7) (L.1 0 3).toNatClampNeg r1))) := hD
    refine lv_aload_n hx hb dX1_drawFrom_38 rfl (lv_at hl 1 rfl) ?_
    refine va_get (D := D) (ci := 1) (v := .ref (q 8)) (C := RX1) (T := TX1) (N := 13) hx hb hts (h_X1_X1_drawFrom) hown hK hP 0 rfl rfl 11 (by decide) (z_w hts 4 rfl) (fun _ h9 => h9) rfl dX1_drawFrom_39 ?_
    refine lv_aload_n hx hb dX1_drawFrom_42 rfl (lv_at hl 1 rfl) ?_
    refine va_get (D := D) (ci := 1) (v := .int (L7.1 0 3)) (C := RX1) (T := TX1) (N := 13) hx hb hts (h_X1_X1_drawFrom) hown hK hP 0 rfl rfl 3 (by decide) (z_w hts 1 rfl) (fun _ h9 => h9) rfl dX1_drawFrom_43 ?_
    refine lv_aload_n hx hb dX1_drawFrom_46 rfl (lv_at hl 1 rfl) ?_
    refine va_get (D := D) (ci := 1) (v := .int (L7.1 0 2)) (C := RX1) (T := TX1) (N := 13) hx hb hts (h_X1_X1_drawFrom) hown hK hP 0 rfl rfl 2 (by decide) (z_w hts 5 rfl) (fun _ h9 => h9) rfl dX1_drawFrom_47 ?_
    obtain ⟨L9, eL9⟩ : ∃ z : LnS, z = (lsR L7 7 (upd (L7.1 7) (L.1 0 3).toNatClampNeg r1)) := ⟨_, rfl⟩
    have hw := hw L9 eL9
    rw [← eL9] at hP hD
    obtain ⟨h10, hw⟩ := hw
    refine va_iast hx hb hK hP hD hS 8 0 rfl rfl h10 dX1_drawFrom_50 (fun H locs hP hD hS => ?_)
    have hP : va_P D vwCl (w_Line cs q (lsR L9 8 (upd (L9.1 8) (L7.1 0 3).toNatClampNeg (L7.1 0 2)))) H := hP
    have hD : va_D A (w_Line cs q (lsR L9 8 (upd (L9.1 8) (L7.1 0 3).toNatClampNeg (L7.1 0 2)))) := hD
    refine lv_aload_n hx hb dX1_drawFrom_51 rfl (lv_at hl 1 rfl) ?_
    refine va_get (D := D) (ci := 1) (v := .ref (q 9)) (C := RX1) (T := TX1) (N := 13) hx hb hts (h_X1_X1_drawFrom) hown hK hP 0 rfl rfl 12 (by decide) (z_w hts 6 rfl) (fun _ h9 => h9) rfl dX1_drawFrom_52 ?_
    refine lv_aload_n hx hb dX1_drawFrom_55 rfl (lv_at hl 1 rfl) ?_
    refine va_get (D := D) (ci := 1) (v := .int (L9.1 0 3)) (C := RX1) (T := TX1) (N := 13) hx hb hts (h_X1_X1_drawFrom) hown hK hP 0 rfl rfl 3 (by decide) (z_w hts 1 rfl) (fun _ h9 => h9) rfl dX1_drawFrom_56 ?_
    refine lv_aload_n hx hb dX1_drawFrom_59 rfl (lv_at hl 1 rfl) ?_
    refine lv_iload_n hx hb dX1_drawFrom_60 rfl (lv_at hl 2 rfl) ?_
    refine z_calll (va_runV (As := [.int x1]) (rest := [.int (L9.1 0 3), .ref (q 9)]) ⟨hx, hb, hml, hown, hts⟩ (c_X1_fullReading l D cs q H.size (lsR L9 8 (upd (L9.1 8) (L7.1 0 3).toNatClampNeg (L7.1 0 2))) x1 _ hw) (cwV 1 hts gX1_drawFrom_X1_fullReading rfl rfl rfl (by decide +kernel) ⟨Nat.le_of_ble_eq_true rfl, Nat.le_of_ble_eq_true rfl⟩) (PC_V hP hD hKK 0 1 rfl rfl) rfl rfl hl.1 rfl (lv_room (Nat.le_of_ble_eq_true rfl)) dX1_drawFrom_61 ⟨Nat.le_of_ble_eq_true rfl, Nat.le_of_ble_eq_true rfl⟩) (fun r11 hw => ?_)
    refine lv_iload_n hx hb dX1_drawFrom_64 rfl (lv_at hl 0 rfl) ?_
    refine lv_i2l (v := r1.toInt64) hx hb dX1_drawFrom_65 rfl ?_
    refine lv_lsub hx hb dX1_drawFrom_66 ?_
    obtain ⟨L12, eL12⟩ : ∃ z : LnS, z = (lsR L9 8 (upd (L9.1 8) (L7.1 0 3).toNatClampNeg (L7.1 0 2))) := ⟨_, rfl⟩
    have hw := hw L12 eL12
    rw [← eL12] at hP hD
    obtain ⟨h13, hw⟩ := hw
    refine va_last hx hb hK hP hD hS 9 3 rfl rfl h13 dX1_drawFrom_67 (fun H locs hP hD hS => ?_)
    have hP : va_P D vwCl (w_Line cs q (lsX L12 (vp_updL L12.2 (L9.1 0 3).toNatClampNeg (r11 - r1.toInt64)))) H := hP
    have hD : va_D A (w_Line cs q (lsX L12 (vp_updL L12.2 (L9.1 0 3).toNatClampNeg (r11 - r1.toInt64)))) := hD
    refine lv_aload_n hx hb dX1_drawFrom_68 rfl (lv_at hl 1 rfl) ?_
    refine lv_dup hx hb dX1_drawFrom_69 rfl ?_
    refine va_get (D := D) (ci := 1) (v := .int (L12.1 0 3)) (C := RX1) (T := TX1) (N := 13) hx hb hts (h_X1_X1_drawFrom) hown hK hP 0 rfl rfl 3 (by decide) (z_w hts 1 rfl) (fun _ h9 => h9) rfl dX1_drawFrom_70 ?_
    refine lv_iconst (v := (1 : Int32)) hx hb dX1_drawFrom_73 (by decide) ?_
    refine lv_iadd hx hb dX1_drawFrom_74 ?_
    refine va_put (D := D) (ci := 1) (v := .int ((L12.1 0 3) + (1 : Int32))) (ty := .int) (C := RX1) (T := TX1) (N := 13) hx hb hts (h_X1_X1_drawFrom) tyX1 tyX1_ok nmX1 hown hK hP hD hS 0 rfl rfl 3 (by decide) (z_w hts 1 rfl) (fun _ h9 => h9) rfl (by decide +kernel) rfl rfl (Nat.le_of_ble_eq_true rfl) dX1_drawFrom_75 (fun H locs hP hD hS => ?_)
    have hP : va_P D vwCl (w_Line cs q (lsS (lsX L12 (vp_updL L12.2 (L9.1 0 3).toNatClampNeg (r11 - r1.toInt64))) 0 3 ((L12.1 0 3) + (1 : Int32)))) H := hP
    have hD : va_D A (w_Line cs q (lsS (lsX L12 (vp_updL L12.2 (L9.1 0 3).toNatClampNeg (r11 - r1.toInt64))) 0 3 ((L12.1 0 3) + (1 : Int32)))) := hD
    refine lv_aload_n hx hb dX1_drawFrom_78 rfl (lv_at hl 1 rfl) ?_
    refine va_get (D := D) (ci := 1) (v := .ref (q 5)) (C := RX1) (T := TX1) (N := 13) hx hb hts (h_X1_X1_drawFrom) hown hK hP 0 rfl rfl 8 (by decide) (z_w hts 7 rfl) (fun _ h9 => h9) rfl dX1_drawFrom_79 ?_
    refine lv_iload_n hx hb dX1_drawFrom_82 rfl (lv_at hl 2 rfl) ?_
    refine lv_iconst (v := (0 : Int32)) hx hb dX1_drawFrom_83 (by decide) ?_
    have hPc := hP.sub (ws' := ([] : va_W)) [] rfl
    have hDc := hD.sub (ws' := ([] : va_W)) [] (by decide) rfl
    refine z_calli (va_runSN (As := [.int x1, .int (0 : Int32)]) (rest := [.ref (q 5)]) ⟨hx, hb, hml, hown, hts⟩ (c_X3_cellOf l D cs  H.size x1 (0 : Int32) _ hw) ⟨va_cnB 2 hts gX1_drawFrom_X3_cellOf_n66 rfl rfl rfl hKK.2.2.1 (z_w hts 16 rfl) (by decide +kernel) ⟨Nat.le_of_ble_eq_true rfl, Nat.le_of_ble_eq_true rfl⟩, z_w hts 15 rfl, trivial⟩ (PC_S hPc hDc hKK) rfl rfl hl.1 rfl (lv_room (Nat.le_of_ble_eq_true rfl)) dX1_drawFrom_84 ⟨Nat.le_of_ble_eq_true rfl, Nat.le_of_ble_eq_true rfl⟩) (fun r14 hw => ?_)
    refine lv_dup2_11 hx hb dX1_drawFrom_87 rfl rfl ?_
    obtain ⟨h15, hw⟩ := hw
    refine va_iald hx hb hK hP 5 0 rfl rfl h15 dX1_drawFrom_88 ?_
    refine lv_iconst (v := (1 : Int32)) hx hb dX1_drawFrom_89 (by decide) ?_
    refine lv_iadd hx hb dX1_drawFrom_90 ?_
    obtain ⟨L16, eL16⟩ : ∃ z : LnS, z = (lsS (lsX L12 (vp_updL L12.2 (L9.1 0 3).toNatClampNeg (r11 - r1.toInt64))) 0 3 ((L12.1 0 3) + (1 : Int32))) := ⟨_, rfl⟩
    have hw := hw L16 eL16
    rw [← eL16] at hP hD
    obtain ⟨h17, hw⟩ := hw
    refine va_iast hx hb hK hP hD hS 5 0 rfl rfl h17 dX1_drawFrom_91 (fun H locs hP hD hS => ?_)
    have hP : va_P D vwCl (w_Line cs q (lsR L16 5 (upd (L16.1 5) r14.toNatClampNeg ((L12.1 5 r14.toNatClampNeg) + (1 : Int32))))) H := hP
    have hD : va_D A (w_Line cs q (lsR L16 5 (upd (L16.1 5) r14.toNatClampNeg ((L12.1 5 r14.toNatClampNeg) + (1 : Int32))))) := hD
    refine lv_iload_n hx hb dX1_drawFrom_92 rfl (lv_at hl 0 rfl) ?_
    exact W.iret (v := r1) hx hb hr (fun t ht hW => ⟨⟨r1, (lsR L16 5 (upd (L16.1 5) r14.toNatClampNeg ((L12.1 5 r14.toNatClampNeg) + (1 : Int32)))), rfl, hw, by rw [ht]; exact hP, hD⟩, hS.F ht⟩) hS.2.2 dX1_drawFrom_93 hlocks
set_option maxHeartbeats 4000000 in
set_option maxRecDepth 100000 in
theorem c_X1_drawFrom (l : Launch) (D : va_G) (cs : Nat → ClassId) (q : Nat → Nat) (sz : Nat) (L : LnS) (x1 : Int32) (Q : Int32 → LnS → Prop) (hw : wp_X1_drawFrom L x1 Q) : Met l yX1_drawFrom wsX1_drawFrom ({ frames := 2, cells := 0, slots := 0, locals := 46 } : Room) (va_Pc [.ref (q 0), .int x1] (PC D cs (w_Line cs q L) sz)) (va_Qi (fun r (u : LnS) => Q r u) (fun (u : LnS) t => va_P D vwCl (w_Line cs q u) t.heap ∧ va_D (va_A (w_Line cs q L) sz) (w_Line cs q u)) (va_A (w_Line cs q L) sz)) 0 0 (va_A (w_Line cs q L) sz) := by
  refine Met.ofW (cc := cX1_drawFrom) (maxL := 3) (ret := (some .int)) (by decide) rfl ?_
  intro p e s m args below meth c s₁ B hml hv
  obtain ⟨rfl, hsz, hP, hKK, hD0⟩ := hv
  have hC : MAt p s m _ meth c RX1 cX1_drawFrom 3 (some .int) wsX1_drawFrom D cs := ⟨B.exec, B.bytes, B.returns, hml, findClass_of_methodNamed B.named, atoms_spec (ws := wsX1_drawFrom) B.pre, B.notSynchronized, hKK⟩
  have hl := lv_entry ([.ref (q 0), .int x1]) (n := 3) (Nat.le_of_ble_eq_true rfl)
  rw [lg_entry_eq]
  generalize (lg_sl ([.ref (q 0), .int x1]) ++ List.replicate (3 - (lg_sl ([.ref (q 0), .int x1])).length) Slot.unset).toArray = ls at hl ⊢
  subst hsz
  have hD := hD0.self (sz := s.heap.size)
  have hA : ∀ z : Nat, s.heap.size ≤ z → va_A (w_Line cs q L) s.heap.size z := fun z h => Or.inr h
  exact t_X1_drawFrom hC q L x1 Q hA hw s.heap [] hP hD va_S.rf ls hl
theorem h_X1_X1_tryDraw : ∀ w ∈ u_ws RX1 TX1 13, w ∈ wsX1_tryDraw := fun _ h => List.mem_cons_of_mem _ (List.mem_append_right _ h)
set_option maxHeartbeats 4000000 in
set_option maxRecDepth 100000 in
theorem t_X1_tryDraw {p : Program} {l : Launch} {e : Env} {s : State} {m : MethodId} {args : Array Value} {below : List Frame} {meth : Method} {c : Code} {D : va_G} {cs : Nat → ClassId} {A : Nat → Prop} (hC : MAt p s m args meth c RX1 cX1_tryDraw 2 (some .boolean) wsX1_tryDraw D cs) (q : Nat → Nat) (L : LnS) (x1 : Int32) (Q : Int32 → LnS → Prop) (hA : ∀ q : Nat, s.heap.size ≤ q → A q) (hw : wp_X1_tryDraw L x1 Q) (H : Heap) (locs : List Loc) (hP : va_P D vwCl (w_Line cs q L) H) (hD : va_D A (w_Line cs q L)) (hS : va_S A s.heap H locs) (ls : Array Slot) (hl : lv_has ls 2 [(0, .ref (q 0)), (1, .int x1)]) : W p l e ({ frames := 3, cells := 0, slots := 0, locals := 68 } : Room) s m args below meth c H locs 0 0 (MQ below (va_Qi (fun r (u : LnS) => (r = 0 ∨ r = 1) ∧ Q r u) (fun (u : LnS) t => va_P D vwCl (w_Line cs q u) t.heap ∧ va_D A (w_Line cs q u)) A) args s 0 0 A) (F0 m 0 ls []) := by
  obtain ⟨hx, hb, hr, hml, hown, hts, hlocks, hKK⟩ := id hC
  have hK := hKK.1
  refine lv_aload_n hx hb dX1_tryDraw_0 rfl (lv_at hl 0 rfl) ?_
  refine lv_iload_n hx hb dX1_tryDraw_1 rfl (lv_at hl 1 rfl) ?_
  refine z_calli (va_runV (As := [.int x1]) (rest := []) ⟨hx, hb, hml, hown, hts⟩ (c_X1_hasCounter l D cs q H.size L x1 _ hw) (cwV 1 hts gX1_tryDraw_X1_hasCounter rfl rfl rfl (by decide +kernel) ⟨Nat.le_of_ble_eq_true rfl, Nat.le_of_ble_eq_true rfl⟩) (PC_V hP hD hKK 0 1 rfl rfl) rfl rfl hl.1 rfl (lv_room (Nat.le_of_ble_eq_true rfl)) dX1_tryDraw_2 ⟨Nat.le_of_ble_eq_true rfl, Nat.le_of_ble_eq_true rfl⟩) (fun r1 hw => ?_)
  obtain ⟨b1, hw⟩ := hw
  refine lv_if_eq (tgt := 17) hx hb dX1_tryDraw_5 (by decide) (fun c2 => ?_) (fun c2 => ?_)
  · have hw := hw.1 c2
    refine lv_iconst (v := (0 : Int32)) hx hb dX1_tryDraw_17 (by decide) ?_
    exact W.zret (v := (0 : Int32)) hx hb hr rfl (fun t ht hW => ⟨⟨(0 : Int32), (L), rfl, ⟨Or.inl rfl, hw⟩, by rw [ht]; exact hP, hD⟩, hS.F ht⟩) hS.2.2 dX1_tryDraw_18 hlocks
  · have hw := hw.2 c2
    refine lv_aload_n hx hb dX1_tryDraw_8 rfl (lv_at hl 0 rfl) ?_
    refine va_get (D := D) (ci := 1) (v := .int (L.1 0 3)) (C := RX1) (T := TX1) (N := 13) hx hb hts (h_X1_X1_tryDraw) hown hK hP 0 rfl rfl 3 (by decide) (z_w hts 1 rfl) (fun _ h9 => h9) rfl dX1_tryDraw_9 ?_
    refine lv_bipush (v := (40 : Int32)) hx hb dX1_tryDraw_12 (by decide) ?_
    refine lv_icmp_lt (tgt := 19) hx hb dX1_tryDraw_14 (by decide) (fun c3 => ?_) (fun c3 => ?_)
    · have hw := hw.1 c3
      refine lv_aload_n hx hb dX1_tryDraw_19 rfl (lv_at hl 0 rfl) ?_
      refine lv_iload_n hx hb dX1_tryDraw_20 rfl (lv_at hl 1 rfl) ?_
      have hFc := va_free (wc := w_Line cs q L) hD hS hA [0, 1, 2, 3, 4, 5, 6, 7, 8, 9] rfl
      refine va_calli (va_runV (As := [.int x1]) (rest := []) ⟨hx, hb, hml, hown, hts⟩ (c_X1_drawFrom l D cs q H.size L x1 _ hw) (cwV 1 hts gX1_tryDraw_X1_drawFrom rfl rfl rfl (by decide +kernel) ⟨Nat.le_of_ble_eq_true rfl, Nat.le_of_ble_eq_true rfl⟩) (PC_V hP hD hKK 0 1 rfl rfl) rfl rfl hl.1 rfl (lv_room (Nat.le_of_ble_eq_true rfl)) dX1_tryDraw_21 ⟨Nat.le_of_ble_eq_true rfl, Nat.le_of_ble_eq_true rfl⟩) hS (fun q _ h => hFc q h) hFc (fun r4 u4 t H locs ht hvm hw hB hz1 hk1 hS => ?_)
      obtain ⟨hP1, hD1⟩ := hB
      rw [ht] at hP1
      have hD : va_D A (w_Line cs q u4) := hD1.weaken (fun k q _ h => hFc q.1 h)
      have hP : va_P D vwCl (w_Line cs q u4) H := hP1
      refine lv_pop hx hb dX1_tryDraw_24 rfl ?_
      refine lv_iconst (v := (1 : Int32)) hx hb dX1_tryDraw_25 (by decide) ?_
      exact W.zret (v := (1 : Int32)) hx hb hr rfl (fun t ht hW => ⟨⟨(1 : Int32), (u4), rfl, ⟨Or.inr rfl, hw⟩, by rw [ht]; exact hP, hD⟩, hS.F ht⟩) hS.2.2 dX1_tryDraw_26 hlocks
    · have hw := hw.2 c3
      refine lv_iconst (v := (0 : Int32)) hx hb dX1_tryDraw_17 (by decide) ?_
      exact W.zret (v := (0 : Int32)) hx hb hr rfl (fun t ht hW => ⟨⟨(0 : Int32), (L), rfl, ⟨Or.inl rfl, hw⟩, by rw [ht]; exact hP, hD⟩, hS.F ht⟩) hS.2.2 dX1_tryDraw_18 hlocks
set_option maxHeartbeats 4000000 in
set_option maxRecDepth 100000 in
theorem c_X1_tryDraw (l : Launch) (D : va_G) (cs : Nat → ClassId) (q : Nat → Nat) (sz : Nat) (L : LnS) (x1 : Int32) (Q : Int32 → LnS → Prop) (hw : wp_X1_tryDraw L x1 Q) : Met l yX1_tryDraw wsX1_tryDraw ({ frames := 3, cells := 0, slots := 0, locals := 68 } : Room) (va_Pc [.ref (q 0), .int x1] (PC D cs (w_Line cs q L) sz)) (va_Qi (fun r (u : LnS) => (r = 0 ∨ r = 1) ∧ Q r u) (fun (u : LnS) t => va_P D vwCl (w_Line cs q u) t.heap ∧ va_D (va_A (w_Line cs q L) sz) (w_Line cs q u)) (va_A (w_Line cs q L) sz)) 0 0 (va_A (w_Line cs q L) sz) := by
  refine Met.ofW (cc := cX1_tryDraw) (maxL := 2) (ret := (some .boolean)) (by decide) rfl ?_
  intro p e s m args below meth c s₁ B hml hv
  obtain ⟨rfl, hsz, hP, hKK, hD0⟩ := hv
  have hC : MAt p s m _ meth c RX1 cX1_tryDraw 2 (some .boolean) wsX1_tryDraw D cs := ⟨B.exec, B.bytes, B.returns, hml, findClass_of_methodNamed B.named, atoms_spec (ws := wsX1_tryDraw) B.pre, B.notSynchronized, hKK⟩
  have hl := lv_entry ([.ref (q 0), .int x1]) (n := 2) (Nat.le_of_ble_eq_true rfl)
  rw [lg_entry_eq]
  generalize (lg_sl ([.ref (q 0), .int x1]) ++ List.replicate (2 - (lg_sl ([.ref (q 0), .int x1])).length) Slot.unset).toArray = ls at hl ⊢
  subst hsz
  have hD := hD0.self (sz := s.heap.size)
  have hA : ∀ z : Nat, s.heap.size ≤ z → va_A (w_Line cs q L) s.heap.size z := fun z h => Or.inr h
  exact t_X1_tryDraw hC q L x1 Q hA hw s.heap [] hP hD va_S.rf ls hl
theorem h_X1_X1_changePlaces : ∀ w ∈ u_ws RX1 TX1 13, w ∈ wsX1_changePlaces := fun _ h => List.mem_cons_of_mem _ (List.mem_append_right _ h)
set_option maxHeartbeats 4000000 in
set_option maxRecDepth 100000 in
theorem t_X1_changePlaces_2 {p : Program} {l : Launch} {e : Env} {s : State} {m : MethodId} {args : Array Value} {below : List Frame} {meth : Method} {c : Code} {D : va_G} {cs : Nat → ClassId} {A : Nat → Prop} (hC : MAt p s m args meth c RX1 cX1_changePlaces 4 none wsX1_changePlaces D cs) (q : Nat → Nat) (x1 : Int32) (x2 : Int32) (Q : LnS → Prop) (hA : ∀ q : Nat, s.heap.size ≤ q → A q) : ∀ (n : Nat) (L : LnS) (x3 : Int32), wl_X1_changePlaces_2 x1 x2 Q n L x3 → ∀ (H : Heap) (locs : List Loc), va_P D vwCl (w_Line cs q L) H → va_D A (w_Line cs q L) → va_S A s.heap H locs → ∀ ls : Array Slot, lv_has ls 4 [(0, .ref (q 0)), (1, .int x1), (2, .int x2), (3, .int x3)] → W p l e ({ frames := 1, cells := 0, slots := 0, locals := 21 } : Room) s m args below meth c H locs 0 0 (MQ below (va_Qv (fun (u : LnS) => Q u) (fun (u : LnS) t => va_P D vwCl (w_Line cs q u) t.heap ∧ va_D A (w_Line cs q u)) A) args s 0 0 A) (F0 m 2 ls []) := by
  obtain ⟨hx, hb, hr, hml, hown, hts, hlocks, hKK⟩ := id hC
  have hK := hKK.1
  intro n
  induction n with
  | zero =>
    intro L x3 hw
    exact False.elim hw
  | succ n ih =>
    intro L x3 hw H locs hP hD hS ls hl
    refine lv_iload_n hx hb dX1_changePlaces_2 rfl (lv_at hl 3 rfl) ?_
    refine lv_aload_n hx hb dX1_changePlaces_3 rfl (lv_at hl 0 rfl) ?_
    refine va_get (D := D) (ci := 1) (v := .ref (q 1)) (C := RX1) (T := TX1) (N := 13) hx hb hts (h_X1_X1_changePlaces) hown hK hP 0 rfl rfl 4 (by decide) (z_w hts 1 rfl) (fun _ h9 => h9) rfl dX1_changePlaces_4 ?_
    refine lv_iload_n hx hb dX1_changePlaces_7 rfl (lv_at hl 1 rfl) ?_
    obtain ⟨h1, hw⟩ := hw
    refine va_iald hx hb hK hP 1 0 rfl rfl h1 dX1_changePlaces_8 ?_
    refine lv_icmp_ge (tgt := 40) hx hb dX1_changePlaces_9 (by decide) (fun c2 => ?_) (fun c2 => ?_)
    · have hw := hw.1 c2
      refine lv_aload_n hx hb dX1_changePlaces_40 rfl (lv_at hl 0 rfl) ?_
      refine va_get (D := D) (ci := 1) (v := .ref (q 1)) (C := RX1) (T := TX1) (N := 13) hx hb hts (h_X1_X1_changePlaces) hown hK hP 0 rfl rfl 4 (by decide) (z_w hts 1 rfl) (fun _ h9 => h9) rfl dX1_changePlaces_41 ?_
      refine lv_iload_n hx hb dX1_changePlaces_44 rfl (lv_at hl 1 rfl) ?_
      refine lv_iload_n hx hb dX1_changePlaces_45 rfl (lv_at hl 2 rfl) ?_
      obtain ⟨h3, hw⟩ := hw
      refine va_iast hx hb hK hP hD hS 1 0 rfl rfl h3 dX1_changePlaces_46 (fun H locs hP hD hS => ?_)
      have hP : va_P D vwCl (w_Line cs q (lsR L 1 (upd (L.1 1) x1.toNatClampNeg x2))) H := hP
      have hD : va_D A (w_Line cs q (lsR L 1 (upd (L.1 1) x1.toNatClampNeg x2))) := hD
      exact W.vret hx hb hr (fun t ht hW => ⟨⟨(lsR L 1 (upd (L.1 1) x1.toNatClampNeg x2)), rfl, hw, by rw [ht]; exact hP, hD⟩, hS.F ht⟩) hS.2.2 dX1_changePlaces_47 hlocks
    · have hw := hw.2 c2
      refine lv_aload_n hx hb dX1_changePlaces_12 rfl (lv_at hl 0 rfl) ?_
      refine va_get (D := D) (ci := 1) (v := .ref (q 4)) (C := RX1) (T := TX1) (N := 13) hx hb hts (h_X1_X1_changePlaces) hown hK hP 0 rfl rfl 7 (by decide) (z_w hts 2 rfl) (fun _ h9 => h9) rfl dX1_changePlaces_13 ?_
      refine lv_iload_n hx hb dX1_changePlaces_16 rfl (lv_at hl 1 rfl) ?_
      refine lv_iload_n hx hb dX1_changePlaces_17 rfl (lv_at hl 3 rfl) ?_
      have hPc := hP.sub (ws' := ([] : va_W)) [] rfl
      have hDc := hD.sub (ws' := ([] : va_W)) [] (by decide) rfl
      refine z_calli (va_runSN (As := [.int x1, .int x3]) (rest := [.ref (q 4)]) ⟨hx, hb, hml, hown, hts⟩ (c_X3_cellOf l D cs  H.size x1 x3 _ hw) ⟨va_cnB 2 hts gX1_changePlaces_X3_cellOf_n66 rfl rfl rfl hKK.2.2.1 (z_w hts 5 rfl) (by decide +kernel) ⟨Nat.le_of_ble_eq_true rfl, Nat.le_of_ble_eq_true rfl⟩, z_w hts 4 rfl, trivial⟩ (PC_S hPc hDc hKK) rfl rfl hl.1 rfl (lv_room (Nat.le_of_ble_eq_true rfl)) dX1_changePlaces_18 ⟨Nat.le_of_ble_eq_true rfl, Nat.le_of_ble_eq_true rfl⟩) (fun r4 hw => ?_)
      refine lv_iconst (v := (0 : Int32)) hx hb dX1_changePlaces_21 (by decide) ?_
      obtain ⟨h5, hw⟩ := hw
      refine va_iast hx hb hK hP hD hS 4 0 rfl rfl h5 dX1_changePlaces_22 (fun H locs hP hD hS => ?_)
      have hP : va_P D vwCl (w_Line cs q (lsR L 4 (upd (L.1 4) r4.toNatClampNeg (0 : Int32)))) H := hP
      have hD : va_D A (w_Line cs q (lsR L 4 (upd (L.1 4) r4.toNatClampNeg (0 : Int32)))) := hD
      refine lv_aload_n hx hb dX1_changePlaces_23 rfl (lv_at hl 0 rfl) ?_
      refine va_get (D := D) (ci := 1) (v := .ref (q 5)) (C := RX1) (T := TX1) (N := 13) hx hb hts (h_X1_X1_changePlaces) hown hK hP 0 rfl rfl 8 (by decide) (z_w hts 3 rfl) (fun _ h9 => h9) rfl dX1_changePlaces_24 ?_
      refine lv_iload_n hx hb dX1_changePlaces_27 rfl (lv_at hl 1 rfl) ?_
      refine lv_iload_n hx hb dX1_changePlaces_28 rfl (lv_at hl 3 rfl) ?_
      have hPc := hP.sub (ws' := ([] : va_W)) [] rfl
      have hDc := hD.sub (ws' := ([] : va_W)) [] (by decide) rfl
      refine z_calli (va_runSN (As := [.int x1, .int x3]) (rest := [.ref (q 5)]) ⟨hx, hb, hml, hown, hts⟩ (c_X3_cellOf l D cs  H.size x1 x3 _ hw) ⟨va_cnB 2 hts gX1_changePlaces_X3_cellOf_n66 rfl rfl rfl hKK.2.2.1 (z_w hts 5 rfl) (by decide +kernel) ⟨Nat.le_of_ble_eq_true rfl, Nat.le_of_ble_eq_true rfl⟩, z_w hts 4 rfl, trivial⟩ (PC_S hPc hDc hKK) rfl rfl hl.1 rfl (lv_room (Nat.le_of_ble_eq_true rfl)) dX1_changePlaces_29 ⟨Nat.le_of_ble_eq_true rfl, Nat.le_of_ble_eq_true rfl⟩) (fun r6 hw => ?_)
      refine lv_iconst (v := (0 : Int32)) hx hb dX1_changePlaces_32 (by decide) ?_
      obtain ⟨L7, eL7⟩ : ∃ z : LnS, z = (lsR L 4 (upd (L.1 4) r4.toNatClampNeg (0 : Int32))) := ⟨_, rfl⟩
      have hw := hw L7 eL7
      rw [← eL7] at hP hD
      obtain ⟨h8, hw⟩ := hw
      refine va_iast hx hb hK hP hD hS 5 0 rfl rfl h8 dX1_changePlaces_33 (fun H locs hP hD hS => ?_)
      have hP : va_P D vwCl (w_Line cs q (lsR L7 5 (upd (L7.1 5) r6.toNatClampNeg (0 : Int32)))) H := hP
      have hD : va_D A (w_Line cs q (lsR L7 5 (upd (L7.1 5) r6.toNatClampNeg (0 : Int32)))) := hD
      refine lv_iinc (v := x3 + 1) (lv' := [(3, .int (x3 + 1)), (0, .ref (q 0)), (1, .int x1), (2, .int x2)]) hx hb dX1_changePlaces_34 hl (k := 3) rfl rfl (by decide) rfl (fun ls hl => ?_)
      refine lv_goto (tgt := 2) hx hb dX1_changePlaces_37 (by decide) ?_
      exact ih _ _ hw _ _ hP hD hS ls (lv_sub hl [1, 2, 3, 0] rfl)
set_option maxHeartbeats 4000000 in
set_option maxRecDepth 100000 in
theorem t_X1_changePlaces {p : Program} {l : Launch} {e : Env} {s : State} {m : MethodId} {args : Array Value} {below : List Frame} {meth : Method} {c : Code} {D : va_G} {cs : Nat → ClassId} {A : Nat → Prop} (hC : MAt p s m args meth c RX1 cX1_changePlaces 4 none wsX1_changePlaces D cs) (q : Nat → Nat) (L : LnS) (x1 : Int32) (x2 : Int32) (Q : LnS → Prop) (hA : ∀ q : Nat, s.heap.size ≤ q → A q) (hw : wp_X1_changePlaces L x1 x2 Q) (H : Heap) (locs : List Loc) (hP : va_P D vwCl (w_Line cs q L) H) (hD : va_D A (w_Line cs q L)) (hS : va_S A s.heap H locs) (ls : Array Slot) (hl : lv_has ls 4 [(0, .ref (q 0)), (1, .int x1), (2, .int x2)]) : W p l e ({ frames := 1, cells := 0, slots := 0, locals := 21 } : Room) s m args below meth c H locs 0 0 (MQ below (va_Qv (fun (u : LnS) => Q u) (fun (u : LnS) t => va_P D vwCl (w_Line cs q u) t.heap ∧ va_D A (w_Line cs q u)) A) args s 0 0 A) (F0 m 0 ls []) := by
  obtain ⟨hx, hb, hr, hml, hown, hts, hlocks, hKK⟩ := id hC
  have hK := hKK.1
  refine lv_iload_n hx hb dX1_changePlaces_0 rfl (lv_at hl 2 rfl) ?_
  refine lv_istore_n (lv' := [(3, .int x2), (0, .ref (q 0)), (1, .int x1), (2, .int x2)]) hx hb dX1_changePlaces_1 rfl hl (by decide) rfl (fun ls hl => ?_)
  obtain ⟨n9, hw⟩ := hw
  exact t_X1_changePlaces_2 hC q _ _ _ hA n9 _ _ hw H locs hP hD hS ls (lv_sub hl [1, 2, 3, 0] rfl)
set_option maxHeartbeats 4000000 in
set_option maxRecDepth 100000 in
theorem c_X1_changePlaces (l : Launch) (D : va_G) (cs : Nat → ClassId) (q : Nat → Nat) (sz : Nat) (L : LnS) (x1 : Int32) (x2 : Int32) (Q : LnS → Prop) (hw : wp_X1_changePlaces L x1 x2 Q) : Met l yX1_changePlaces wsX1_changePlaces ({ frames := 1, cells := 0, slots := 0, locals := 21 } : Room) (va_Pc [.ref (q 0), .int x1, .int x2] (PC D cs (w_Line cs q L) sz)) (va_Qv (fun (u : LnS) => Q u) (fun (u : LnS) t => va_P D vwCl (w_Line cs q u) t.heap ∧ va_D (va_A (w_Line cs q L) sz) (w_Line cs q u)) (va_A (w_Line cs q L) sz)) 0 0 (va_A (w_Line cs q L) sz) := by
  refine Met.ofW (cc := cX1_changePlaces) (maxL := 4) (ret := none) (by decide) rfl ?_
  intro p e s m args below meth c s₁ B hml hv
  obtain ⟨rfl, hsz, hP, hKK, hD0⟩ := hv
  have hC : MAt p s m _ meth c RX1 cX1_changePlaces 4 none wsX1_changePlaces D cs := ⟨B.exec, B.bytes, B.returns, hml, findClass_of_methodNamed B.named, atoms_spec (ws := wsX1_changePlaces) B.pre, B.notSynchronized, hKK⟩
  have hl := lv_entry ([.ref (q 0), .int x1, .int x2]) (n := 4) (Nat.le_of_ble_eq_true rfl)
  rw [lg_entry_eq]
  generalize (lg_sl ([.ref (q 0), .int x1, .int x2]) ++ List.replicate (4 - (lg_sl ([.ref (q 0), .int x1, .int x2])).length) Slot.unset).toArray = ls at hl ⊢
  subst hsz
  have hD := hD0.self (sz := s.heap.size)
  have hA : ∀ z : Nat, s.heap.size ≤ z → va_A (w_Line cs q L) s.heap.size z := fun z h => Or.inr h
  exact t_X1_changePlaces hC q L x1 x2 Q hA hw s.heap [] hP hD va_S.rf ls hl
theorem h_X1_X1_pourInto : ∀ w ∈ u_ws RX1 TX1 13, w ∈ wsX1_pourInto := fun _ h => List.mem_cons_of_mem _ (List.mem_append_right _ h)
set_option maxHeartbeats 4000000 in
set_option maxRecDepth 100000 in
theorem t_X1_pourInto_2 {p : Program} {l : Launch} {e : Env} {s : State} {m : MethodId} {args : Array Value} {below : List Frame} {meth : Method} {c : Code} {D : va_G} {cs : Nat → ClassId} {A : Nat → Prop} (hC : MAt p s m args meth c RX1 cX1_pourInto 6 none wsX1_pourInto D cs) (q : Nat → Nat) (x1 : Int32) (x2 : Int32) (Q : LnS → Prop) (hA : ∀ q : Nat, s.heap.size ≤ q → A q) : ∀ (n : Nat) (L : LnS) (x3 : Int32), wl_X1_pourInto_2 x1 x2 Q n L x3 → ∀ (H : Heap) (locs : List Loc), va_P D vwCl (w_Line cs q L) H → va_D A (w_Line cs q L) → va_S A s.heap H locs → ∀ ls : Array Slot, lv_has ls 6 [(0, .ref (q 0)), (1, .int x1), (2, .int x2), (3, .int x3)] → W p l e ({ frames := 1, cells := 0, slots := 0, locals := 21 } : Room) s m args below meth c H locs 0 0 (MQ below (va_Qv (fun (u : LnS) => Q u) (fun (u : LnS) t => va_P D vwCl (w_Line cs q u) t.heap ∧ va_D A (w_Line cs q u)) A) args s 0 0 A) (F0 m 2 ls []) := by
  obtain ⟨hx, hb, hr, hml, hown, hts, hlocks, hKK⟩ := id hC
  have hK := hKK.1
  intro n
  induction n with
  | zero =>
    intro L x3 hw
    exact False.elim hw
  | succ n ih =>
    intro L x3 hw H locs hP hD hS ls hl
    refine lv_iload_n hx hb dX1_pourInto_2 rfl (lv_at hl 3 rfl) ?_
    refine lv_aload_n hx hb dX1_pourInto_3 rfl (lv_at hl 0 rfl) ?_
    refine va_get (D := D) (ci := 1) (v := .ref (q 1)) (C := RX1) (T := TX1) (N := 13) hx hb hts (h_X1_X1_pourInto) hown hK hP 0 rfl rfl 4 (by decide) (z_w hts 1 rfl) (fun _ h9 => h9) rfl dX1_pourInto_4 ?_
    refine lv_iload_n hx hb dX1_pourInto_7 rfl (lv_at hl 1 rfl) ?_
    obtain ⟨h1, hw⟩ := hw
    refine va_iald hx hb hK hP 1 0 rfl rfl h1 dX1_pourInto_8 ?_
    refine lv_icmp_ge (tgt := 97) hx hb dX1_pourInto_9 (by decide) (fun c2 => ?_) (fun c2 => ?_)
    · have hw := hw.1 c2
      exact W.vret hx hb hr (fun t ht hW => ⟨⟨(L), rfl, hw, by rw [ht]; exact hP, hD⟩, hS.F ht⟩) hS.2.2 dX1_pourInto_97 hlocks
    · have hw := hw.2 c2
      refine lv_iload_n hx hb dX1_pourInto_12 rfl (lv_at hl 1 rfl) ?_
      refine lv_iload_n hx hb dX1_pourInto_13 rfl (lv_at hl 3 rfl) ?_
      have hPc := hP.sub (ws' := ([] : va_W)) [] rfl
      have hDc := hD.sub (ws' := ([] : va_W)) [] (by decide) rfl
      refine z_calli (va_runSN (As := [.int x1, .int x3]) (rest := []) ⟨hx, hb, hml, hown, hts⟩ (c_X3_cellOf l D cs  H.size x1 x3 _ hw) ⟨va_cnB 2 hts gX1_pourInto_X3_cellOf_n66 rfl rfl rfl hKK.2.2.1 (z_w hts 6 rfl) (by decide +kernel) ⟨Nat.le_of_ble_eq_true rfl, Nat.le_of_ble_eq_true rfl⟩, z_w hts 5 rfl, trivial⟩ (PC_S hPc hDc hKK) rfl rfl hl.1 rfl (lv_room (Nat.le_of_ble_eq_true rfl)) dX1_pourInto_14 ⟨Nat.le_of_ble_eq_true rfl, Nat.le_of_ble_eq_true rfl⟩) (fun r3 hw => ?_)
      refine lv_istore (lv' := [(4, .int r3), (0, .ref (q 0)), (1, .int x1), (2, .int x2), (3, .int x3)]) hx hb dX1_pourInto_17 hl (by decide) rfl (fun ls hl => ?_)
      refine lv_aload_n hx hb dX1_pourInto_19 rfl (lv_at hl 1 rfl) ?_
      refine va_get (D := D) (ci := 1) (v := .ref (q 4)) (C := RX1) (T := TX1) (N := 13) hx hb hts (h_X1_X1_pourInto) hown hK hP 0 rfl rfl 7 (by decide) (z_w hts 2 rfl) (fun _ h9 => h9) rfl dX1_pourInto_20 ?_
      refine lv_iload hx hb dX1_pourInto_23 (lv_at hl 0 rfl) ?_
      obtain ⟨h4, hw⟩ := hw
      refine va_iald hx hb hK hP 4 0 rfl rfl h4 dX1_pourInto_25 ?_
      refine lv_aload_n hx hb dX1_pourInto_26 rfl (lv_at hl 1 rfl) ?_
      refine va_get (D := D) (ci := 1) (v := .ref (q 5)) (C := RX1) (T := TX1) (N := 13) hx hb hts (h_X1_X1_pourInto) hown hK hP 0 rfl rfl 8 (by decide) (z_w hts 3 rfl) (fun _ h9 => h9) rfl dX1_pourInto_27 ?_
      refine lv_iload hx hb dX1_pourInto_30 (lv_at hl 0 rfl) ?_
      obtain ⟨h5, hw⟩ := hw
      refine va_iald hx hb hK hP 5 0 rfl rfl h5 dX1_pourInto_32 ?_
      refine lv_iadd hx hb dX1_pourInto_33 ?_
      refine lv_topi (fun y6 ey6 => ?_)
      have hw := hw y6 ey6
      refine lv_istore (lv' := [(5, .int y6), (4, .int r3), (0, .ref (q 0)), (1, .int x1), (2, .int x2), (3, .int x3)]) hx hb dX1_pourInto_34 hl (by decide) rfl (fun ls hl => ?_)
      refine lv_aload_n hx hb dX1_pourInto_36 rfl (lv_at hl 2 rfl) ?_
      refine va_get (D := D) (ci := 1) (v := .ref (q 4)) (C := RX1) (T := TX1) (N := 13) hx hb hts (h_X1_X1_pourInto) hown hK hP 0 rfl rfl 7 (by decide) (z_w hts 2 rfl) (fun _ h9 => h9) rfl dX1_pourInto_37 ?_
      refine lv_iload hx hb dX1_pourInto_40 (lv_at hl 1 rfl) ?_
      refine lv_iconst (v := (0 : Int32)) hx hb dX1_pourInto_42 (by decide) ?_
      obtain ⟨h7, hw⟩ := hw
      refine va_iast hx hb hK hP hD hS 4 0 rfl rfl h7 dX1_pourInto_43 (fun H locs hP hD hS => ?_)
      have hP : va_P D vwCl (w_Line cs q (lsR L 4 (upd (L.1 4) r3.toNatClampNeg (0 : Int32)))) H := hP
      have hD : va_D A (w_Line cs q (lsR L 4 (upd (L.1 4) r3.toNatClampNeg (0 : Int32)))) := hD
      refine lv_aload_n hx hb dX1_pourInto_44 rfl (lv_at hl 2 rfl) ?_
      refine va_get (D := D) (ci := 1) (v := .ref (q 5)) (C := RX1) (T := TX1) (N := 13) hx hb hts (h_X1_X1_pourInto) hown hK hP 0 rfl rfl 8 (by decide) (z_w hts 3 rfl) (fun _ h9 => h9) rfl dX1_pourInto_45 ?_
      refine lv_iload hx hb dX1_pourInto_48 (lv_at hl 1 rfl) ?_
      refine lv_iconst (v := (0 : Int32)) hx hb dX1_pourInto_50 (by decide) ?_
      obtain ⟨L8, eL8⟩ : ∃ z : LnS, z = (lsR L 4 (upd (L.1 4) r3.toNatClampNeg (0 : Int32))) := ⟨_, rfl⟩
      have hw := hw L8 eL8
      rw [← eL8] at hP hD
      obtain ⟨h9, hw⟩ := hw
      refine va_iast hx hb hK hP hD hS 5 0 rfl rfl h9 dX1_pourInto_51 (fun H locs hP hD hS => ?_)
      have hP : va_P D vwCl (w_Line cs q (lsR L8 5 (upd (L8.1 5) r3.toNatClampNeg (0 : Int32)))) H := hP
      have hD : va_D A (w_Line cs q (lsR L8 5 (upd (L8.1 5) r3.toNatClampNeg (0 : Int32)))) := hD
      refine lv_iload_n hx hb dX1_pourInto_52 rfl (lv_at hl 5 rfl) ?_
      refine lv_aload_n hx hb dX1_pourInto_53 rfl (lv_at hl 2 rfl) ?_
      refine va_get (D := D) (ci := 1) (v := .ref (q 1)) (C := RX1) (T := TX1) (N := 13) hx hb hts (h_X1_X1_pourInto) hown hK hP 0 rfl rfl 4 (by decide) (z_w hts 1 rfl) (fun _ h9 => h9) rfl dX1_pourInto_54 ?_
      refine lv_iload_n hx hb dX1_pourInto_57 rfl (lv_at hl 4 rfl) ?_
      obtain ⟨h10, hw⟩ := hw
      refine va_iald hx hb hK hP 1 0 rfl rfl h10 dX1_pourInto_58 ?_
      refine lv_icmp_ge (tgt := 80) hx hb dX1_pourInto_59 (by decide) (fun c11 => ?_) (fun c11 => ?_)
      · have hw := hw.1 c11
        refine lv_aload_n hx hb dX1_pourInto_80 rfl (lv_at hl 2 rfl) ?_
        refine va_get (D := D) (ci := 1) (v := .ref (q 3)) (C := RX1) (T := TX1) (N := 13) hx hb hts (h_X1_X1_pourInto) hown hK hP 0 rfl rfl 6 (by decide) (z_w hts 4 rfl) (fun _ h9 => h9) rfl dX1_pourInto_81 ?_
        refine lv_iload_n hx hb dX1_pourInto_84 rfl (lv_at hl 4 rfl) ?_
        refine lv_dup2_11 hx hb dX1_pourInto_85 rfl rfl ?_
        obtain ⟨h12, hw⟩ := hw
        refine va_iald hx hb hK hP 3 0 rfl rfl h12 dX1_pourInto_86 ?_
        refine lv_iload hx hb dX1_pourInto_87 (lv_at hl 0 rfl) ?_
        refine lv_iadd hx hb dX1_pourInto_89 ?_
        obtain ⟨L13, eL13⟩ : ∃ z : LnS, z = (lsR L8 5 (upd (L8.1 5) r3.toNatClampNeg (0 : Int32))) := ⟨_, rfl⟩
        have hw := hw L13 eL13
        rw [← eL13] at hP hD
        obtain ⟨h14, hw⟩ := hw
        refine va_iast hx hb hK hP hD hS 3 0 rfl rfl h14 dX1_pourInto_90 (fun H locs hP hD hS => ?_)
        have hP : va_P D vwCl (w_Line cs q (lsR L13 3 (upd (L13.1 3) x2.toNatClampNeg ((L8.1 3 x2.toNatClampNeg) + y6)))) H := hP
        have hD : va_D A (w_Line cs q (lsR L13 3 (upd (L13.1 3) x2.toNatClampNeg ((L8.1 3 x2.toNatClampNeg) + y6)))) := hD
        refine lv_iinc (v := x3 + 1) (lv' := [(3, .int (x3 + 1)), (5, .int y6), (4, .int r3), (0, .ref (q 0)), (1, .int x1), (2, .int x2)]) hx hb dX1_pourInto_91 hl (k := 5) rfl rfl (by decide) rfl (fun ls hl => ?_)
        refine lv_goto (tgt := 2) hx hb dX1_pourInto_94 (by decide) ?_
        exact ih _ _ hw _ _ hP hD hS ls (lv_sub hl [3, 4, 5, 0] rfl)
      · have hw := hw.2 c11
        refine lv_aload_n hx hb dX1_pourInto_62 rfl (lv_at hl 2 rfl) ?_
        refine va_get (D := D) (ci := 1) (v := .ref (q 5)) (C := RX1) (T := TX1) (N := 13) hx hb hts (h_X1_X1_pourInto) hown hK hP 0 rfl rfl 8 (by decide) (z_w hts 3 rfl) (fun _ h9 => h9) rfl dX1_pourInto_63 ?_
        refine lv_iload_n hx hb dX1_pourInto_66 rfl (lv_at hl 4 rfl) ?_
        refine lv_iload_n hx hb dX1_pourInto_67 rfl (lv_at hl 5 rfl) ?_
        have hPc := hP.sub (ws' := ([] : va_W)) [] rfl
        have hDc := hD.sub (ws' := ([] : va_W)) [] (by decide) rfl
        refine z_calli (va_runSN (As := [.int x2, .int x3]) (rest := [.ref (q 5)]) ⟨hx, hb, hml, hown, hts⟩ (c_X3_cellOf l D cs  H.size x2 x3 _ hw) ⟨va_cnB 2 hts gX1_pourInto_X3_cellOf_n66 rfl rfl rfl hKK.2.2.1 (z_w hts 6 rfl) (by decide +kernel) ⟨Nat.le_of_ble_eq_true rfl, Nat.le_of_ble_eq_true rfl⟩, z_w hts 5 rfl, trivial⟩ (PC_S hPc hDc hKK) rfl rfl hl.1 rfl (lv_room (Nat.le_of_ble_eq_true rfl)) dX1_pourInto_68 ⟨Nat.le_of_ble_eq_true rfl, Nat.le_of_ble_eq_true rfl⟩) (fun r15 hw => ?_)
        refine lv_dup2_11 hx hb dX1_pourInto_71 rfl rfl ?_
        obtain ⟨h16, hw⟩ := hw
        refine va_iald hx hb hK hP 5 0 rfl rfl h16 dX1_pourInto_72 ?_
        refine lv_iload hx hb dX1_pourInto_73 (lv_at hl 0 rfl) ?_
        refine lv_iadd hx hb dX1_pourInto_75 ?_
        obtain ⟨L17, eL17⟩ : ∃ z : LnS, z = (lsR L8 5 (upd (L8.1 5) r3.toNatClampNeg (0 : Int32))) := ⟨_, rfl⟩
        have hw := hw L17 eL17
        rw [← eL17] at hP hD
        obtain ⟨h18, hw⟩ := hw
        refine va_iast hx hb hK hP hD hS 5 0 rfl rfl h18 dX1_pourInto_76 (fun H locs hP hD hS => ?_)
        have hP : va_P D vwCl (w_Line cs q (lsR L17 5 (upd (L17.1 5) r15.toNatClampNeg ((upd (L8.1 5) r3.toNatClampNeg (0 : Int32) r15.toNatClampNeg) + y6)))) H := hP
        have hD : va_D A (w_Line cs q (lsR L17 5 (upd (L17.1 5) r15.toNatClampNeg ((upd (L8.1 5) r3.toNatClampNeg (0 : Int32) r15.toNatClampNeg) + y6)))) := hD
        refine lv_goto (tgt := 91) hx hb dX1_pourInto_77 (by decide) ?_
        refine lv_iinc (v := x3 + 1) (lv' := [(3, .int (x3 + 1)), (5, .int y6), (4, .int r3), (0, .ref (q 0)), (1, .int x1), (2, .int x2)]) hx hb dX1_pourInto_91 hl (k := 5) rfl rfl (by decide) rfl (fun ls hl => ?_)
        refine lv_goto (tgt := 2) hx hb dX1_pourInto_94 (by decide) ?_
        exact ih _ _ hw _ _ hP hD hS ls (lv_sub hl [3, 4, 5, 0] rfl)
set_option maxHeartbeats 4000000 in
set_option maxRecDepth 100000 in
theorem t_X1_pourInto {p : Program} {l : Launch} {e : Env} {s : State} {m : MethodId} {args : Array Value} {below : List Frame} {meth : Method} {c : Code} {D : va_G} {cs : Nat → ClassId} {A : Nat → Prop} (hC : MAt p s m args meth c RX1 cX1_pourInto 6 none wsX1_pourInto D cs) (q : Nat → Nat) (L : LnS) (x1 : Int32) (x2 : Int32) (Q : LnS → Prop) (hA : ∀ q : Nat, s.heap.size ≤ q → A q) (hw : wp_X1_pourInto L x1 x2 Q) (H : Heap) (locs : List Loc) (hP : va_P D vwCl (w_Line cs q L) H) (hD : va_D A (w_Line cs q L)) (hS : va_S A s.heap H locs) (ls : Array Slot) (hl : lv_has ls 6 [(0, .ref (q 0)), (1, .int x1), (2, .int x2)]) : W p l e ({ frames := 1, cells := 0, slots := 0, locals := 21 } : Room) s m args below meth c H locs 0 0 (MQ below (va_Qv (fun (u : LnS) => Q u) (fun (u : LnS) t => va_P D vwCl (w_Line cs q u) t.heap ∧ va_D A (w_Line cs q u)) A) args s 0 0 A) (F0 m 0 ls []) := by
  obtain ⟨hx, hb, hr, hml, hown, hts, hlocks, hKK⟩ := id hC
  have hK := hKK.1
  refine lv_iconst (v := (0 : Int32)) hx hb dX1_pourInto_0 (by decide) ?_
  refine lv_istore_n (lv' := [(3, .int (0 : Int32)), (0, .ref (q 0)), (1, .int x1), (2, .int x2)]) hx hb dX1_pourInto_1 rfl hl (by decide) rfl (fun ls hl => ?_)
  obtain ⟨n19, hw⟩ := hw
  exact t_X1_pourInto_2 hC q _ _ _ hA n19 _ _ hw H locs hP hD hS ls (lv_sub hl [1, 2, 3, 0] rfl)
set_option maxHeartbeats 4000000 in
set_option maxRecDepth 100000 in
theorem c_X1_pourInto (l : Launch) (D : va_G) (cs : Nat → ClassId) (q : Nat → Nat) (sz : Nat) (L : LnS) (x1 : Int32) (x2 : Int32) (Q : LnS → Prop) (hw : wp_X1_pourInto L x1 x2 Q) : Met l yX1_pourInto wsX1_pourInto ({ frames := 1, cells := 0, slots := 0, locals := 21 } : Room) (va_Pc [.ref (q 0), .int x1, .int x2] (PC D cs (w_Line cs q L) sz)) (va_Qv (fun (u : LnS) => Q u) (fun (u : LnS) t => va_P D vwCl (w_Line cs q u) t.heap ∧ va_D (va_A (w_Line cs q L) sz) (w_Line cs q u)) (va_A (w_Line cs q L) sz)) 0 0 (va_A (w_Line cs q L) sz) := by
  refine Met.ofW (cc := cX1_pourInto) (maxL := 6) (ret := none) (by decide) rfl ?_
  intro p e s m args below meth c s₁ B hml hv
  obtain ⟨rfl, hsz, hP, hKK, hD0⟩ := hv
  have hC : MAt p s m _ meth c RX1 cX1_pourInto 6 none wsX1_pourInto D cs := ⟨B.exec, B.bytes, B.returns, hml, findClass_of_methodNamed B.named, atoms_spec (ws := wsX1_pourInto) B.pre, B.notSynchronized, hKK⟩
  have hl := lv_entry ([.ref (q 0), .int x1, .int x2]) (n := 6) (Nat.le_of_ble_eq_true rfl)
  rw [lg_entry_eq]
  generalize (lg_sl ([.ref (q 0), .int x1, .int x2]) ++ List.replicate (6 - (lg_sl ([.ref (q 0), .int x1, .int x2])).length) Slot.unset).toArray = ls at hl ⊢
  subst hsz
  have hD := hD0.self (sz := s.heap.size)
  have hA : ∀ z : Nat, s.heap.size ≤ z → va_A (w_Line cs q L) s.heap.size z := fun z h => Or.inr h
  exact t_X1_pourInto hC q L x1 x2 Q hA hw s.heap [] hP hD va_S.rf ls hl
set_option maxHeartbeats 4000000 in
set_option maxRecDepth 100000 in
theorem t_X1_tryPour {p : Program} {l : Launch} {e : Env} {s : State} {m : MethodId} {args : Array Value} {below : List Frame} {meth : Method} {c : Code} {D : va_G} {cs : Nat → ClassId} {A : Nat → Prop} (hC : MAt p s m args meth c RX1 cX1_tryPour 3 none wsX1_tryPour D cs) (q : Nat → Nat) (L : LnS) (x1 : Int32) (x2 : Int32) (Q : LnS → Prop) (hA : ∀ q : Nat, s.heap.size ≤ q → A q) (hw : wp_X1_tryPour L x1 x2 Q) (H : Heap) (locs : List Loc) (hP : va_P D vwCl (w_Line cs q L) H) (hD : va_D A (w_Line cs q L)) (hS : va_S A s.heap H locs) (ls : Array Slot) (hl : lv_has ls 3 [(0, .ref (q 0)), (1, .int x1), (2, .int x2)]) : W p l e ({ frames := 2, cells := 0, slots := 0, locals := 46 } : Room) s m args below meth c H locs 0 0 (MQ below (va_Qv (fun (u : LnS) => Q u) (fun (u : LnS) t => va_P D vwCl (w_Line cs q u) t.heap ∧ va_D A (w_Line cs q u)) A) args s 0 0 A) (F0 m 0 ls []) := by
  obtain ⟨hx, hb, hr, hml, hown, hts, hlocks, hKK⟩ := id hC
  have hK := hKK.1
  refine lv_aload_n hx hb dX1_tryPour_0 rfl (lv_at hl 0 rfl) ?_
  refine lv_iload_n hx hb dX1_tryPour_1 rfl (lv_at hl 1 rfl) ?_
  refine z_calli (va_runV (As := [.int x1]) (rest := []) ⟨hx, hb, hml, hown, hts⟩ (c_X1_hasCounter l D cs q H.size L x1 _ hw) (cwV 1 hts gX1_tryPour_X1_hasCounter rfl rfl rfl (by decide +kernel) ⟨Nat.le_of_ble_eq_true rfl, Nat.le_of_ble_eq_true rfl⟩) (PC_V hP hD hKK 0 1 rfl rfl) rfl rfl hl.1 rfl (lv_room (Nat.le_of_ble_eq_true rfl)) dX1_tryPour_2 ⟨Nat.le_of_ble_eq_true rfl, Nat.le_of_ble_eq_true rfl⟩) (fun r1 hw => ?_)
  obtain ⟨b1, hw⟩ := hw
  refine lv_if_eq (tgt := 27) hx hb dX1_tryPour_5 (by decide) (fun c2 => ?_) (fun c2 => ?_)
  · have hw := hw.1 c2
    exact W.vret hx hb hr (fun t ht hW => ⟨⟨(L), rfl, hw, by rw [ht]; exact hP, hD⟩, hS.F ht⟩) hS.2.2 dX1_tryPour_27 hlocks
  · have hw := hw.2 c2
    refine lv_aload_n hx hb dX1_tryPour_8 rfl (lv_at hl 0 rfl) ?_
    refine lv_iload_n hx hb dX1_tryPour_9 rfl (lv_at hl 2 rfl) ?_
    refine z_calli (va_runV (As := [.int x2]) (rest := []) ⟨hx, hb, hml, hown, hts⟩ (c_X1_hasCounter l D cs q H.size L x2 _ hw) (cwV 1 hts gX1_tryPour_X1_hasCounter rfl rfl rfl (by decide +kernel) ⟨Nat.le_of_ble_eq_true rfl, Nat.le_of_ble_eq_true rfl⟩) (PC_V hP hD hKK 0 1 rfl rfl) rfl rfl hl.1 rfl (lv_room (Nat.le_of_ble_eq_true rfl)) dX1_tryPour_10 ⟨Nat.le_of_ble_eq_true rfl, Nat.le_of_ble_eq_true rfl⟩) (fun r3 hw => ?_)
    obtain ⟨b3, hw⟩ := hw
    refine lv_if_eq (tgt := 27) hx hb dX1_tryPour_13 (by decide) (fun c4 => ?_) (fun c4 => ?_)
    · have hw := hw.1 c4
      exact W.vret hx hb hr (fun t ht hW => ⟨⟨(L), rfl, hw, by rw [ht]; exact hP, hD⟩, hS.F ht⟩) hS.2.2 dX1_tryPour_27 hlocks
    · have hw := hw.2 c4
      refine lv_iload_n hx hb dX1_tryPour_16 rfl (lv_at hl 1 rfl) ?_
      refine lv_iload_n hx hb dX1_tryPour_17 rfl (lv_at hl 2 rfl) ?_
      refine lv_icmp_eq (tgt := 27) hx hb dX1_tryPour_18 (by decide) (fun c5 => ?_) (fun c5 => ?_)
      · have hw := hw.1 c5
        exact W.vret hx hb hr (fun t ht hW => ⟨⟨(L), rfl, hw, by rw [ht]; exact hP, hD⟩, hS.F ht⟩) hS.2.2 dX1_tryPour_27 hlocks
      · have hw := hw.2 c5
        refine lv_aload_n hx hb dX1_tryPour_21 rfl (lv_at hl 0 rfl) ?_
        refine lv_iload_n hx hb dX1_tryPour_22 rfl (lv_at hl 1 rfl) ?_
        refine lv_iload_n hx hb dX1_tryPour_23 rfl (lv_at hl 2 rfl) ?_
        have hFc := va_free (wc := w_Line cs q L) hD hS hA [0, 1, 2, 3, 4, 5, 6, 7, 8, 9] rfl
        refine va_callv (va_runV (As := [.int x1, .int x2]) (rest := []) ⟨hx, hb, hml, hown, hts⟩ (c_X1_pourInto l D cs q H.size L x1 x2 _ hw) (cwV 2 hts gX1_tryPour_X1_pourInto rfl rfl rfl (by decide +kernel) ⟨Nat.le_of_ble_eq_true rfl, Nat.le_of_ble_eq_true rfl⟩) (PC_V hP hD hKK 0 1 rfl rfl) rfl rfl hl.1 rfl (lv_room (Nat.le_of_ble_eq_true rfl)) dX1_tryPour_24 ⟨Nat.le_of_ble_eq_true rfl, Nat.le_of_ble_eq_true rfl⟩) hS (fun q _ h => hFc q h) hFc (fun u6 t H locs ht hvm hw hB hz1 hk1 hS => ?_)
        obtain ⟨hP1, hD1⟩ := hB
        rw [ht] at hP1
        have hD : va_D A (w_Line cs q u6) := hD1.weaken (fun k q _ h => hFc q.1 h)
        have hP : va_P D vwCl (w_Line cs q u6) H := hP1
        exact W.vret hx hb hr (fun t ht hW => ⟨⟨(u6), rfl, hw, by rw [ht]; exact hP, hD⟩, hS.F ht⟩) hS.2.2 dX1_tryPour_27 hlocks
set_option maxHeartbeats 4000000 in
set_option maxRecDepth 100000 in
theorem c_X1_tryPour (l : Launch) (D : va_G) (cs : Nat → ClassId) (q : Nat → Nat) (sz : Nat) (L : LnS) (x1 : Int32) (x2 : Int32) (Q : LnS → Prop) (hw : wp_X1_tryPour L x1 x2 Q) : Met l yX1_tryPour wsX1_tryPour ({ frames := 2, cells := 0, slots := 0, locals := 46 } : Room) (va_Pc [.ref (q 0), .int x1, .int x2] (PC D cs (w_Line cs q L) sz)) (va_Qv (fun (u : LnS) => Q u) (fun (u : LnS) t => va_P D vwCl (w_Line cs q u) t.heap ∧ va_D (va_A (w_Line cs q L) sz) (w_Line cs q u)) (va_A (w_Line cs q L) sz)) 0 0 (va_A (w_Line cs q L) sz) := by
  refine Met.ofW (cc := cX1_tryPour) (maxL := 3) (ret := none) (by decide) rfl ?_
  intro p e s m args below meth c s₁ B hml hv
  obtain ⟨rfl, hsz, hP, hKK, hD0⟩ := hv
  have hC : MAt p s m _ meth c RX1 cX1_tryPour 3 none wsX1_tryPour D cs := ⟨B.exec, B.bytes, B.returns, hml, findClass_of_methodNamed B.named, atoms_spec (ws := wsX1_tryPour) B.pre, B.notSynchronized, hKK⟩
  have hl := lv_entry ([.ref (q 0), .int x1, .int x2]) (n := 3) (Nat.le_of_ble_eq_true rfl)
  rw [lg_entry_eq]
  generalize (lg_sl ([.ref (q 0), .int x1, .int x2]) ++ List.replicate (3 - (lg_sl ([.ref (q 0), .int x1, .int x2])).length) Slot.unset).toArray = ls at hl ⊢
  subst hsz
  have hD := hD0.self (sz := s.heap.size)
  have hA : ∀ z : Nat, s.heap.size ≤ z → va_A (w_Line cs q L) s.heap.size z := fun z h => Or.inr h
  exact t_X1_tryPour hC q L x1 x2 Q hA hw s.heap [] hP hD va_S.rf ls hl
theorem h_X1_X1_handOn : ∀ w ∈ u_ws RX1 TX1 13, w ∈ wsX1_handOn := fun _ h => List.mem_cons_of_mem _ (List.mem_append_right _ h)
set_option maxHeartbeats 4000000 in
set_option maxRecDepth 100000 in
theorem t_X1_handOn {p : Program} {l : Launch} {e : Env} {s : State} {m : MethodId} {args : Array Value} {below : List Frame} {meth : Method} {c : Code} {D : va_G} {cs : Nat → ClassId} {A : Nat → Prop} (hC : MAt p s m args meth c RX1 cX1_handOn 4 none wsX1_handOn D cs) (q : Nat → Nat) (L : LnS) (x1 : Int32) (x2 : Int32) (x3 : Int32) (Q : LnS → Prop) (hA : ∀ q : Nat, s.heap.size ≤ q → A q) (hw : wp_X1_handOn L x1 x2 x3 Q) (H : Heap) (locs : List Loc) (hP : va_P D vwCl (w_Line cs q L) H) (hD : va_D A (w_Line cs q L)) (hS : va_S A s.heap H locs) (ls : Array Slot) (hl : lv_has ls 4 [(0, .ref (q 0)), (1, .int x1), (2, .int x2), (3, .int x3)]) : W p l e ({ frames := 1, cells := 0, slots := 0, locals := 21 } : Room) s m args below meth c H locs 0 0 (MQ below (va_Qv (fun (u : LnS) => Q u) (fun (u : LnS) t => va_P D vwCl (w_Line cs q u) t.heap ∧ va_D A (w_Line cs q u)) A) args s 0 0 A) (F0 m 0 ls []) := by
  obtain ⟨hx, hb, hr, hml, hown, hts, hlocks, hKK⟩ := id hC
  have hK := hKK.1
  refine lv_iload_n hx hb dX1_handOn_0 rfl (lv_at hl 2 rfl) ?_
  refine lv_iconst (v := (1 : Int32)) hx hb dX1_handOn_1 (by decide) ?_
  refine lv_iadd hx hb dX1_handOn_2 ?_
  refine lv_aload_n hx hb dX1_handOn_3 rfl (lv_at hl 0 rfl) ?_
  refine va_get (D := D) (ci := 1) (v := .ref (q 1)) (C := RX1) (T := TX1) (N := 13) hx hb hts (h_X1_X1_handOn) hown hK hP 0 rfl rfl 4 (by decide) (z_w hts 1 rfl) (fun _ h9 => h9) rfl dX1_handOn_4 ?_
  refine lv_iload_n hx hb dX1_handOn_7 rfl (lv_at hl 1 rfl) ?_
  obtain ⟨h1, hw⟩ := hw
  refine va_iald hx hb hK hP 1 0 rfl rfl h1 dX1_handOn_8 ?_
  refine lv_icmp_ge (tgt := 31) hx hb dX1_handOn_9 (by decide) (fun c2 => ?_) (fun c2 => ?_)
  · have hw := hw.1 c2
    refine lv_aload_n hx hb dX1_handOn_31 rfl (lv_at hl 0 rfl) ?_
    refine va_get (D := D) (ci := 1) (v := .ref (q 2)) (C := RX1) (T := TX1) (N := 13) hx hb hts (h_X1_X1_handOn) hown hK hP 0 rfl rfl 5 (by decide) (z_w hts 3 rfl) (fun _ h9 => h9) rfl dX1_handOn_32 ?_
    refine lv_iload_n hx hb dX1_handOn_35 rfl (lv_at hl 1 rfl) ?_
    obtain ⟨h3, hw⟩ := hw
    refine va_zald hx hb hK hP 2 1 rfl rfl h3 dX1_handOn_36 ?_
    refine lv_if_eq (tgt := 67) hx hb dX1_handOn_37 (by decide) (fun c4 => ?_) (fun c4 => ?_)
    · have hw := hw.1 c4
      refine lv_aload_n hx hb dX1_handOn_67 rfl (lv_at hl 0 rfl) ?_
      refine va_get (D := D) (ci := 1) (v := .ref (q 3)) (C := RX1) (T := TX1) (N := 13) hx hb hts (h_X1_X1_handOn) hown hK hP 0 rfl rfl 6 (by decide) (z_w hts 4 rfl) (fun _ h9 => h9) rfl dX1_handOn_68 ?_
      refine lv_iload_n hx hb dX1_handOn_71 rfl (lv_at hl 1 rfl) ?_
      refine lv_dup2_11 hx hb dX1_handOn_72 rfl rfl ?_
      obtain ⟨h5, hw⟩ := hw
      refine va_iald hx hb hK hP 3 0 rfl rfl h5 dX1_handOn_73 ?_
      refine lv_iload_n hx hb dX1_handOn_74 rfl (lv_at hl 3 rfl) ?_
      refine lv_iadd hx hb dX1_handOn_75 ?_
      obtain ⟨h6, hw⟩ := hw
      refine va_iast hx hb hK hP hD hS 3 0 rfl rfl h6 dX1_handOn_76 (fun H locs hP hD hS => ?_)
      have hP : va_P D vwCl (w_Line cs q (lsR L 3 (upd (L.1 3) x1.toNatClampNeg ((L.1 3 x1.toNatClampNeg) + x3)))) H := hP
      have hD : va_D A (w_Line cs q (lsR L 3 (upd (L.1 3) x1.toNatClampNeg ((L.1 3 x1.toNatClampNeg) + x3)))) := hD
      exact W.vret hx hb hr (fun t ht hW => ⟨⟨(lsR L 3 (upd (L.1 3) x1.toNatClampNeg ((L.1 3 x1.toNatClampNeg) + x3))), rfl, hw, by rw [ht]; exact hP, hD⟩, hS.F ht⟩) hS.2.2 dX1_handOn_77 hlocks
    · have hw := hw.2 c4
      refine lv_aload_n hx hb dX1_handOn_40 rfl (lv_at hl 0 rfl) ?_
      refine lv_iload_n hx hb dX1_handOn_41 rfl (lv_at hl 1 rfl) ?_
      refine z_calli (va_runV (As := [.int x1]) (rest := []) ⟨hx, hb, hml, hown, hts⟩ (c_X1_canLink l D cs q H.size L x1 _ hw) (cwV 1 hts gX1_handOn_X1_canLink rfl rfl rfl (by decide +kernel) ⟨Nat.le_of_ble_eq_true rfl, Nat.le_of_ble_eq_true rfl⟩) (PC_V hP hD hKK 0 1 rfl rfl) rfl rfl hl.1 rfl (lv_room (Nat.le_of_ble_eq_true rfl)) dX1_handOn_42 ⟨Nat.le_of_ble_eq_true rfl, Nat.le_of_ble_eq_true rfl⟩) (fun r7 hw => ?_)
      obtain ⟨b7, hw⟩ := hw
      refine lv_if_eq (tgt := 67) hx hb dX1_handOn_45 (by decide) (fun c8 => ?_) (fun c8 => ?_)
      · have hw := hw.1 c8
        refine lv_aload_n hx hb dX1_handOn_67 rfl (lv_at hl 0 rfl) ?_
        refine va_get (D := D) (ci := 1) (v := .ref (q 3)) (C := RX1) (T := TX1) (N := 13) hx hb hts (h_X1_X1_handOn) hown hK hP 0 rfl rfl 6 (by decide) (z_w hts 4 rfl) (fun _ h9 => h9) rfl dX1_handOn_68 ?_
        refine lv_iload_n hx hb dX1_handOn_71 rfl (lv_at hl 1 rfl) ?_
        refine lv_dup2_11 hx hb dX1_handOn_72 rfl rfl ?_
        obtain ⟨h9, hw⟩ := hw
        refine va_iald hx hb hK hP 3 0 rfl rfl h9 dX1_handOn_73 ?_
        refine lv_iload_n hx hb dX1_handOn_74 rfl (lv_at hl 3 rfl) ?_
        refine lv_iadd hx hb dX1_handOn_75 ?_
        obtain ⟨h10, hw⟩ := hw
        refine va_iast hx hb hK hP hD hS 3 0 rfl rfl h10 dX1_handOn_76 (fun H locs hP hD hS => ?_)
        have hP : va_P D vwCl (w_Line cs q (lsR L 3 (upd (L.1 3) x1.toNatClampNeg ((L.1 3 x1.toNatClampNeg) + x3)))) H := hP
        have hD : va_D A (w_Line cs q (lsR L 3 (upd (L.1 3) x1.toNatClampNeg ((L.1 3 x1.toNatClampNeg) + x3)))) := hD
        exact W.vret hx hb hr (fun t ht hW => ⟨⟨(lsR L 3 (upd (L.1 3) x1.toNatClampNeg ((L.1 3 x1.toNatClampNeg) + x3))), rfl, hw, by rw [ht]; exact hP, hD⟩, hS.F ht⟩) hS.2.2 dX1_handOn_77 hlocks
      · have hw := hw.2 c8
        refine lv_aload_n hx hb dX1_handOn_48 rfl (lv_at hl 0 rfl) ?_
        refine va_get (D := D) (ci := 1) (v := .ref (q 5)) (C := RX1) (T := TX1) (N := 13) hx hb hts (h_X1_X1_handOn) hown hK hP 0 rfl rfl 8 (by decide) (z_w hts 2 rfl) (fun _ h9 => h9) rfl dX1_handOn_49 ?_
        refine lv_iload_n hx hb dX1_handOn_52 rfl (lv_at hl 1 rfl) ?_
        refine lv_iconst (v := (1 : Int32)) hx hb dX1_handOn_53 (by decide) ?_
        refine lv_iadd hx hb dX1_handOn_54 ?_
        refine lv_iconst (v := (0 : Int32)) hx hb dX1_handOn_55 (by decide) ?_
        have hPc := hP.sub (ws' := ([] : va_W)) [] rfl
        have hDc := hD.sub (ws' := ([] : va_W)) [] (by decide) rfl
        refine z_calli (va_runSN (As := [.int (x1 + (1 : Int32)), .int (0 : Int32)]) (rest := [.ref (q 5)]) ⟨hx, hb, hml, hown, hts⟩ (c_X3_cellOf l D cs  H.size (x1 + (1 : Int32)) (0 : Int32) _ hw) ⟨va_cnB 2 hts gX1_handOn_X3_cellOf_n66 rfl rfl rfl hKK.2.2.1 (z_w hts 6 rfl) (by decide +kernel) ⟨Nat.le_of_ble_eq_true rfl, Nat.le_of_ble_eq_true rfl⟩, z_w hts 5 rfl, trivial⟩ (PC_S hPc hDc hKK) rfl rfl hl.1 rfl (lv_room (Nat.le_of_ble_eq_true rfl)) dX1_handOn_56 ⟨Nat.le_of_ble_eq_true rfl, Nat.le_of_ble_eq_true rfl⟩) (fun r11 hw => ?_)
        refine lv_dup2_11 hx hb dX1_handOn_59 rfl rfl ?_
        obtain ⟨h12, hw⟩ := hw
        refine va_iald hx hb hK hP 5 0 rfl rfl h12 dX1_handOn_60 ?_
        refine lv_iload_n hx hb dX1_handOn_61 rfl (lv_at hl 3 rfl) ?_
        refine lv_iadd hx hb dX1_handOn_62 ?_
        obtain ⟨h13, hw⟩ := hw
        refine va_iast hx hb hK hP hD hS 5 0 rfl rfl h13 dX1_handOn_63 (fun H locs hP hD hS => ?_)
        have hP : va_P D vwCl (w_Line cs q (lsR L 5 (upd (L.1 5) r11.toNatClampNeg ((L.1 5 r11.toNatClampNeg) + x3)))) H := hP
        have hD : va_D A (w_Line cs q (lsR L 5 (upd (L.1 5) r11.toNatClampNeg ((L.1 5 r11.toNatClampNeg) + x3)))) := hD
        refine lv_goto (tgt := 77) hx hb dX1_handOn_64 (by decide) ?_
        exact W.vret hx hb hr (fun t ht hW => ⟨⟨(lsR L 5 (upd (L.1 5) r11.toNatClampNeg ((L.1 5 r11.toNatClampNeg) + x3))), rfl, hw, by rw [ht]; exact hP, hD⟩, hS.F ht⟩) hS.2.2 dX1_handOn_77 hlocks
  · have hw := hw.2 c2
    refine lv_aload_n hx hb dX1_handOn_12 rfl (lv_at hl 0 rfl) ?_
    refine va_get (D := D) (ci := 1) (v := .ref (q 5)) (C := RX1) (T := TX1) (N := 13) hx hb hts (h_X1_X1_handOn) hown hK hP 0 rfl rfl 8 (by decide) (z_w hts 2 rfl) (fun _ h9 => h9) rfl dX1_handOn_13 ?_
    refine lv_iload_n hx hb dX1_handOn_16 rfl (lv_at hl 1 rfl) ?_
    refine lv_iload_n hx hb dX1_handOn_17 rfl (lv_at hl 2 rfl) ?_
    refine lv_iconst (v := (1 : Int32)) hx hb dX1_handOn_18 (by decide) ?_
    refine lv_iadd hx hb dX1_handOn_19 ?_
    have hPc := hP.sub (ws' := ([] : va_W)) [] rfl
    have hDc := hD.sub (ws' := ([] : va_W)) [] (by decide) rfl
    refine z_calli (va_runSN (As := [.int x1, .int (x2 + (1 : Int32))]) (rest := [.ref (q 5)]) ⟨hx, hb, hml, hown, hts⟩ (c_X3_cellOf l D cs  H.size x1 (x2 + (1 : Int32)) _ hw) ⟨va_cnB 2 hts gX1_handOn_X3_cellOf_n66 rfl rfl rfl hKK.2.2.1 (z_w hts 6 rfl) (by decide +kernel) ⟨Nat.le_of_ble_eq_true rfl, Nat.le_of_ble_eq_true rfl⟩, z_w hts 5 rfl, trivial⟩ (PC_S hPc hDc hKK) rfl rfl hl.1 rfl (lv_room (Nat.le_of_ble_eq_true rfl)) dX1_handOn_20 ⟨Nat.le_of_ble_eq_true rfl, Nat.le_of_ble_eq_true rfl⟩) (fun r14 hw => ?_)
    refine lv_dup2_11 hx hb dX1_handOn_23 rfl rfl ?_
    obtain ⟨h15, hw⟩ := hw
    refine va_iald hx hb hK hP 5 0 rfl rfl h15 dX1_handOn_24 ?_
    refine lv_iload_n hx hb dX1_handOn_25 rfl (lv_at hl 3 rfl) ?_
    refine lv_iadd hx hb dX1_handOn_26 ?_
    obtain ⟨h16, hw⟩ := hw
    refine va_iast hx hb hK hP hD hS 5 0 rfl rfl h16 dX1_handOn_27 (fun H locs hP hD hS => ?_)
    have hP : va_P D vwCl (w_Line cs q (lsR L 5 (upd (L.1 5) r14.toNatClampNeg ((L.1 5 r14.toNatClampNeg) + x3)))) H := hP
    have hD : va_D A (w_Line cs q (lsR L 5 (upd (L.1 5) r14.toNatClampNeg ((L.1 5 r14.toNatClampNeg) + x3)))) := hD
    refine lv_goto (tgt := 77) hx hb dX1_handOn_28 (by decide) ?_
    exact W.vret hx hb hr (fun t ht hW => ⟨⟨(lsR L 5 (upd (L.1 5) r14.toNatClampNeg ((L.1 5 r14.toNatClampNeg) + x3))), rfl, hw, by rw [ht]; exact hP, hD⟩, hS.F ht⟩) hS.2.2 dX1_handOn_77 hlocks
set_option maxHeartbeats 4000000 in
set_option maxRecDepth 100000 in
theorem c_X1_handOn (l : Launch) (D : va_G) (cs : Nat → ClassId) (q : Nat → Nat) (sz : Nat) (L : LnS) (x1 : Int32) (x2 : Int32) (x3 : Int32) (Q : LnS → Prop) (hw : wp_X1_handOn L x1 x2 x3 Q) : Met l yX1_handOn wsX1_handOn ({ frames := 1, cells := 0, slots := 0, locals := 21 } : Room) (va_Pc [.ref (q 0), .int x1, .int x2, .int x3] (PC D cs (w_Line cs q L) sz)) (va_Qv (fun (u : LnS) => Q u) (fun (u : LnS) t => va_P D vwCl (w_Line cs q u) t.heap ∧ va_D (va_A (w_Line cs q L) sz) (w_Line cs q u)) (va_A (w_Line cs q L) sz)) 0 0 (va_A (w_Line cs q L) sz) := by
  refine Met.ofW (cc := cX1_handOn) (maxL := 4) (ret := none) (by decide) rfl ?_
  intro p e s m args below meth c s₁ B hml hv
  obtain ⟨rfl, hsz, hP, hKK, hD0⟩ := hv
  have hC : MAt p s m _ meth c RX1 cX1_handOn 4 none wsX1_handOn D cs := ⟨B.exec, B.bytes, B.returns, hml, findClass_of_methodNamed B.named, atoms_spec (ws := wsX1_handOn) B.pre, B.notSynchronized, hKK⟩
  have hl := lv_entry ([.ref (q 0), .int x1, .int x2, .int x3]) (n := 4) (Nat.le_of_ble_eq_true rfl)
  rw [lg_entry_eq]
  generalize (lg_sl ([.ref (q 0), .int x1, .int x2, .int x3]) ++ List.replicate (4 - (lg_sl ([.ref (q 0), .int x1, .int x2, .int x3])).length) Slot.unset).toArray = ls at hl ⊢
  subst hsz
  have hD := hD0.self (sz := s.heap.size)
  have hA : ∀ z : Nat, s.heap.size ≤ z → va_A (w_Line cs q L) s.heap.size z := fun z h => Or.inr h
  exact t_X1_handOn hC q L x1 x2 x3 Q hA hw s.heap [] hP hD va_S.rf ls hl
theorem h_X1_X1_takeUp : ∀ w ∈ u_ws RX1 TX1 13, w ∈ wsX1_takeUp := fun _ h => List.mem_cons_of_mem _ (List.mem_append_right _ h)
set_option maxHeartbeats 4000000 in
set_option maxRecDepth 100000 in
theorem t_X1_takeUp {p : Program} {l : Launch} {e : Env} {s : State} {m : MethodId} {args : Array Value} {below : List Frame} {meth : Method} {c : Code} {D : va_G} {cs : Nat → ClassId} {A : Nat → Prop} (hC : MAt p s m args meth c RX1 cX1_takeUp 6 none wsX1_takeUp D cs) (q : Nat → Nat) (L : LnS) (x1 : Int32) (x2 : Int32) (Q : LnS → Prop) (hA : ∀ q : Nat, s.heap.size ≤ q → A q) (hw : wp_X1_takeUp L x1 x2 Q) (H : Heap) (locs : List Loc) (hP : va_P D vwCl (w_Line cs q L) H) (hD : va_D A (w_Line cs q L)) (hS : va_S A s.heap H locs) (ls : Array Slot) (hl : lv_has ls 6 [(0, .ref (q 0)), (1, .int x1), (2, .int x2)]) : W p l e ({ frames := 2, cells := 0, slots := 0, locals := 44 } : Room) s m args below meth c H locs 0 0 (MQ below (va_Qv (fun (u : LnS) => Q u) (fun (u : LnS) t => va_P D vwCl (w_Line cs q u) t.heap ∧ va_D A (w_Line cs q u)) A) args s 0 0 A) (F0 m 0 ls []) := by
  obtain ⟨hx, hb, hr, hml, hown, hts, hlocks, hKK⟩ := id hC
  have hK := hKK.1
  refine lv_iload_n hx hb dX1_takeUp_0 rfl (lv_at hl 1 rfl) ?_
  refine lv_iload_n hx hb dX1_takeUp_1 rfl (lv_at hl 2 rfl) ?_
  have hPc := hP.sub (ws' := ([] : va_W)) [] rfl
  have hDc := hD.sub (ws' := ([] : va_W)) [] (by decide) rfl
  refine z_calli (va_runSN (As := [.int x1, .int x2]) (rest := []) ⟨hx, hb, hml, hown, hts⟩ (c_X3_cellOf l D cs  H.size x1 x2 _ hw) ⟨va_cnB 2 hts gX1_takeUp_X3_cellOf_n66 rfl rfl rfl hKK.2.2.1 (z_w hts 12 rfl) (by decide +kernel) ⟨Nat.le_of_ble_eq_true rfl, Nat.le_of_ble_eq_true rfl⟩, z_w hts 11 rfl, trivial⟩ (PC_S hPc hDc hKK) rfl rfl hl.1 rfl (lv_room (Nat.le_of_ble_eq_true rfl)) dX1_takeUp_2 ⟨Nat.le_of_ble_eq_true rfl, Nat.le_of_ble_eq_true rfl⟩) (fun r1 hw => ?_)
  refine lv_istore_n (lv' := [(3, .int r1), (0, .ref (q 0)), (1, .int x1), (2, .int x2)]) hx hb dX1_takeUp_5 rfl hl (by decide) rfl (fun ls hl => ?_)
  refine lv_aload_n hx hb dX1_takeUp_6 rfl (lv_at hl 1 rfl) ?_
  refine va_get (D := D) (ci := 1) (v := .int (L.1 0 1)) (C := RX1) (T := TX1) (N := 13) hx hb hts (h_X1_X1_takeUp) hown hK hP 0 rfl rfl 1 (by decide) (z_w hts 1 rfl) (fun _ h9 => h9) rfl dX1_takeUp_7 ?_
  refine lv_ineg hx hb dX1_takeUp_10 ?_
  refine lv_aload_n hx hb dX1_takeUp_11 rfl (lv_at hl 1 rfl) ?_
  refine va_get (D := D) (ci := 1) (v := .int (L.1 0 1)) (C := RX1) (T := TX1) (N := 13) hx hb hts (h_X1_X1_takeUp) hown hK hP 0 rfl rfl 1 (by decide) (z_w hts 1 rfl) (fun _ h9 => h9) rfl dX1_takeUp_12 ?_
  refine lv_aload_n hx hb dX1_takeUp_15 rfl (lv_at hl 1 rfl) ?_
  refine va_get (D := D) (ci := 1) (v := .ref (q 5)) (C := RX1) (T := TX1) (N := 13) hx hb hts (h_X1_X1_takeUp) hown hK hP 0 rfl rfl 8 (by decide) (z_w hts 2 rfl) (fun _ h9 => h9) rfl dX1_takeUp_16 ?_
  refine lv_iload_n hx hb dX1_takeUp_19 rfl (lv_at hl 0 rfl) ?_
  obtain ⟨h2, hw⟩ := hw
  refine va_iald hx hb hK hP 5 0 rfl rfl h2 dX1_takeUp_20 ?_
  refine va_mmin hx hb (hml.trans hl.1.symm) hown (z_w hts 3 rfl) (z_w hts 4 rfl) (z_w hts 5 rfl) (z_w hts 6 rfl) (Nat.le_of_ble_eq_true rfl) (Nat.le_of_ble_eq_true rfl) (Nat.le_of_ble_eq_true rfl) (Nat.le_of_ble_eq_true rfl) dX1_takeUp_21 ?_
  refine va_mmax hx hb (hml.trans hl.1.symm) hown (z_w hts 7 rfl) (z_w hts 8 rfl) (z_w hts 5 rfl) (z_w hts 9 rfl) (Nat.le_of_ble_eq_true rfl) (Nat.le_of_ble_eq_true rfl) (Nat.le_of_ble_eq_true rfl) (Nat.le_of_ble_eq_true rfl) dX1_takeUp_24 ?_
  refine lv_topi (fun y3 ey3 => ?_)
  have hw := hw y3 ey3
  refine lv_istore (lv' := [(4, .int y3), (3, .int r1), (0, .ref (q 0)), (1, .int x1), (2, .int x2)]) hx hb dX1_takeUp_27 hl (by decide) rfl (fun ls hl => ?_)
  refine lv_aload_n hx hb dX1_takeUp_29 rfl (lv_at hl 2 rfl) ?_
  refine va_get (D := D) (ci := 1) (v := .ref (q 4)) (C := RX1) (T := TX1) (N := 13) hx hb hts (h_X1_X1_takeUp) hown hK hP 0 rfl rfl 7 (by decide) (z_w hts 10 rfl) (fun _ h9 => h9) rfl dX1_takeUp_30 ?_
  refine lv_iload_n hx hb dX1_takeUp_33 rfl (lv_at hl 1 rfl) ?_
  obtain ⟨h4, hw⟩ := hw
  refine va_iald hx hb hK hP 4 0 rfl rfl h4 dX1_takeUp_34 ?_
  refine lv_iload hx hb dX1_takeUp_35 (lv_at hl 0 rfl) ?_
  refine lv_iadd hx hb dX1_takeUp_37 ?_
  refine lv_istore (lv' := [(5, .int ((L.1 4 r1.toNatClampNeg) + y3)), (4, .int y3), (3, .int r1), (0, .ref (q 0)), (1, .int x1), (2, .int x2)]) hx hb dX1_takeUp_38 hl (by decide) rfl (fun ls hl => ?_)
  refine lv_aload_n hx hb dX1_takeUp_40 rfl (lv_at hl 3 rfl) ?_
  refine va_get (D := D) (ci := 1) (v := .ref (q 5)) (C := RX1) (T := TX1) (N := 13) hx hb hts (h_X1_X1_takeUp) hown hK hP 0 rfl rfl 8 (by decide) (z_w hts 2 rfl) (fun _ h9 => h9) rfl dX1_takeUp_41 ?_
  refine lv_iload_n hx hb dX1_takeUp_44 rfl (lv_at hl 2 rfl) ?_
  refine lv_dup2_11 hx hb dX1_takeUp_45 rfl rfl ?_
  obtain ⟨h5, hw⟩ := hw
  refine va_iald hx hb hK hP 5 0 rfl rfl h5 dX1_takeUp_46 ?_
  refine lv_iload hx hb dX1_takeUp_47 (lv_at hl 1 rfl) ?_
  refine lv_isub hx hb dX1_takeUp_49 ?_
  obtain ⟨h6, hw⟩ := hw
  refine va_iast hx hb hK hP hD hS 5 0 rfl rfl h6 dX1_takeUp_50 (fun H locs hP hD hS => ?_)
  have hP : va_P D vwCl (w_Line cs q (lsR L 5 (upd (L.1 5) r1.toNatClampNeg ((L.1 5 r1.toNatClampNeg) - y3)))) H := hP
  have hD : va_D A (w_Line cs q (lsR L 5 (upd (L.1 5) r1.toNatClampNeg ((L.1 5 r1.toNatClampNeg) - y3)))) := hD
  refine lv_aload_n hx hb dX1_takeUp_51 rfl (lv_at hl 3 rfl) ?_
  refine va_get (D := D) (ci := 1) (v := .ref (q 4)) (C := RX1) (T := TX1) (N := 13) hx hb hts (h_X1_X1_takeUp) hown hK hP 0 rfl rfl 7 (by decide) (z_w hts 10 rfl) (fun _ h9 => h9) rfl dX1_takeUp_52 ?_
  refine lv_iload_n hx hb dX1_takeUp_55 rfl (lv_at hl 2 rfl) ?_
  refine lv_iload hx hb dX1_takeUp_56 (lv_at hl 0 rfl) ?_
  refine lv_iconst (v := (3 : Int32)) hx hb dX1_takeUp_58 (by decide) ?_
  have hPc := hP.sub (ws' := ([] : va_W)) [] rfl
  have hDc := hD.sub (ws' := ([] : va_W)) [] (by decide) rfl
  refine z_calli (va_runS (As := [.int ((L.1 4 r1.toNatClampNeg) + y3), .int (3 : Int32)]) (rest := [.int r1, .ref (q 4)]) ⟨hx, hb, hml, hown, hts⟩ (c_J9_floorMod_7cf53 l D cs  H.size ((L.1 4 r1.toNatClampNeg) + y3) (3 : Int32) _ hw) (va_cwS 2 hts gX1_takeUp_J9_floorMod_7cf53 rfl rfl rfl (by decide +kernel) ⟨Nat.le_of_ble_eq_true rfl, Nat.le_of_ble_eq_true rfl⟩) (PC_S hPc hDc hKK) rfl rfl hl.1 rfl (lv_room (Nat.le_of_ble_eq_true rfl)) dX1_takeUp_59 ⟨Nat.le_of_ble_eq_true rfl, Nat.le_of_ble_eq_true rfl⟩) (fun r7 hw => ?_)
  obtain ⟨L8, eL8⟩ : ∃ z : LnS, z = (lsR L 5 (upd (L.1 5) r1.toNatClampNeg ((L.1 5 r1.toNatClampNeg) - y3))) := ⟨_, rfl⟩
  have hw := hw L8 eL8
  rw [← eL8] at hP hD
  obtain ⟨h9, hw⟩ := hw
  refine va_iast hx hb hK hP hD hS 4 0 rfl rfl h9 dX1_takeUp_62 (fun H locs hP hD hS => ?_)
  have hP : va_P D vwCl (w_Line cs q (lsR L8 4 (upd (L8.1 4) r1.toNatClampNeg r7))) H := hP
  have hD : va_D A (w_Line cs q (lsR L8 4 (upd (L8.1 4) r1.toNatClampNeg r7))) := hD
  refine lv_aload_n hx hb dX1_takeUp_63 rfl (lv_at hl 3 rfl) ?_
  refine lv_iload_n hx hb dX1_takeUp_64 rfl (lv_at hl 4 rfl) ?_
  refine lv_iload_n hx hb dX1_takeUp_65 rfl (lv_at hl 5 rfl) ?_
  refine lv_iload hx hb dX1_takeUp_66 (lv_at hl 0 rfl) ?_
  refine lv_iconst (v := (3 : Int32)) hx hb dX1_takeUp_68 (by decide) ?_
  have hPc := hP.sub (ws' := ([] : va_W)) [] rfl
  have hDc := hD.sub (ws' := ([] : va_W)) [] (by decide) rfl
  refine z_calli (va_runS (As := [.int ((L.1 4 r1.toNatClampNeg) + y3), .int (3 : Int32)]) (rest := [.int x2, .int x1, .ref (q 0)]) ⟨hx, hb, hml, hown, hts⟩ (c_J9_floorDiv_7cf53 l D cs  H.size ((L.1 4 r1.toNatClampNeg) + y3) (3 : Int32) _ hw) (va_cwS 2 hts gX1_takeUp_J9_floorDiv_7cf53 rfl rfl rfl (by decide +kernel) ⟨Nat.le_of_ble_eq_true rfl, Nat.le_of_ble_eq_true rfl⟩) (PC_S hPc hDc hKK) rfl rfl hl.1 rfl (lv_room (Nat.le_of_ble_eq_true rfl)) dX1_takeUp_69 ⟨Nat.le_of_ble_eq_true rfl, Nat.le_of_ble_eq_true rfl⟩) (fun r10 hw => ?_)
  have hFc := va_free (wc := w_Line cs q (lsR L8 4 (upd (L8.1 4) r1.toNatClampNeg r7))) hD hS hA [0, 1, 2, 3, 4, 5, 6, 7, 8, 9] rfl
  refine va_callv (va_runV (As := [.int x1, .int x2, .int r10]) (rest := []) ⟨hx, hb, hml, hown, hts⟩ (c_X1_handOn l D cs q H.size (lsR L8 4 (upd (L8.1 4) r1.toNatClampNeg r7)) x1 x2 r10 _ hw) (cwV 3 hts gX1_takeUp_X1_handOn rfl rfl rfl (by decide +kernel) ⟨Nat.le_of_ble_eq_true rfl, Nat.le_of_ble_eq_true rfl⟩) (PC_V hP hD hKK 0 1 rfl rfl) rfl rfl hl.1 rfl (lv_room (Nat.le_of_ble_eq_true rfl)) dX1_takeUp_72 ⟨Nat.le_of_ble_eq_true rfl, Nat.le_of_ble_eq_true rfl⟩) hS (fun q _ h => hFc q h) hFc (fun u11 t H locs ht hvm hw hB hz1 hk1 hS => ?_)
  obtain ⟨hP1, hD1⟩ := hB
  rw [ht] at hP1
  have hD : va_D A (w_Line cs q u11) := hD1.weaken (fun k q _ h => hFc q.1 h)
  have hP : va_P D vwCl (w_Line cs q u11) H := hP1
  exact W.vret hx hb hr (fun t ht hW => ⟨⟨(u11), rfl, hw, by rw [ht]; exact hP, hD⟩, hS.F ht⟩) hS.2.2 dX1_takeUp_75 hlocks
set_option maxHeartbeats 4000000 in
set_option maxRecDepth 100000 in
theorem c_X1_takeUp (l : Launch) (D : va_G) (cs : Nat → ClassId) (q : Nat → Nat) (sz : Nat) (L : LnS) (x1 : Int32) (x2 : Int32) (Q : LnS → Prop) (hw : wp_X1_takeUp L x1 x2 Q) : Met l yX1_takeUp wsX1_takeUp ({ frames := 2, cells := 0, slots := 0, locals := 44 } : Room) (va_Pc [.ref (q 0), .int x1, .int x2] (PC D cs (w_Line cs q L) sz)) (va_Qv (fun (u : LnS) => Q u) (fun (u : LnS) t => va_P D vwCl (w_Line cs q u) t.heap ∧ va_D (va_A (w_Line cs q L) sz) (w_Line cs q u)) (va_A (w_Line cs q L) sz)) 0 0 (va_A (w_Line cs q L) sz) := by
  refine Met.ofW (cc := cX1_takeUp) (maxL := 6) (ret := none) (by decide) rfl ?_
  intro p e s m args below meth c s₁ B hml hv
  obtain ⟨rfl, hsz, hP, hKK, hD0⟩ := hv
  have hC : MAt p s m _ meth c RX1 cX1_takeUp 6 none wsX1_takeUp D cs := ⟨B.exec, B.bytes, B.returns, hml, findClass_of_methodNamed B.named, atoms_spec (ws := wsX1_takeUp) B.pre, B.notSynchronized, hKK⟩
  have hl := lv_entry ([.ref (q 0), .int x1, .int x2]) (n := 6) (Nat.le_of_ble_eq_true rfl)
  rw [lg_entry_eq]
  generalize (lg_sl ([.ref (q 0), .int x1, .int x2]) ++ List.replicate (6 - (lg_sl ([.ref (q 0), .int x1, .int x2])).length) Slot.unset).toArray = ls at hl ⊢
  subst hsz
  have hD := hD0.self (sz := s.heap.size)
  have hA : ∀ z : Nat, s.heap.size ≤ z → va_A (w_Line cs q L) s.heap.size z := fun z h => Or.inr h
  exact t_X1_takeUp hC q L x1 x2 Q hA hw s.heap [] hP hD va_S.rf ls hl
theorem h_X1_X1_passBeat : ∀ w ∈ u_ws RX1 TX1 13, w ∈ wsX1_passBeat := fun _ h => List.mem_cons_of_mem _ (List.mem_append_right _ h)
set_option maxHeartbeats 4000000 in
set_option maxRecDepth 100000 in
theorem t_X1_passBeat_17 {p : Program} {l : Launch} {e : Env} {s : State} {m : MethodId} {args : Array Value} {below : List Frame} {meth : Method} {c : Code} {D : va_G} {cs : Nat → ClassId} {A : Nat → Prop} (hC : MAt p s m args meth c RX1 cX1_passBeat 5 none wsX1_passBeat D cs) (q : Nat → Nat) (x1 : Int32) (x3 : Int32) (Q : LnS → Prop) (E49 : LnS → Prop) (hA : ∀ q : Nat, s.heap.size ≤ q → A q) (hE49 : ∀ (L' : LnS) , E49 L' → ∀ (H : Heap) (locs : List Loc), va_P D vwCl (w_Line cs q L') H → va_D A (w_Line cs q L') → va_S A s.heap H locs → ∀ ls : Array Slot, lv_has ls 5 [(0, .ref (q 0)), (1, .int x1), (3, .int x3)] → W p l e ({ frames := 3, cells := 0, slots := 0, locals := 69 } : Room) s m args below meth c H locs 0 0 (MQ below (va_Qv (fun (u : LnS) => Q u) (fun (u : LnS) t => va_P D vwCl (w_Line cs q u) t.heap ∧ va_D A (w_Line cs q u)) A) args s 0 0 A) (F0 m 49 ls [])) : ∀ (n : Nat) (L : LnS) (x4 : Int32), wl_X1_passBeat_17 x1 x3 Q E49 n L x4 → ∀ (H : Heap) (locs : List Loc), va_P D vwCl (w_Line cs q L) H → va_D A (w_Line cs q L) → va_S A s.heap H locs → ∀ ls : Array Slot, lv_has ls 5 [(0, .ref (q 0)), (1, .int x1), (3, .int x3), (4, .int x4)] → W p l e ({ frames := 3, cells := 0, slots := 0, locals := 69 } : Room) s m args below meth c H locs 0 0 (MQ below (va_Qv (fun (u : LnS) => Q u) (fun (u : LnS) t => va_P D vwCl (w_Line cs q u) t.heap ∧ va_D A (w_Line cs q u)) A) args s 0 0 A) (F0 m 17 ls []) := by
  obtain ⟨hx, hb, hr, hml, hown, hts, hlocks, hKK⟩ := id hC
  have hK := hKK.1
  intro n
  induction n with
  | zero =>
    intro L x4 hw
    exact False.elim hw
  | succ n ih =>
    intro L x4 hw H locs hP hD hS ls hl
    refine lv_iload hx hb dX1_passBeat_17 (lv_at hl 3 rfl) ?_
    refine lv_if_lt (tgt := 49) hx hb dX1_passBeat_19 (by decide) (fun c3 => ?_) (fun c3 => ?_)
    · have hw := hw.1 c3
      exact hE49 _ hw _ _ hP hD hS ls (lv_sub hl [0, 1, 2] rfl)
    · have hw := hw.2 c3
      refine lv_aload_n hx hb dX1_passBeat_22 rfl (lv_at hl 0 rfl) ?_
      refine va_get (D := D) (ci := 1) (v := .ref (q 5)) (C := RX1) (T := TX1) (N := 13) hx hb hts (h_X1_X1_passBeat) hown hK hP 0 rfl rfl 8 (by decide) (z_w hts 2 rfl) (fun _ h9 => h9) rfl dX1_passBeat_23 ?_
      refine lv_iload_n hx hb dX1_passBeat_26 rfl (lv_at hl 2 rfl) ?_
      refine lv_iload hx hb dX1_passBeat_27 (lv_at hl 3 rfl) ?_
      have hPc := hP.sub (ws' := ([] : va_W)) [] rfl
      have hDc := hD.sub (ws' := ([] : va_W)) [] (by decide) rfl
      refine z_calli (va_runSN (As := [.int x3, .int x4]) (rest := [.ref (q 5)]) ⟨hx, hb, hml, hown, hts⟩ (c_X3_cellOf l D cs  H.size x3 x4 _ hw) ⟨va_cnB 2 hts gX1_passBeat_X3_cellOf_n66 rfl rfl rfl hKK.2.2.1 (z_w hts 4 rfl) (by decide +kernel) ⟨Nat.le_of_ble_eq_true rfl, Nat.le_of_ble_eq_true rfl⟩, z_w hts 3 rfl, trivial⟩ (PC_S hPc hDc hKK) rfl rfl hl.1 rfl (lv_room (Nat.le_of_ble_eq_true rfl)) dX1_passBeat_29 ⟨Nat.le_of_ble_eq_true rfl, Nat.le_of_ble_eq_true rfl⟩) (fun r4 hw => ?_)
      obtain ⟨h5, hw⟩ := hw
      refine va_iald hx hb hK hP 5 0 rfl rfl h5 dX1_passBeat_32 ?_
      refine lv_if_eq (tgt := 43) hx hb dX1_passBeat_33 (by decide) (fun c6 => ?_) (fun c6 => ?_)
      · have hw := hw.1 c6
        refine lv_iinc (v := x4 + (-1)) (lv' := [(4, .int (x4 + (-1))), (0, .ref (q 0)), (1, .int x1), (3, .int x3)]) hx hb dX1_passBeat_43 hl (k := 3) rfl rfl (by decide) rfl (fun ls hl => ?_)
        refine lv_goto (tgt := 17) hx hb dX1_passBeat_46 (by decide) ?_
        exact ih _ _ hw _ _ hP hD hS ls (lv_sub hl [1, 2, 3, 0] rfl)
      · have hw := hw.2 c6
        refine lv_aload_n hx hb dX1_passBeat_36 rfl (lv_at hl 0 rfl) ?_
        refine lv_iload_n hx hb dX1_passBeat_37 rfl (lv_at hl 2 rfl) ?_
        refine lv_iload hx hb dX1_passBeat_38 (lv_at hl 3 rfl) ?_
        have hFc := va_free (wc := w_Line cs q L) hD hS hA [0, 1, 2, 3, 4, 5, 6, 7, 8, 9] rfl
        refine va_callv (va_runV (As := [.int x3, .int x4]) (rest := []) ⟨hx, hb, hml, hown, hts⟩ (c_X1_takeUp l D cs q H.size L x3 x4 _ hw) (cwV 2 hts gX1_passBeat_X1_takeUp rfl rfl rfl (by decide +kernel) ⟨Nat.le_of_ble_eq_true rfl, Nat.le_of_ble_eq_true rfl⟩) (PC_V hP hD hKK 0 1 rfl rfl) rfl rfl hl.1 rfl (lv_room (Nat.le_of_ble_eq_true rfl)) dX1_passBeat_40 ⟨Nat.le_of_ble_eq_true rfl, Nat.le_of_ble_eq_true rfl⟩) hS (fun q _ h => hFc q h) hFc (fun u7 t H locs ht hvm hw hB hz1 hk1 hS => ?_)
        obtain ⟨hP1, hD1⟩ := hB
        rw [ht] at hP1
        have hD : va_D A (w_Line cs q u7) := hD1.weaken (fun k q _ h => hFc q.1 h)
        have hP : va_P D vwCl (w_Line cs q u7) H := hP1
        refine lv_iinc (v := x4 + (-1)) (lv' := [(4, .int (x4 + (-1))), (0, .ref (q 0)), (1, .int x1), (3, .int x3)]) hx hb dX1_passBeat_43 hl (k := 3) rfl rfl (by decide) rfl (fun ls hl => ?_)
        refine lv_goto (tgt := 17) hx hb dX1_passBeat_46 (by decide) ?_
        exact ih _ _ hw _ _ hP hD hS ls (lv_sub hl [1, 2, 3, 0] rfl)
set_option maxHeartbeats 4000000 in
set_option maxRecDepth 100000 in
theorem t_X1_passBeat_2 {p : Program} {l : Launch} {e : Env} {s : State} {m : MethodId} {args : Array Value} {below : List Frame} {meth : Method} {c : Code} {D : va_G} {cs : Nat → ClassId} {A : Nat → Prop} (hC : MAt p s m args meth c RX1 cX1_passBeat 5 none wsX1_passBeat D cs) (q : Nat → Nat) (x1 : Int32) (Q : LnS → Prop) (hA : ∀ q : Nat, s.heap.size ≤ q → A q) : ∀ (n : Nat) (L : LnS) (x3 : Int32), wl_X1_passBeat_2 x1 Q n L x3 → ∀ (H : Heap) (locs : List Loc), va_P D vwCl (w_Line cs q L) H → va_D A (w_Line cs q L) → va_S A s.heap H locs → ∀ ls : Array Slot, lv_has ls 5 [(0, .ref (q 0)), (1, .int x1), (3, .int x3)] → W p l e ({ frames := 3, cells := 0, slots := 0, locals := 69 } : Room) s m args below meth c H locs 0 0 (MQ below (va_Qv (fun (u : LnS) => Q u) (fun (u : LnS) t => va_P D vwCl (w_Line cs q u) t.heap ∧ va_D A (w_Line cs q u)) A) args s 0 0 A) (F0 m 2 ls []) := by
  obtain ⟨hx, hb, hr, hml, hown, hts, hlocks, hKK⟩ := id hC
  have hK := hKK.1
  intro n
  induction n with
  | zero =>
    intro L x3 hw
    exact False.elim hw
  | succ n ih =>
    intro L x3 hw H locs hP hD hS ls hl
    refine lv_iload_n hx hb dX1_passBeat_2 rfl (lv_at hl 2 rfl) ?_
    refine lv_iload_n hx hb dX1_passBeat_3 rfl (lv_at hl 1 rfl) ?_
    refine lv_icmp_lt (tgt := 55) hx hb dX1_passBeat_4 (by decide) (fun c1 => ?_) (fun c1 => ?_)
    · have hw := hw.1 c1
      exact W.vret hx hb hr (fun t ht hW => ⟨⟨(L), rfl, hw, by rw [ht]; exact hP, hD⟩, hS.F ht⟩) hS.2.2 dX1_passBeat_55 hlocks
    · have hw := hw.2 c1
      refine lv_aload_n hx hb dX1_passBeat_7 rfl (lv_at hl 0 rfl) ?_
      refine va_get (D := D) (ci := 1) (v := .ref (q 1)) (C := RX1) (T := TX1) (N := 13) hx hb hts (h_X1_X1_passBeat) hown hK hP 0 rfl rfl 4 (by decide) (z_w hts 1 rfl) (fun _ h9 => h9) rfl dX1_passBeat_8 ?_
      refine lv_iload_n hx hb dX1_passBeat_11 rfl (lv_at hl 2 rfl) ?_
      obtain ⟨h2, hw⟩ := hw
      refine va_iald hx hb hK hP 1 0 rfl rfl h2 dX1_passBeat_12 ?_
      refine lv_iconst (v := (1 : Int32)) hx hb dX1_passBeat_13 (by decide) ?_
      refine lv_isub hx hb dX1_passBeat_14 ?_
      refine lv_istore (lv' := [(4, .int ((L.1 1 x3.toNatClampNeg) - (1 : Int32))), (0, .ref (q 0)), (1, .int x1), (3, .int x3)]) hx hb dX1_passBeat_15 hl (by decide) rfl (fun ls hl => ?_)
      obtain ⟨n9, hw⟩ := hw
      refine t_X1_passBeat_17 hC q _ _ _ _ hA ?_ n9 _ _ hw H locs hP hD hS ls (lv_sub hl [1, 2, 3, 0] rfl)
      · intro v8 hw H locs hP hD hS ls hl
        refine lv_iinc (v := x3 + (-1)) (lv' := [(3, .int (x3 + (-1))), (0, .ref (q 0)), (1, .int x1)]) hx hb dX1_passBeat_49 hl (k := 2) rfl rfl (by decide) rfl (fun ls hl => ?_)
        refine lv_goto (tgt := 2) hx hb dX1_passBeat_52 (by decide) ?_
        exact ih _ _ hw _ _ hP hD hS ls (lv_sub hl [1, 2, 0] rfl)
set_option maxHeartbeats 4000000 in
set_option maxRecDepth 100000 in
theorem t_X1_passBeat {p : Program} {l : Launch} {e : Env} {s : State} {m : MethodId} {args : Array Value} {below : List Frame} {meth : Method} {c : Code} {D : va_G} {cs : Nat → ClassId} {A : Nat → Prop} (hC : MAt p s m args meth c RX1 cX1_passBeat 5 none wsX1_passBeat D cs) (q : Nat → Nat) (L : LnS) (x1 : Int32) (x2 : Int32) (Q : LnS → Prop) (hA : ∀ q : Nat, s.heap.size ≤ q → A q) (hw : wp_X1_passBeat L x1 x2 Q) (H : Heap) (locs : List Loc) (hP : va_P D vwCl (w_Line cs q L) H) (hD : va_D A (w_Line cs q L)) (hS : va_S A s.heap H locs) (ls : Array Slot) (hl : lv_has ls 5 [(0, .ref (q 0)), (1, .int x1), (2, .int x2)]) : W p l e ({ frames := 3, cells := 0, slots := 0, locals := 69 } : Room) s m args below meth c H locs 0 0 (MQ below (va_Qv (fun (u : LnS) => Q u) (fun (u : LnS) t => va_P D vwCl (w_Line cs q u) t.heap ∧ va_D A (w_Line cs q u)) A) args s 0 0 A) (F0 m 0 ls []) := by
  obtain ⟨hx, hb, hr, hml, hown, hts, hlocks, hKK⟩ := id hC
  have hK := hKK.1
  refine lv_iload_n hx hb dX1_passBeat_0 rfl (lv_at hl 2 rfl) ?_
  refine lv_istore_n (lv' := [(3, .int x2), (0, .ref (q 0)), (1, .int x1), (2, .int x2)]) hx hb dX1_passBeat_1 rfl hl (by decide) rfl (fun ls hl => ?_)
  obtain ⟨n10, hw⟩ := hw
  exact t_X1_passBeat_2 hC q _ _ hA n10 _ _ hw H locs hP hD hS ls (lv_sub hl [1, 2, 0] rfl)
set_option maxHeartbeats 4000000 in
set_option maxRecDepth 100000 in
theorem c_X1_passBeat (l : Launch) (D : va_G) (cs : Nat → ClassId) (q : Nat → Nat) (sz : Nat) (L : LnS) (x1 : Int32) (x2 : Int32) (Q : LnS → Prop) (hw : wp_X1_passBeat L x1 x2 Q) : Met l yX1_passBeat wsX1_passBeat ({ frames := 3, cells := 0, slots := 0, locals := 69 } : Room) (va_Pc [.ref (q 0), .int x1, .int x2] (PC D cs (w_Line cs q L) sz)) (va_Qv (fun (u : LnS) => Q u) (fun (u : LnS) t => va_P D vwCl (w_Line cs q u) t.heap ∧ va_D (va_A (w_Line cs q L) sz) (w_Line cs q u)) (va_A (w_Line cs q L) sz)) 0 0 (va_A (w_Line cs q L) sz) := by
  refine Met.ofW (cc := cX1_passBeat) (maxL := 5) (ret := none) (by decide) rfl ?_
  intro p e s m args below meth c s₁ B hml hv
  obtain ⟨rfl, hsz, hP, hKK, hD0⟩ := hv
  have hC : MAt p s m _ meth c RX1 cX1_passBeat 5 none wsX1_passBeat D cs := ⟨B.exec, B.bytes, B.returns, hml, findClass_of_methodNamed B.named, atoms_spec (ws := wsX1_passBeat) B.pre, B.notSynchronized, hKK⟩
  have hl := lv_entry ([.ref (q 0), .int x1, .int x2]) (n := 5) (Nat.le_of_ble_eq_true rfl)
  rw [lg_entry_eq]
  generalize (lg_sl ([.ref (q 0), .int x1, .int x2]) ++ List.replicate (5 - (lg_sl ([.ref (q 0), .int x1, .int x2])).length) Slot.unset).toArray = ls at hl ⊢
  subst hsz
  have hD := hD0.self (sz := s.heap.size)
  have hA : ∀ z : Nat, s.heap.size ≤ z → va_A (w_Line cs q L) s.heap.size z := fun z h => Or.inr h
  exact t_X1_passBeat hC q L x1 x2 Q hA hw s.heap [] hP hD va_S.rf ls hl
theorem h_X1_X1_passBeats : ∀ w ∈ u_ws RX1 TX1 13, w ∈ wsX1_passBeats := fun _ h => List.mem_cons_of_mem _ (List.mem_append_right _ h)
set_option maxHeartbeats 4000000 in
set_option maxRecDepth 100000 in
theorem t_X1_passBeats_2 {p : Program} {l : Launch} {e : Env} {s : State} {m : MethodId} {args : Array Value} {below : List Frame} {meth : Method} {c : Code} {D : va_G} {cs : Nat → ClassId} {A : Nat → Prop} (hC : MAt p s m args meth c RX1 cX1_passBeats 3 none wsX1_passBeats D cs) (q : Nat → Nat) (x1 : Int32) (Q : LnS → Prop) (hA : ∀ q : Nat, s.heap.size ≤ q → A q) : ∀ (n : Nat) (L : LnS) (x2 : Int32), wl_X1_passBeats_2 x1 Q n L x2 → ∀ (H : Heap) (locs : List Loc), va_P D vwCl (w_Line cs q L) H → va_D A (w_Line cs q L) → va_S A s.heap H locs → ∀ ls : Array Slot, lv_has ls 3 [(0, .ref (q 0)), (1, .int x1), (2, .int x2)] → W p l e ({ frames := 4, cells := 0, slots := 0, locals := 93 } : Room) s m args below meth c H locs 0 0 (MQ below (va_Qv (fun (u : LnS) => Q u) (fun (u : LnS) t => va_P D vwCl (w_Line cs q u) t.heap ∧ va_D A (w_Line cs q u)) A) args s 0 0 A) (F0 m 2 ls []) := by
  obtain ⟨hx, hb, hr, hml, hown, hts, hlocks, hKK⟩ := id hC
  have hK := hKK.1
  intro n
  induction n with
  | zero =>
    intro L x2 hw
    exact False.elim hw
  | succ n ih =>
    intro L x2 hw H locs hP hD hS ls hl
    refine lv_iload_n hx hb dX1_passBeats_2 rfl (lv_at hl 2 rfl) ?_
    refine lv_iload_n hx hb dX1_passBeats_3 rfl (lv_at hl 1 rfl) ?_
    refine lv_icmp_ge (tgt := 34) hx hb dX1_passBeats_4 (by decide) (fun c1 => ?_) (fun c1 => ?_)
    · have hw := hw.1 c1
      exact W.vret hx hb hr (fun t ht hW => ⟨⟨(L), rfl, hw, by rw [ht]; exact hP, hD⟩, hS.F ht⟩) hS.2.2 dX1_passBeats_34 hlocks
    · have hw := hw.2 c1
      refine lv_aload_n hx hb dX1_passBeats_7 rfl (lv_at hl 0 rfl) ?_
      refine lv_iconst (v := (0 : Int32)) hx hb dX1_passBeats_8 (by decide) ?_
      refine lv_aload_n hx hb dX1_passBeats_9 rfl (lv_at hl 0 rfl) ?_
      refine va_get (D := D) (ci := 1) (v := .int (L.1 0 0)) (C := RX1) (T := TX1) (N := 13) hx hb hts (h_X1_X1_passBeats) hown hK hP 0 rfl rfl 0 (by decide) (z_w hts 1 rfl) (fun _ h9 => h9) rfl dX1_passBeats_10 ?_
      refine lv_iconst (v := (1 : Int32)) hx hb dX1_passBeats_13 (by decide) ?_
      refine lv_isub hx hb dX1_passBeats_14 ?_
      have hFc := va_free (wc := w_Line cs q L) hD hS hA [0, 1, 2, 3, 4, 5, 6, 7, 8, 9] rfl
      refine va_callv (va_runV (As := [.int (0 : Int32), .int ((L.1 0 0) - (1 : Int32))]) (rest := []) ⟨hx, hb, hml, hown, hts⟩ (c_X1_passBeat l D cs q H.size L (0 : Int32) ((L.1 0 0) - (1 : Int32)) _ hw) (cwV 2 hts gX1_passBeats_X1_passBeat rfl rfl rfl (by decide +kernel) ⟨Nat.le_of_ble_eq_true rfl, Nat.le_of_ble_eq_true rfl⟩) (PC_V hP hD hKK 0 1 rfl rfl) rfl rfl hl.1 rfl (lv_room (Nat.le_of_ble_eq_true rfl)) dX1_passBeats_15 ⟨Nat.le_of_ble_eq_true rfl, Nat.le_of_ble_eq_true rfl⟩) hS (fun q _ h => hFc q h) hFc (fun u2 t H locs ht hvm hw hB hz1 hk1 hS => ?_)
      obtain ⟨hP1, hD1⟩ := hB
      rw [ht] at hP1
      have hD : va_D A (w_Line cs q u2) := hD1.weaken (fun k q _ h => hFc q.1 h)
      have hP : va_P D vwCl (w_Line cs q u2) H := hP1
      refine lv_aload_n hx hb dX1_passBeats_18 rfl (lv_at hl 0 rfl) ?_
      refine lv_dup hx hb dX1_passBeats_19 rfl ?_
      refine va_get (D := D) (ci := 1) (v := .int (u2.1 0 2)) (C := RX1) (T := TX1) (N := 13) hx hb hts (h_X1_X1_passBeats) hown hK hP 0 rfl rfl 2 (by decide) (z_w hts 2 rfl) (fun _ h9 => h9) rfl dX1_passBeats_20 ?_
      refine lv_iconst (v := (1 : Int32)) hx hb dX1_passBeats_23 (by decide) ?_
      refine lv_iadd hx hb dX1_passBeats_24 ?_
      refine va_put (D := D) (ci := 1) (v := .int ((u2.1 0 2) + (1 : Int32))) (ty := .int) (C := RX1) (T := TX1) (N := 13) hx hb hts (h_X1_X1_passBeats) tyX1 tyX1_ok nmX1 hown hK hP hD hS 0 rfl rfl 2 (by decide) (z_w hts 2 rfl) (fun _ h9 => h9) rfl (by decide +kernel) rfl rfl (Nat.le_of_ble_eq_true rfl) dX1_passBeats_25 (fun H locs hP hD hS => ?_)
      have hP : va_P D vwCl (w_Line cs q (lsS u2 0 2 ((u2.1 0 2) + (1 : Int32)))) H := hP
      have hD : va_D A (w_Line cs q (lsS u2 0 2 ((u2.1 0 2) + (1 : Int32)))) := hD
      refine lv_iinc (v := x2 + 1) (lv' := [(2, .int (x2 + 1)), (0, .ref (q 0)), (1, .int x1)]) hx hb dX1_passBeats_28 hl (k := 2) rfl rfl (by decide) rfl (fun ls hl => ?_)
      refine lv_goto (tgt := 2) hx hb dX1_passBeats_31 (by decide) ?_
      exact ih _ _ hw _ _ hP hD hS ls (lv_sub hl [1, 2, 0] rfl)
set_option maxHeartbeats 4000000 in
set_option maxRecDepth 100000 in
theorem t_X1_passBeats {p : Program} {l : Launch} {e : Env} {s : State} {m : MethodId} {args : Array Value} {below : List Frame} {meth : Method} {c : Code} {D : va_G} {cs : Nat → ClassId} {A : Nat → Prop} (hC : MAt p s m args meth c RX1 cX1_passBeats 3 none wsX1_passBeats D cs) (q : Nat → Nat) (L : LnS) (x1 : Int32) (Q : LnS → Prop) (hA : ∀ q : Nat, s.heap.size ≤ q → A q) (hw : wp_X1_passBeats L x1 Q) (H : Heap) (locs : List Loc) (hP : va_P D vwCl (w_Line cs q L) H) (hD : va_D A (w_Line cs q L)) (hS : va_S A s.heap H locs) (ls : Array Slot) (hl : lv_has ls 3 [(0, .ref (q 0)), (1, .int x1)]) : W p l e ({ frames := 4, cells := 0, slots := 0, locals := 93 } : Room) s m args below meth c H locs 0 0 (MQ below (va_Qv (fun (u : LnS) => Q u) (fun (u : LnS) t => va_P D vwCl (w_Line cs q u) t.heap ∧ va_D A (w_Line cs q u)) A) args s 0 0 A) (F0 m 0 ls []) := by
  obtain ⟨hx, hb, hr, hml, hown, hts, hlocks, hKK⟩ := id hC
  have hK := hKK.1
  refine lv_iconst (v := (0 : Int32)) hx hb dX1_passBeats_0 (by decide) ?_
  refine lv_istore_n (lv' := [(2, .int (0 : Int32)), (0, .ref (q 0)), (1, .int x1)]) hx hb dX1_passBeats_1 rfl hl (by decide) rfl (fun ls hl => ?_)
  obtain ⟨n3, hw⟩ := hw
  exact t_X1_passBeats_2 hC q _ _ hA n3 _ _ hw H locs hP hD hS ls (lv_sub hl [1, 2, 0] rfl)
set_option maxHeartbeats 4000000 in
set_option maxRecDepth 100000 in
theorem c_X1_passBeats (l : Launch) (D : va_G) (cs : Nat → ClassId) (q : Nat → Nat) (sz : Nat) (L : LnS) (x1 : Int32) (Q : LnS → Prop) (hw : wp_X1_passBeats L x1 Q) : Met l yX1_passBeats wsX1_passBeats ({ frames := 4, cells := 0, slots := 0, locals := 93 } : Room) (va_Pc [.ref (q 0), .int x1] (PC D cs (w_Line cs q L) sz)) (va_Qv (fun (u : LnS) => Q u) (fun (u : LnS) t => va_P D vwCl (w_Line cs q u) t.heap ∧ va_D (va_A (w_Line cs q L) sz) (w_Line cs q u)) (va_A (w_Line cs q L) sz)) 0 0 (va_A (w_Line cs q L) sz) := by
  refine Met.ofW (cc := cX1_passBeats) (maxL := 3) (ret := none) (by decide) rfl ?_
  intro p e s m args below meth c s₁ B hml hv
  obtain ⟨rfl, hsz, hP, hKK, hD0⟩ := hv
  have hC : MAt p s m _ meth c RX1 cX1_passBeats 3 none wsX1_passBeats D cs := ⟨B.exec, B.bytes, B.returns, hml, findClass_of_methodNamed B.named, atoms_spec (ws := wsX1_passBeats) B.pre, B.notSynchronized, hKK⟩
  have hl := lv_entry ([.ref (q 0), .int x1]) (n := 3) (Nat.le_of_ble_eq_true rfl)
  rw [lg_entry_eq]
  generalize (lg_sl ([.ref (q 0), .int x1]) ++ List.replicate (3 - (lg_sl ([.ref (q 0), .int x1])).length) Slot.unset).toArray = ls at hl ⊢
  subst hsz
  have hD := hD0.self (sz := s.heap.size)
  have hA : ∀ z : Nat, s.heap.size ≤ z → va_A (w_Line cs q L) s.heap.size z := fun z h => Or.inr h
  exact t_X1_passBeats hC q L x1 Q hA hw s.heap [] hP hD va_S.rf ls hl
set_option maxHeartbeats 4000000 in
set_option maxRecDepth 100000 in
theorem t_X1_runToRest_13 {p : Program} {l : Launch} {e : Env} {s : State} {m : MethodId} {args : Array Value} {below : List Frame} {meth : Method} {c : Code} {D : va_G} {cs : Nat → ClassId} {A : Nat → Prop} (hC : MAt p s m args meth c RX1 cX1_runToRest 4 (some .int) wsX1_runToRest D cs) (q : Nat → Nat) (x1 : Int32) (Q : Int32 → LnS → Prop) (hA : ∀ q : Nat, s.heap.size ≤ q → A q) : ∀ (n : Nat) (L : LnS) (x2 : Int32) (x3 : Int32), wl_X1_runToRest_13 x1 Q n L x2 x3 → ∀ (H : Heap) (locs : List Loc), va_P D vwCl (w_Line cs q L) H → va_D A (w_Line cs q L) → va_S A s.heap H locs → ∀ ls : Array Slot, lv_has ls 4 [(0, .ref (q 0)), (1, .int x1), (2, .int x2), (3, .int x3)] → W p l e ({ frames := 4, cells := 0, slots := 0, locals := 93 } : Room) s m args below meth c H locs 0 0 (MQ below (va_Qi (fun r (u : LnS) => Q r u) (fun (u : LnS) t => va_P D vwCl (w_Line cs q u) t.heap ∧ va_D A (w_Line cs q u)) A) args s 0 0 A) (F0 m 13 ls []) := by
  obtain ⟨hx, hb, hr, hml, hown, hts, hlocks, hKK⟩ := id hC
  have hK := hKK.1
  intro n
  induction n with
  | zero =>
    intro L x2 x3 hw
    exact False.elim hw
  | succ n ih =>
    intro L x2 x3 hw H locs hP hD hS ls hl
    refine lv_iload_n hx hb dX1_runToRest_13 rfl (lv_at hl 2 rfl) ?_
    refine lv_iload_n hx hb dX1_runToRest_14 rfl (lv_at hl 1 rfl) ?_
    refine lv_icmp_gt (tgt := 43) hx hb dX1_runToRest_15 (by decide) (fun c3 => ?_) (fun c3 => ?_)
    · have hw := hw.1 c3
      refine lv_iload_n hx hb dX1_runToRest_43 rfl (lv_at hl 3 rfl) ?_
      exact W.iret (v := x3) hx hb hr (fun t ht hW => ⟨⟨x3, (L), rfl, hw, by rw [ht]; exact hP, hD⟩, hS.F ht⟩) hS.2.2 dX1_runToRest_44 hlocks
    · have hw := hw.2 c3
      refine lv_iload_n hx hb dX1_runToRest_18 rfl (lv_at hl 3 rfl) ?_
      refine lv_ldc hx hb hown (z_w hts 1 (w := .constant RX1 143 (1000000)) rfl) dX1_runToRest_19 ?_
      refine lv_icmp_ge (tgt := 43) hx hb dX1_runToRest_21 (by decide) (fun c4 => ?_) (fun c4 => ?_)
      · have hw := hw.1 c4
        refine lv_iload_n hx hb dX1_runToRest_43 rfl (lv_at hl 3 rfl) ?_
        exact W.iret (v := x3) hx hb hr (fun t ht hW => ⟨⟨x3, (L), rfl, hw, by rw [ht]; exact hP, hD⟩, hS.F ht⟩) hS.2.2 dX1_runToRest_44 hlocks
      · have hw := hw.2 c4
        refine lv_aload_n hx hb dX1_runToRest_24 rfl (lv_at hl 0 rfl) ?_
        refine lv_iload_n hx hb dX1_runToRest_25 rfl (lv_at hl 2 rfl) ?_
        refine lv_iload_n hx hb dX1_runToRest_26 rfl (lv_at hl 1 rfl) ?_
        have hFc := va_free (wc := w_Line cs q L) hD hS hA [0, 1, 2, 3, 4, 5, 6, 7, 8, 9] rfl
        refine va_callv (va_runV (As := [.int x2, .int x1]) (rest := []) ⟨hx, hb, hml, hown, hts⟩ (c_X1_passBeat l D cs q H.size L x2 x1 _ hw) (cwV 2 hts gX1_runToRest_X1_passBeat rfl rfl rfl (by decide +kernel) ⟨Nat.le_of_ble_eq_true rfl, Nat.le_of_ble_eq_true rfl⟩) (PC_V hP hD hKK 0 1 rfl rfl) rfl rfl hl.1 rfl (lv_room (Nat.le_of_ble_eq_true rfl)) dX1_runToRest_27 ⟨Nat.le_of_ble_eq_true rfl, Nat.le_of_ble_eq_true rfl⟩) hS (fun q _ h => hFc q h) hFc (fun u5 t H locs ht hvm hw hB hz1 hk1 hS => ?_)
        obtain ⟨hP1, hD1⟩ := hB
        rw [ht] at hP1
        have hD : va_D A (w_Line cs q u5) := hD1.weaken (fun k q _ h => hFc q.1 h)
        have hP : va_P D vwCl (w_Line cs q u5) H := hP1
        refine lv_iinc (v := x3 + 1) (lv' := [(3, .int (x3 + 1)), (0, .ref (q 0)), (1, .int x1), (2, .int x2)]) hx hb dX1_runToRest_30 hl (k := 3) rfl rfl (by decide) rfl (fun ls hl => ?_)
        refine lv_aload_n hx hb dX1_runToRest_33 rfl (lv_at hl 1 rfl) ?_
        refine lv_iload_n hx hb dX1_runToRest_34 rfl (lv_at hl 3 rfl) ?_
        refine lv_iload_n hx hb dX1_runToRest_35 rfl (lv_at hl 2 rfl) ?_
        refine z_calli (va_runV (As := [.int x2, .int x1]) (rest := []) ⟨hx, hb, hml, hown, hts⟩ (c_X1_firstAtWork l D cs q H.size u5 x2 x1 _ hw) (cwV 2 hts gX1_runToRest_X1_firstAtWork rfl rfl rfl (by decide +kernel) ⟨Nat.le_of_ble_eq_true rfl, Nat.le_of_ble_eq_true rfl⟩) (PC_V hP hD hKK 0 1 rfl rfl) rfl rfl hl.1 rfl (lv_room (Nat.le_of_ble_eq_true rfl)) dX1_runToRest_36 ⟨Nat.le_of_ble_eq_true rfl, Nat.le_of_ble_eq_true rfl⟩) (fun r6 hw => ?_)
        refine lv_istore_n (lv' := [(2, .int r6), (3, .int (x3 + 1)), (0, .ref (q 0)), (1, .int x1)]) hx hb dX1_runToRest_39 rfl hl (by decide) rfl (fun ls hl => ?_)
        refine lv_goto (tgt := 13) hx hb dX1_runToRest_40 (by decide) ?_
        exact ih _ _ _ hw _ _ hP hD hS ls (lv_sub hl [2, 3, 0, 1] rfl)
set_option maxHeartbeats 4000000 in
set_option maxRecDepth 100000 in
theorem t_X1_runToRest {p : Program} {l : Launch} {e : Env} {s : State} {m : MethodId} {args : Array Value} {below : List Frame} {meth : Method} {c : Code} {D : va_G} {cs : Nat → ClassId} {A : Nat → Prop} (hC : MAt p s m args meth c RX1 cX1_runToRest 4 (some .int) wsX1_runToRest D cs) (q : Nat → Nat) (L : LnS) (x1 : Int32) (Q : Int32 → LnS → Prop) (hA : ∀ q : Nat, s.heap.size ≤ q → A q) (hw : wp_X1_runToRest L x1 Q) (H : Heap) (locs : List Loc) (hP : va_P D vwCl (w_Line cs q L) H) (hD : va_D A (w_Line cs q L)) (hS : va_S A s.heap H locs) (ls : Array Slot) (hl : lv_has ls 4 [(0, .ref (q 0)), (1, .int x1)]) : W p l e ({ frames := 4, cells := 0, slots := 0, locals := 93 } : Room) s m args below meth c H locs 0 0 (MQ below (va_Qi (fun r (u : LnS) => Q r u) (fun (u : LnS) t => va_P D vwCl (w_Line cs q u) t.heap ∧ va_D A (w_Line cs q u)) A) args s 0 0 A) (F0 m 0 ls []) := by
  obtain ⟨hx, hb, hr, hml, hown, hts, hlocks, hKK⟩ := id hC
  have hK := hKK.1
  refine lv_aload_n hx hb dX1_runToRest_0 rfl (lv_at hl 0 rfl) ?_
  refine lv_aload_n hx hb dX1_runToRest_1 rfl (lv_at hl 0 rfl) ?_
  refine lv_iload_n hx hb dX1_runToRest_2 rfl (lv_at hl 1 rfl) ?_
  refine z_calli (va_runV (As := [.int x1]) (rest := [.ref (q 0)]) ⟨hx, hb, hml, hown, hts⟩ (c_X1_chainStart l D cs q H.size L x1 _ hw) (cwV 1 hts gX1_runToRest_X1_chainStart rfl rfl rfl (by decide +kernel) ⟨Nat.le_of_ble_eq_true rfl, Nat.le_of_ble_eq_true rfl⟩) (PC_V hP hD hKK 0 1 rfl rfl) rfl rfl hl.1 rfl (lv_room (Nat.le_of_ble_eq_true rfl)) dX1_runToRest_3 ⟨Nat.le_of_ble_eq_true rfl, Nat.le_of_ble_eq_true rfl⟩) (fun r1 hw => ?_)
  refine lv_iload_n hx hb dX1_runToRest_6 rfl (lv_at hl 1 rfl) ?_
  refine z_calli (va_runV (As := [.int r1, .int x1]) (rest := []) ⟨hx, hb, hml, hown, hts⟩ (c_X1_firstAtWork l D cs q H.size L r1 x1 _ hw) (cwV 2 hts gX1_runToRest_X1_firstAtWork rfl rfl rfl (by decide +kernel) ⟨Nat.le_of_ble_eq_true rfl, Nat.le_of_ble_eq_true rfl⟩) (PC_V hP hD hKK 0 1 rfl rfl) rfl rfl hl.1 rfl (lv_room (Nat.le_of_ble_eq_true rfl)) dX1_runToRest_7 ⟨Nat.le_of_ble_eq_true rfl, Nat.le_of_ble_eq_true rfl⟩) (fun r2 hw => ?_)
  refine lv_istore_n (lv' := [(2, .int r2), (0, .ref (q 0)), (1, .int x1)]) hx hb dX1_runToRest_10 rfl hl (by decide) rfl (fun ls hl => ?_)
  refine lv_iconst (v := (0 : Int32)) hx hb dX1_runToRest_11 (by decide) ?_
  refine lv_istore_n (lv' := [(3, .int (0 : Int32)), (2, .int r2), (0, .ref (q 0)), (1, .int x1)]) hx hb dX1_runToRest_12 rfl hl (by decide) rfl (fun ls hl => ?_)
  obtain ⟨n7, hw⟩ := hw
  exact t_X1_runToRest_13 hC q _ _ hA n7 _ _ _ hw H locs hP hD hS ls (lv_sub hl [2, 3, 1, 0] rfl)
set_option maxHeartbeats 4000000 in
set_option maxRecDepth 100000 in
theorem c_X1_runToRest (l : Launch) (D : va_G) (cs : Nat → ClassId) (q : Nat → Nat) (sz : Nat) (L : LnS) (x1 : Int32) (Q : Int32 → LnS → Prop) (hw : wp_X1_runToRest L x1 Q) : Met l yX1_runToRest wsX1_runToRest ({ frames := 4, cells := 0, slots := 0, locals := 93 } : Room) (va_Pc [.ref (q 0), .int x1] (PC D cs (w_Line cs q L) sz)) (va_Qi (fun r (u : LnS) => Q r u) (fun (u : LnS) t => va_P D vwCl (w_Line cs q u) t.heap ∧ va_D (va_A (w_Line cs q L) sz) (w_Line cs q u)) (va_A (w_Line cs q L) sz)) 0 0 (va_A (w_Line cs q L) sz) := by
  refine Met.ofW (cc := cX1_runToRest) (maxL := 4) (ret := (some .int)) (by decide) rfl ?_
  intro p e s m args below meth c s₁ B hml hv
  obtain ⟨rfl, hsz, hP, hKK, hD0⟩ := hv
  have hC : MAt p s m _ meth c RX1 cX1_runToRest 4 (some .int) wsX1_runToRest D cs := ⟨B.exec, B.bytes, B.returns, hml, findClass_of_methodNamed B.named, atoms_spec (ws := wsX1_runToRest) B.pre, B.notSynchronized, hKK⟩
  have hl := lv_entry ([.ref (q 0), .int x1]) (n := 4) (Nat.le_of_ble_eq_true rfl)
  rw [lg_entry_eq]
  generalize (lg_sl ([.ref (q 0), .int x1]) ++ List.replicate (4 - (lg_sl ([.ref (q 0), .int x1])).length) Slot.unset).toArray = ls at hl ⊢
  subst hsz
  have hD := hD0.self (sz := s.heap.size)
  have hA : ∀ z : Nat, s.heap.size ≤ z → va_A (w_Line cs q L) s.heap.size z := fun z h => Or.inr h
  exact t_X1_runToRest hC q L x1 Q hA hw s.heap [] hP hD va_S.rf ls hl
set_option maxHeartbeats 4000000 in
set_option maxRecDepth 100000 in
theorem t_X1_runToReading_9 {p : Program} {l : Launch} {e : Env} {s : State} {m : MethodId} {args : Array Value} {below : List Frame} {meth : Method} {c : Code} {D : va_G} {cs : Nat → ClassId} {A : Nat → Prop} (hC : MAt p s m args meth c RX1 cX1_runToReading 5 (some .int) wsX1_runToReading D cs) (q : Nat → Nat) (x1 : Int32) (x2 : Int32) (Q : Int32 → LnS → Prop) (hA : ∀ q : Nat, s.heap.size ≤ q → A q) : ∀ (n : Nat) (L : LnS) (x3 : Int32) (x4 : Int32), wl_X1_runToReading_9 x1 x2 Q n L x3 x4 → ∀ (H : Heap) (locs : List Loc), va_P D vwCl (w_Line cs q L) H → va_D A (w_Line cs q L) → va_S A s.heap H locs → ∀ ls : Array Slot, lv_has ls 5 [(0, .ref (q 0)), (1, .int x1), (2, .int x2), (3, .int x3), (4, .int x4)] → W p l e ({ frames := 4, cells := 0, slots := 0, locals := 93 } : Room) s m args below meth c H locs 0 0 (MQ below (va_Qi (fun r (u : LnS) => Q r u) (fun (u : LnS) t => va_P D vwCl (w_Line cs q u) t.heap ∧ va_D A (w_Line cs q u)) A) args s 0 0 A) (F0 m 9 ls []) := by
  obtain ⟨hx, hb, hr, hml, hown, hts, hlocks, hKK⟩ := id hC
  have hK := hKK.1
  intro n
  induction n with
  | zero =>
    intro L x3 x4 hw
    exact False.elim hw
  | succ n ih =>
    intro L x3 x4 hw H locs hP hD hS ls hl
    refine lv_iload hx hb dX1_runToReading_9 (lv_at hl 4 rfl) ?_
    refine lv_ldc hx hb hown (z_w hts 1 (w := .constant RX1 143 (1000000)) rfl) dX1_runToReading_11 ?_
    refine lv_icmp_ge (tgt := 54) hx hb dX1_runToReading_13 (by decide) (fun c2 => ?_) (fun c2 => ?_)
    · have hw := hw.1 c2
      refine lv_iconst (v := (-1 : Int32)) hx hb dX1_runToReading_54 (by decide) ?_
      exact W.iret (v := (-1 : Int32)) hx hb hr (fun t ht hW => ⟨⟨(-1 : Int32), (L), rfl, hw, by rw [ht]; exact hP, hD⟩, hS.F ht⟩) hS.2.2 dX1_runToReading_55 hlocks
    · have hw := hw.2 c2
      refine lv_aload_n hx hb dX1_runToReading_16 rfl (lv_at hl 0 rfl) ?_
      refine lv_iload_n hx hb dX1_runToReading_17 rfl (lv_at hl 1 rfl) ?_
      refine z_calli (va_runV (As := [.int x1]) (rest := []) ⟨hx, hb, hml, hown, hts⟩ (c_X1_reading l D cs q H.size L x1 _ hw) (cwV 1 hts gX1_runToReading_X1_reading rfl rfl rfl (by decide +kernel) ⟨Nat.le_of_ble_eq_true rfl, Nat.le_of_ble_eq_true rfl⟩) (PC_V hP hD hKK 0 1 rfl rfl) rfl rfl hl.1 rfl (lv_room (Nat.le_of_ble_eq_true rfl)) dX1_runToReading_18 ⟨Nat.le_of_ble_eq_true rfl, Nat.le_of_ble_eq_true rfl⟩) (fun r3 hw => ?_)
      refine lv_iload_n hx hb dX1_runToReading_21 rfl (lv_at hl 2 rfl) ?_
      refine lv_icmp_ne (tgt := 28) hx hb dX1_runToReading_22 (by decide) (fun c4 => ?_) (fun c4 => ?_)
      · have hw := hw.2 c4
        refine lv_aload_n hx hb dX1_runToReading_28 rfl (lv_at hl 0 rfl) ?_
        refine lv_iload_n hx hb dX1_runToReading_29 rfl (lv_at hl 3 rfl) ?_
        refine lv_iload_n hx hb dX1_runToReading_30 rfl (lv_at hl 1 rfl) ?_
        refine z_calli (va_runV (As := [.int x3, .int x1]) (rest := []) ⟨hx, hb, hml, hown, hts⟩ (c_X1_firstAtWork l D cs q H.size L x3 x1 _ hw) (cwV 2 hts gX1_runToReading_X1_firstAtWork rfl rfl rfl (by decide +kernel) ⟨Nat.le_of_ble_eq_true rfl, Nat.le_of_ble_eq_true rfl⟩) (PC_V hP hD hKK 0 1 rfl rfl) rfl rfl hl.1 rfl (lv_room (Nat.le_of_ble_eq_true rfl)) dX1_runToReading_31 ⟨Nat.le_of_ble_eq_true rfl, Nat.le_of_ble_eq_true rfl⟩) (fun r5 hw => ?_)
        refine lv_istore_n (lv' := [(3, .int r5), (0, .ref (q 0)), (1, .int x1), (2, .int x2), (4, .int x4)]) hx hb dX1_runToReading_34 rfl hl (by decide) rfl (fun ls hl => ?_)
        refine lv_iload_n hx hb dX1_runToReading_35 rfl (lv_at hl 0 rfl) ?_
        refine lv_iload_n hx hb dX1_runToReading_36 rfl (lv_at hl 2 rfl) ?_
        refine lv_icmp_le (tgt := 42) hx hb dX1_runToReading_37 (by decide) (fun c6 => ?_) (fun c6 => ?_)
        · have hw := hw.1 c6
          refine lv_aload_n hx hb dX1_runToReading_42 rfl (lv_at hl 1 rfl) ?_
          refine lv_iload_n hx hb dX1_runToReading_43 rfl (lv_at hl 0 rfl) ?_
          refine lv_iload_n hx hb dX1_runToReading_44 rfl (lv_at hl 2 rfl) ?_
          have hFc := va_free (wc := w_Line cs q L) hD hS hA [0, 1, 2, 3, 4, 5, 6, 7, 8, 9] rfl
          refine va_callv (va_runV (As := [.int r5, .int x1]) (rest := []) ⟨hx, hb, hml, hown, hts⟩ (c_X1_passBeat l D cs q H.size L r5 x1 _ hw) (cwV 2 hts gX1_runToReading_X1_passBeat rfl rfl rfl (by decide +kernel) ⟨Nat.le_of_ble_eq_true rfl, Nat.le_of_ble_eq_true rfl⟩) (PC_V hP hD hKK 0 1 rfl rfl) rfl rfl hl.1 rfl (lv_room (Nat.le_of_ble_eq_true rfl)) dX1_runToReading_45 ⟨Nat.le_of_ble_eq_true rfl, Nat.le_of_ble_eq_true rfl⟩) hS (fun q _ h => hFc q h) hFc (fun u7 t H locs ht hvm hw hB hz1 hk1 hS => ?_)
          obtain ⟨hP1, hD1⟩ := hB
          rw [ht] at hP1
          have hD : va_D A (w_Line cs q u7) := hD1.weaken (fun k q _ h => hFc q.1 h)
          have hP : va_P D vwCl (w_Line cs q u7) H := hP1
          refine lv_iinc (v := x4 + 1) (lv' := [(4, .int (x4 + 1)), (3, .int r5), (0, .ref (q 0)), (1, .int x1), (2, .int x2)]) hx hb dX1_runToReading_48 hl (k := 4) rfl rfl (by decide) rfl (fun ls hl => ?_)
          refine lv_goto (tgt := 9) hx hb dX1_runToReading_51 (by decide) ?_
          exact ih _ _ _ hw _ _ hP hD hS ls (lv_sub hl [2, 3, 4, 1, 0] rfl)
        · have hw := hw.2 c6
          refine lv_iconst (v := (-1 : Int32)) hx hb dX1_runToReading_40 (by decide) ?_
          exact W.iret (v := (-1 : Int32)) hx hb hr (fun t ht hW => ⟨⟨(-1 : Int32), (L), rfl, hw, by rw [ht]; exact hP, hD⟩, hS.F ht⟩) hS.2.2 dX1_runToReading_41 hlocks
      · have hw := hw.1 c4
        refine lv_iload hx hb dX1_runToReading_25 (lv_at hl 4 rfl) ?_
        exact W.iret (v := x4) hx hb hr (fun t ht hW => ⟨⟨x4, (L), rfl, hw, by rw [ht]; exact hP, hD⟩, hS.F ht⟩) hS.2.2 dX1_runToReading_27 hlocks
set_option maxHeartbeats 4000000 in
set_option maxRecDepth 100000 in
theorem t_X1_runToReading {p : Program} {l : Launch} {e : Env} {s : State} {m : MethodId} {args : Array Value} {below : List Frame} {meth : Method} {c : Code} {D : va_G} {cs : Nat → ClassId} {A : Nat → Prop} (hC : MAt p s m args meth c RX1 cX1_runToReading 5 (some .int) wsX1_runToReading D cs) (q : Nat → Nat) (L : LnS) (x1 : Int32) (x2 : Int32) (Q : Int32 → LnS → Prop) (hA : ∀ q : Nat, s.heap.size ≤ q → A q) (hw : wp_X1_runToReading L x1 x2 Q) (H : Heap) (locs : List Loc) (hP : va_P D vwCl (w_Line cs q L) H) (hD : va_D A (w_Line cs q L)) (hS : va_S A s.heap H locs) (ls : Array Slot) (hl : lv_has ls 5 [(0, .ref (q 0)), (1, .int x1), (2, .int x2)]) : W p l e ({ frames := 4, cells := 0, slots := 0, locals := 93 } : Room) s m args below meth c H locs 0 0 (MQ below (va_Qi (fun r (u : LnS) => Q r u) (fun (u : LnS) t => va_P D vwCl (w_Line cs q u) t.heap ∧ va_D A (w_Line cs q u)) A) args s 0 0 A) (F0 m 0 ls []) := by
  obtain ⟨hx, hb, hr, hml, hown, hts, hlocks, hKK⟩ := id hC
  have hK := hKK.1
  refine lv_aload_n hx hb dX1_runToReading_0 rfl (lv_at hl 0 rfl) ?_
  refine lv_iload_n hx hb dX1_runToReading_1 rfl (lv_at hl 1 rfl) ?_
  refine z_calli (va_runV (As := [.int x1]) (rest := []) ⟨hx, hb, hml, hown, hts⟩ (c_X1_chainStart l D cs q H.size L x1 _ hw) (cwV 1 hts gX1_runToReading_X1_chainStart rfl rfl rfl (by decide +kernel) ⟨Nat.le_of_ble_eq_true rfl, Nat.le_of_ble_eq_true rfl⟩) (PC_V hP hD hKK 0 1 rfl rfl) rfl rfl hl.1 rfl (lv_room (Nat.le_of_ble_eq_true rfl)) dX1_runToReading_2 ⟨Nat.le_of_ble_eq_true rfl, Nat.le_of_ble_eq_true rfl⟩) (fun r1 hw => ?_)
  refine lv_istore_n (lv' := [(3, .int r1), (0, .ref (q 0)), (1, .int x1), (2, .int x2)]) hx hb dX1_runToReading_5 rfl hl (by decide) rfl (fun ls hl => ?_)
  refine lv_iconst (v := (0 : Int32)) hx hb dX1_runToReading_6 (by decide) ?_
  refine lv_istore (lv' := [(4, .int (0 : Int32)), (3, .int r1), (0, .ref (q 0)), (1, .int x1), (2, .int x2)]) hx hb dX1_runToReading_7 hl (by decide) rfl (fun ls hl => ?_)
  obtain ⟨n8, hw⟩ := hw
  exact t_X1_runToReading_9 hC q _ _ _ hA n8 _ _ _ hw H locs hP hD hS ls (lv_sub hl [2, 3, 4, 1, 0] rfl)
set_option maxHeartbeats 4000000 in
set_option maxRecDepth 100000 in
theorem c_X1_runToReading (l : Launch) (D : va_G) (cs : Nat → ClassId) (q : Nat → Nat) (sz : Nat) (L : LnS) (x1 : Int32) (x2 : Int32) (Q : Int32 → LnS → Prop) (hw : wp_X1_runToReading L x1 x2 Q) : Met l yX1_runToReading wsX1_runToReading ({ frames := 4, cells := 0, slots := 0, locals := 93 } : Room) (va_Pc [.ref (q 0), .int x1, .int x2] (PC D cs (w_Line cs q L) sz)) (va_Qi (fun r (u : LnS) => Q r u) (fun (u : LnS) t => va_P D vwCl (w_Line cs q u) t.heap ∧ va_D (va_A (w_Line cs q L) sz) (w_Line cs q u)) (va_A (w_Line cs q L) sz)) 0 0 (va_A (w_Line cs q L) sz) := by
  refine Met.ofW (cc := cX1_runToReading) (maxL := 5) (ret := (some .int)) (by decide) rfl ?_
  intro p e s m args below meth c s₁ B hml hv
  obtain ⟨rfl, hsz, hP, hKK, hD0⟩ := hv
  have hC : MAt p s m _ meth c RX1 cX1_runToReading 5 (some .int) wsX1_runToReading D cs := ⟨B.exec, B.bytes, B.returns, hml, findClass_of_methodNamed B.named, atoms_spec (ws := wsX1_runToReading) B.pre, B.notSynchronized, hKK⟩
  have hl := lv_entry ([.ref (q 0), .int x1, .int x2]) (n := 5) (Nat.le_of_ble_eq_true rfl)
  rw [lg_entry_eq]
  generalize (lg_sl ([.ref (q 0), .int x1, .int x2]) ++ List.replicate (5 - (lg_sl ([.ref (q 0), .int x1, .int x2])).length) Slot.unset).toArray = ls at hl ⊢
  subst hsz
  have hD := hD0.self (sz := s.heap.size)
  have hA : ∀ z : Nat, s.heap.size ≤ z → va_A (w_Line cs q L) s.heap.size z := fun z h => Or.inr h
  exact t_X1_runToReading hC q L x1 x2 Q hA hw s.heap [] hP hD va_S.rf ls hl

theorem h_X4_X4_add : ∀ w ∈ u_ws RX4 TX4 11, w ∈ wsX4_add := fun _ h => List.mem_cons_of_mem _ (List.mem_append_right _ h)
set_option maxHeartbeats 4000000 in
set_option maxRecDepth 100000 in
theorem t_X4_add {p : Program} {l : Launch} {e : Env} {s : State} {m : MethodId} {args : Array Value} {below : List Frame} {meth : Method} {c : Code} {D : va_G} {cs : Nat → ClassId} {A : Nat → Prop} (hC : MAt p s m args meth c RX4 cX4_add 3 (some .int) wsX4_add D cs) (q : Nat → Nat) (M : MS) (x1 : Int32) (x2 : Int32) (Q : Int32 → MS → Prop) (hA : ∀ q : Nat, s.heap.size ≤ q → A q) (hw : wp_X4_add M x1 x2 Q) (H : Heap) (locs : List Loc) (hP : va_P D vwCl (w_Mod cs q M) H) (hD : va_D A (w_Mod cs q M)) (hS : va_S A s.heap H locs) (ls : Array Slot) (hl : lv_has ls 3 [(0, .ref (q 0)), (1, .int x1), (2, .int x2)]) : W p l e ({ frames := 2, cells := 0, slots := 0, locals := 46 } : Room) s m args below meth c H locs 0 0 (MQ below (va_Qi (fun r (u : MS) => Q r u) (fun (u : MS) t => va_P D vwCl (w_Mod cs q u) t.heap ∧ va_D A (w_Mod cs q u)) A) args s 0 0 A) (F0 m 0 ls []) := by
  obtain ⟨hx, hb, hr, hml, hown, hts, hlocks, hKK⟩ := id hC
  have hK := hKK.1
  refine lv_aload_n hx hb dX4_add_0 rfl (lv_at hl 0 rfl) ?_
  refine lv_aload_n hx hb dX4_add_1 rfl (lv_at hl 0 rfl) ?_
  refine va_get (D := D) (ci := 4) (v := .ref (q 2)) (C := RX4) (T := TX4) (N := 11) hx hb hts (h_X4_X4_add) hown hK hP 0 rfl rfl 3 (by decide) (z_w hts 1 rfl) (fun _ h9 => h9) rfl dX4_add_2 ?_
  refine lv_iload_n hx hb dX4_add_5 rfl (lv_at hl 1 rfl) ?_
  have hPc := hP.sub (ws' := w_Row cs (q 2) 336 (M 2)) [2] rfl
  have hDc := hD.sub (ws' := w_Row cs (q 2) 336 (M 2)) [2] (by decide) rfl
  refine z_calli (va_runS (As := [.ref (q 2), .int x1]) (rest := [.ref (q 0)]) ⟨hx, hb, hml, hown, hts⟩ (c_X4_isCounter l D cs (q 2) H.size (M 2) x1 _ hw) (va_cwS 2 hts gX4_add_X4_isCounter rfl rfl rfl (by decide +kernel) ⟨Nat.le_of_ble_eq_true rfl, Nat.le_of_ble_eq_true rfl⟩) (PC_S hPc hDc hKK) rfl rfl hl.1 rfl (lv_room (Nat.le_of_ble_eq_true rfl)) dX4_add_6 ⟨Nat.le_of_ble_eq_true rfl, Nat.le_of_ble_eq_true rfl⟩) (fun r1 hw => ?_)
  obtain ⟨b1, hw⟩ := hw
  refine lv_if_ne (tgt := 16) hx hb dX4_add_9 (by decide) (fun c2 => ?_) (fun c2 => ?_)
  · have hw := hw.2 c2
    refine lv_iload_n hx hb dX4_add_16 rfl (lv_at hl 2 rfl) ?_
    refine lv_i2l (v := x2.toInt64) hx hb dX4_add_17 rfl ?_
    refine lv_ldc2 (v := (-19682 : Int64)) hx hb hown (z_w hts 2 (w := .constantLong RX4 130 (-19682)) rfl) dX4_add_18 ?_
    refine lv_ldc2 (v := (19682 : Int64)) hx hb hown (z_w hts 3 (w := .constantLong RX4 132 (19682)) rfl) dX4_add_21 ?_
    have hPc := hP.sub (ws' := ([] : va_W)) [] rfl
    have hDc := hD.sub (ws' := ([] : va_W)) [] (by decide) rfl
    refine z_calli (va_runS (As := [.long x2.toInt64, .long (-19682 : Int64), .long (19682 : Int64)]) (rest := [.ref (q 0)]) ⟨hx, hb, hml, hown, hts⟩ (c_X4_in l D cs  H.size x2.toInt64 (-19682 : Int64) (19682 : Int64) _ hw) (va_cwS 3 hts gX4_add_X4_in rfl rfl rfl (by decide +kernel) ⟨Nat.le_of_ble_eq_true rfl, Nat.le_of_ble_eq_true rfl⟩) (PC_S hPc hDc hKK) rfl rfl hl.1 rfl (lv_room (Nat.le_of_ble_eq_true rfl)) dX4_add_24 ⟨Nat.le_of_ble_eq_true rfl, Nat.le_of_ble_eq_true rfl⟩) (fun r3 hw => ?_)
    obtain ⟨b3, hw⟩ := hw
    refine lv_if_ne (tgt := 34) hx hb dX4_add_27 (by decide) (fun c4 => ?_) (fun c4 => ?_)
    · have hw := hw.2 c4
      refine lv_aload_n hx hb dX4_add_34 rfl (lv_at hl 0 rfl) ?_
      refine va_get (D := D) (ci := 4) (v := .ref (q 2)) (C := RX4) (T := TX4) (N := 11) hx hb hts (h_X4_X4_add) hown hK hP 0 rfl rfl 3 (by decide) (z_w hts 1 rfl) (fun _ h9 => h9) rfl dX4_add_35 ?_
      refine lv_iload_n hx hb dX4_add_38 rfl (lv_at hl 1 rfl) ?_
      refine lv_iload_n hx hb dX4_add_39 rfl (lv_at hl 2 rfl) ?_
      have hPc := hP.sub (ws' := w_Row cs (q 2) 336 (M 2)) [2] rfl
      have hDc := hD.sub (ws' := w_Row cs (q 2) 336 (M 2)) [2] (by decide) rfl
      refine z_calli (va_runS (As := [.ref (q 2), .int x1, .int x2]) (rest := [.ref (q 0)]) ⟨hx, hb, hml, hown, hts⟩ (c_X4_fits l D cs (q 2) H.size (M 2) x1 x2 _ hw) (va_cwS 3 hts gX4_add_X4_fits rfl rfl rfl (by decide +kernel) ⟨Nat.le_of_ble_eq_true rfl, Nat.le_of_ble_eq_true rfl⟩) (PC_S hPc hDc hKK) rfl rfl hl.1 rfl (lv_room (Nat.le_of_ble_eq_true rfl)) dX4_add_40 ⟨Nat.le_of_ble_eq_true rfl, Nat.le_of_ble_eq_true rfl⟩) (fun r5 hw => ?_)
      obtain ⟨b5, hw⟩ := hw
      refine lv_if_eq (tgt := 50) hx hb dX4_add_43 (by decide) (fun c6 => ?_) (fun c6 => ?_)
      · have hw := hw.1 c6
        refine lv_iconst (v := (3 : Int32)) hx hb dX4_add_50 (by decide) ?_
        have hFc := va_free (wc := w_Mod cs q M) hD hS hA [0, 1, 2, 3, 4, 5, 6, 7, 8] rfl
        refine va_calli (va_runV (As := [.int (3 : Int32)]) (rest := []) ⟨hx, hb, hml, hown, hts⟩ (c_X4_refused l D cs q H.size M (3 : Int32) _ hw) (cwV 1 hts gX4_add_X4_refused rfl rfl rfl (by decide +kernel) ⟨Nat.le_of_ble_eq_true rfl, Nat.le_of_ble_eq_true rfl⟩) (PC_V hP hD hKK 0 4 rfl rfl) rfl rfl hl.1 rfl (lv_room (Nat.le_of_ble_eq_true rfl)) dX4_add_51 ⟨Nat.le_of_ble_eq_true rfl, Nat.le_of_ble_eq_true rfl⟩) hS (fun q _ h => hFc q h) hFc (fun r7 u7 t H locs ht hvm hw hB hz1 hk1 hS => ?_)
        obtain ⟨hP1, hD1⟩ := hB
        rw [ht] at hP1
        obtain ⟨b7, hw⟩ := hw
        have hD : va_D A (w_Mod cs q u7) := hD1.weaken (fun k q _ h => hFc q.1 h)
        have hP : va_P D vwCl (w_Mod cs q u7) H := hP1
        refine lv_if_eq (tgt := 59) hx hb dX4_add_54 (by decide) (fun c8 => ?_) (fun c8 => ?_)
        · have hw := hw.1 c8
          refine lv_aload_n hx hb dX4_add_59 rfl (lv_at hl 0 rfl) ?_
          have hFc := va_free (wc := w_Mod cs q u7) hD hS hA [0, 1, 2, 3, 4, 5, 6, 7, 8] rfl
          refine va_callv (va_runV (As := []) (rest := []) ⟨hx, hb, hml, hown, hts⟩ (c_X4_remember l D cs q H.size u7 _ hw) (cwV 0 hts gX4_add_X4_remember rfl rfl rfl (by decide +kernel) ⟨Nat.le_of_ble_eq_true rfl, Nat.le_of_ble_eq_true rfl⟩) (PC_V hP hD hKK 0 4 rfl rfl) rfl rfl hl.1 rfl (lv_room (Nat.le_of_ble_eq_true rfl)) dX4_add_60 ⟨Nat.le_of_ble_eq_true rfl, Nat.le_of_ble_eq_true rfl⟩) hS (fun q _ h => hFc q h) hFc (fun u9 t H locs ht hvm hw hB hz1 hk1 hS => ?_)
          obtain ⟨hP1, hD1⟩ := hB
          rw [ht] at hP1
          have hD : va_D A (w_Mod cs q u9) := hD1.weaken (fun k q _ h => hFc q.1 h)
          have hP : va_P D vwCl (w_Mod cs q u9) H := hP1
          refine lv_aload_n hx hb dX4_add_63 rfl (lv_at hl 0 rfl) ?_
          refine va_get (D := D) (ci := 4) (v := .ref (q 2)) (C := RX4) (T := TX4) (N := 11) hx hb hts (h_X4_X4_add) hown hK hP 0 rfl rfl 3 (by decide) (z_w hts 1 rfl) (fun _ h9 => h9) rfl dX4_add_64 ?_
          refine lv_iload_n hx hb dX4_add_67 rfl (lv_at hl 1 rfl) ?_
          refine lv_iload_n hx hb dX4_add_68 rfl (lv_at hl 2 rfl) ?_
          have hPc := hP.sub (ws' := w_Row cs (q 2) 336 (u9 2)) [2] rfl
          have hDc := hD.sub (ws' := w_Row cs (q 2) 336 (u9 2)) [2] (by decide) rfl
          have hFc := va_free (wc := w_Row cs (q 2) 336 (u9 2)) hD hS hA [2] rfl
          refine va_calli (va_runS (As := [.ref (q 2), .int x1, .int x2]) (rest := []) ⟨hx, hb, hml, hown, hts⟩ (c_X4_addOn l D cs (q 2) H.size (u9 2) x1 x2 _ hw) (va_cwS 3 hts gX4_add_X4_addOn rfl rfl rfl (by decide +kernel) ⟨Nat.le_of_ble_eq_true rfl, Nat.le_of_ble_eq_true rfl⟩) (PC_S hPc hDc hKK) rfl rfl hl.1 rfl (lv_room (Nat.le_of_ble_eq_true rfl)) dX4_add_69 ⟨Nat.le_of_ble_eq_true rfl, Nat.le_of_ble_eq_true rfl⟩) hS (fun q _ h => hFc q h) hFc (fun r10 u10 t H locs ht hvm hw hB hz1 hk1 hS => ?_)
          obtain ⟨hP1, hD1⟩ := hB
          rw [ht] at hP1
          obtain ⟨hP, hD⟩ := va_join (wr := ([0, 1, 3, 4, 5, 6, 7, 8].filterMap (fun i => (w_Mod cs q u9)[i]?))) (w1 := w_Row cs (q 2) 336 u10) hP hD [2] [0, 1, 3, 4, 5, 6, 7, 8] rfl rfl (by decide) (by decide) hk1 hFc hP1 hD1
          have hP : va_P D vwCl (w_Mod cs q (zr2 u9 2 u10)) H := hP.sub (ws' := w_Mod cs q (zr2 u9 2 u10)) [0, 1, 8, 2, 3, 4, 5, 6, 7] rfl
          have hD : va_D A (w_Mod cs q (zr2 u9 2 u10)) := hD.sub (ws' := w_Mod cs q (zr2 u9 2 u10)) [0, 1, 8, 2, 3, 4, 5, 6, 7] (by decide) rfl
          exact W.iret (v := r10) hx hb hr (fun t ht hW => ⟨⟨r10, (zr2 u9 2 u10), rfl, hw, by rw [ht]; exact hP, hD⟩, hS.F ht⟩) hS.2.2 dX4_add_72 hlocks
        · have hw := hw.2 c8
          refine lv_iconst (v := (0 : Int32)) hx hb dX4_add_57 (by decide) ?_
          exact W.iret (v := (0 : Int32)) hx hb hr (fun t ht hW => ⟨⟨(0 : Int32), (u7), rfl, hw, by rw [ht]; exact hP, hD⟩, hS.F ht⟩) hS.2.2 dX4_add_58 hlocks
      · have hw := hw.2 c6
        refine lv_iconst (v := (0 : Int32)) hx hb dX4_add_46 (by decide) ?_
        refine lv_goto (tgt := 51) hx hb dX4_add_47 (by decide) ?_
        have hFc := va_free (wc := w_Mod cs q M) hD hS hA [0, 1, 2, 3, 4, 5, 6, 7, 8] rfl
        refine va_calli (va_runV (As := [.int (0 : Int32)]) (rest := []) ⟨hx, hb, hml, hown, hts⟩ (c_X4_refused l D cs q H.size M (0 : Int32) _ hw) (cwV 1 hts gX4_add_X4_refused rfl rfl rfl (by decide +kernel) ⟨Nat.le_of_ble_eq_true rfl, Nat.le_of_ble_eq_true rfl⟩) (PC_V hP hD hKK 0 4 rfl rfl) rfl rfl hl.1 rfl (lv_room (Nat.le_of_ble_eq_true rfl)) dX4_add_51 ⟨Nat.le_of_ble_eq_true rfl, Nat.le_of_ble_eq_true rfl⟩) hS (fun q _ h => hFc q h) hFc (fun r11 u11 t H locs ht hvm hw hB hz1 hk1 hS => ?_)
        obtain ⟨hP1, hD1⟩ := hB
        rw [ht] at hP1
        obtain ⟨b11, hw⟩ := hw
        have hD : va_D A (w_Mod cs q u11) := hD1.weaken (fun k q _ h => hFc q.1 h)
        have hP : va_P D vwCl (w_Mod cs q u11) H := hP1
        refine lv_if_eq (tgt := 59) hx hb dX4_add_54 (by decide) (fun c12 => ?_) (fun c12 => ?_)
        · have hw := hw.1 c12
          refine lv_aload_n hx hb dX4_add_59 rfl (lv_at hl 0 rfl) ?_
          have hFc := va_free (wc := w_Mod cs q u11) hD hS hA [0, 1, 2, 3, 4, 5, 6, 7, 8] rfl
          refine va_callv (va_runV (As := []) (rest := []) ⟨hx, hb, hml, hown, hts⟩ (c_X4_remember l D cs q H.size u11 _ hw) (cwV 0 hts gX4_add_X4_remember rfl rfl rfl (by decide +kernel) ⟨Nat.le_of_ble_eq_true rfl, Nat.le_of_ble_eq_true rfl⟩) (PC_V hP hD hKK 0 4 rfl rfl) rfl rfl hl.1 rfl (lv_room (Nat.le_of_ble_eq_true rfl)) dX4_add_60 ⟨Nat.le_of_ble_eq_true rfl, Nat.le_of_ble_eq_true rfl⟩) hS (fun q _ h => hFc q h) hFc (fun u13 t H locs ht hvm hw hB hz1 hk1 hS => ?_)
          obtain ⟨hP1, hD1⟩ := hB
          rw [ht] at hP1
          have hD : va_D A (w_Mod cs q u13) := hD1.weaken (fun k q _ h => hFc q.1 h)
          have hP : va_P D vwCl (w_Mod cs q u13) H := hP1
          refine lv_aload_n hx hb dX4_add_63 rfl (lv_at hl 0 rfl) ?_
          refine va_get (D := D) (ci := 4) (v := .ref (q 2)) (C := RX4) (T := TX4) (N := 11) hx hb hts (h_X4_X4_add) hown hK hP 0 rfl rfl 3 (by decide) (z_w hts 1 rfl) (fun _ h9 => h9) rfl dX4_add_64 ?_
          refine lv_iload_n hx hb dX4_add_67 rfl (lv_at hl 1 rfl) ?_
          refine lv_iload_n hx hb dX4_add_68 rfl (lv_at hl 2 rfl) ?_
          have hPc := hP.sub (ws' := w_Row cs (q 2) 336 (u13 2)) [2] rfl
          have hDc := hD.sub (ws' := w_Row cs (q 2) 336 (u13 2)) [2] (by decide) rfl
          have hFc := va_free (wc := w_Row cs (q 2) 336 (u13 2)) hD hS hA [2] rfl
          refine va_calli (va_runS (As := [.ref (q 2), .int x1, .int x2]) (rest := []) ⟨hx, hb, hml, hown, hts⟩ (c_X4_addOn l D cs (q 2) H.size (u13 2) x1 x2 _ hw) (va_cwS 3 hts gX4_add_X4_addOn rfl rfl rfl (by decide +kernel) ⟨Nat.le_of_ble_eq_true rfl, Nat.le_of_ble_eq_true rfl⟩) (PC_S hPc hDc hKK) rfl rfl hl.1 rfl (lv_room (Nat.le_of_ble_eq_true rfl)) dX4_add_69 ⟨Nat.le_of_ble_eq_true rfl, Nat.le_of_ble_eq_true rfl⟩) hS (fun q _ h => hFc q h) hFc (fun r14 u14 t H locs ht hvm hw hB hz1 hk1 hS => ?_)
          obtain ⟨hP1, hD1⟩ := hB
          rw [ht] at hP1
          obtain ⟨hP, hD⟩ := va_join (wr := ([0, 1, 3, 4, 5, 6, 7, 8].filterMap (fun i => (w_Mod cs q u13)[i]?))) (w1 := w_Row cs (q 2) 336 u14) hP hD [2] [0, 1, 3, 4, 5, 6, 7, 8] rfl rfl (by decide) (by decide) hk1 hFc hP1 hD1
          have hP : va_P D vwCl (w_Mod cs q (zr2 u13 2 u14)) H := hP.sub (ws' := w_Mod cs q (zr2 u13 2 u14)) [0, 1, 8, 2, 3, 4, 5, 6, 7] rfl
          have hD : va_D A (w_Mod cs q (zr2 u13 2 u14)) := hD.sub (ws' := w_Mod cs q (zr2 u13 2 u14)) [0, 1, 8, 2, 3, 4, 5, 6, 7] (by decide) rfl
          exact W.iret (v := r14) hx hb hr (fun t ht hW => ⟨⟨r14, (zr2 u13 2 u14), rfl, hw, by rw [ht]; exact hP, hD⟩, hS.F ht⟩) hS.2.2 dX4_add_72 hlocks
        · have hw := hw.2 c12
          refine lv_iconst (v := (0 : Int32)) hx hb dX4_add_57 (by decide) ?_
          exact W.iret (v := (0 : Int32)) hx hb hr (fun t ht hW => ⟨⟨(0 : Int32), (u11), rfl, hw, by rw [ht]; exact hP, hD⟩, hS.F ht⟩) hS.2.2 dX4_add_58 hlocks
    · have hw := hw.1 c4
      refine lv_iconst (v := (2 : Int32)) hx hb dX4_add_30 (by decide) ?_
      refine lv_goto (tgt := 51) hx hb dX4_add_31 (by decide) ?_
      have hFc := va_free (wc := w_Mod cs q M) hD hS hA [0, 1, 2, 3, 4, 5, 6, 7, 8] rfl
      refine va_calli (va_runV (As := [.int (2 : Int32)]) (rest := []) ⟨hx, hb, hml, hown, hts⟩ (c_X4_refused l D cs q H.size M (2 : Int32) _ hw) (cwV 1 hts gX4_add_X4_refused rfl rfl rfl (by decide +kernel) ⟨Nat.le_of_ble_eq_true rfl, Nat.le_of_ble_eq_true rfl⟩) (PC_V hP hD hKK 0 4 rfl rfl) rfl rfl hl.1 rfl (lv_room (Nat.le_of_ble_eq_true rfl)) dX4_add_51 ⟨Nat.le_of_ble_eq_true rfl, Nat.le_of_ble_eq_true rfl⟩) hS (fun q _ h => hFc q h) hFc (fun r15 u15 t H locs ht hvm hw hB hz1 hk1 hS => ?_)
      obtain ⟨hP1, hD1⟩ := hB
      rw [ht] at hP1
      obtain ⟨b15, hw⟩ := hw
      have hD : va_D A (w_Mod cs q u15) := hD1.weaken (fun k q _ h => hFc q.1 h)
      have hP : va_P D vwCl (w_Mod cs q u15) H := hP1
      refine lv_if_eq (tgt := 59) hx hb dX4_add_54 (by decide) (fun c16 => ?_) (fun c16 => ?_)
      · have hw := hw.1 c16
        refine lv_aload_n hx hb dX4_add_59 rfl (lv_at hl 0 rfl) ?_
        have hFc := va_free (wc := w_Mod cs q u15) hD hS hA [0, 1, 2, 3, 4, 5, 6, 7, 8] rfl
        refine va_callv (va_runV (As := []) (rest := []) ⟨hx, hb, hml, hown, hts⟩ (c_X4_remember l D cs q H.size u15 _ hw) (cwV 0 hts gX4_add_X4_remember rfl rfl rfl (by decide +kernel) ⟨Nat.le_of_ble_eq_true rfl, Nat.le_of_ble_eq_true rfl⟩) (PC_V hP hD hKK 0 4 rfl rfl) rfl rfl hl.1 rfl (lv_room (Nat.le_of_ble_eq_true rfl)) dX4_add_60 ⟨Nat.le_of_ble_eq_true rfl, Nat.le_of_ble_eq_true rfl⟩) hS (fun q _ h => hFc q h) hFc (fun u17 t H locs ht hvm hw hB hz1 hk1 hS => ?_)
        obtain ⟨hP1, hD1⟩ := hB
        rw [ht] at hP1
        have hD : va_D A (w_Mod cs q u17) := hD1.weaken (fun k q _ h => hFc q.1 h)
        have hP : va_P D vwCl (w_Mod cs q u17) H := hP1
        refine lv_aload_n hx hb dX4_add_63 rfl (lv_at hl 0 rfl) ?_
        refine va_get (D := D) (ci := 4) (v := .ref (q 2)) (C := RX4) (T := TX4) (N := 11) hx hb hts (h_X4_X4_add) hown hK hP 0 rfl rfl 3 (by decide) (z_w hts 1 rfl) (fun _ h9 => h9) rfl dX4_add_64 ?_
        refine lv_iload_n hx hb dX4_add_67 rfl (lv_at hl 1 rfl) ?_
        refine lv_iload_n hx hb dX4_add_68 rfl (lv_at hl 2 rfl) ?_
        have hPc := hP.sub (ws' := w_Row cs (q 2) 336 (u17 2)) [2] rfl
        have hDc := hD.sub (ws' := w_Row cs (q 2) 336 (u17 2)) [2] (by decide) rfl
        have hFc := va_free (wc := w_Row cs (q 2) 336 (u17 2)) hD hS hA [2] rfl
        refine va_calli (va_runS (As := [.ref (q 2), .int x1, .int x2]) (rest := []) ⟨hx, hb, hml, hown, hts⟩ (c_X4_addOn l D cs (q 2) H.size (u17 2) x1 x2 _ hw) (va_cwS 3 hts gX4_add_X4_addOn rfl rfl rfl (by decide +kernel) ⟨Nat.le_of_ble_eq_true rfl, Nat.le_of_ble_eq_true rfl⟩) (PC_S hPc hDc hKK) rfl rfl hl.1 rfl (lv_room (Nat.le_of_ble_eq_true rfl)) dX4_add_69 ⟨Nat.le_of_ble_eq_true rfl, Nat.le_of_ble_eq_true rfl⟩) hS (fun q _ h => hFc q h) hFc (fun r18 u18 t H locs ht hvm hw hB hz1 hk1 hS => ?_)
        obtain ⟨hP1, hD1⟩ := hB
        rw [ht] at hP1
        obtain ⟨hP, hD⟩ := va_join (wr := ([0, 1, 3, 4, 5, 6, 7, 8].filterMap (fun i => (w_Mod cs q u17)[i]?))) (w1 := w_Row cs (q 2) 336 u18) hP hD [2] [0, 1, 3, 4, 5, 6, 7, 8] rfl rfl (by decide) (by decide) hk1 hFc hP1 hD1
        have hP : va_P D vwCl (w_Mod cs q (zr2 u17 2 u18)) H := hP.sub (ws' := w_Mod cs q (zr2 u17 2 u18)) [0, 1, 8, 2, 3, 4, 5, 6, 7] rfl
        have hD : va_D A (w_Mod cs q (zr2 u17 2 u18)) := hD.sub (ws' := w_Mod cs q (zr2 u17 2 u18)) [0, 1, 8, 2, 3, 4, 5, 6, 7] (by decide) rfl
        exact W.iret (v := r18) hx hb hr (fun t ht hW => ⟨⟨r18, (zr2 u17 2 u18), rfl, hw, by rw [ht]; exact hP, hD⟩, hS.F ht⟩) hS.2.2 dX4_add_72 hlocks
      · have hw := hw.2 c16
        refine lv_iconst (v := (0 : Int32)) hx hb dX4_add_57 (by decide) ?_
        exact W.iret (v := (0 : Int32)) hx hb hr (fun t ht hW => ⟨⟨(0 : Int32), (u15), rfl, hw, by rw [ht]; exact hP, hD⟩, hS.F ht⟩) hS.2.2 dX4_add_58 hlocks
  · have hw := hw.1 c2
    refine lv_iconst (v := (1 : Int32)) hx hb dX4_add_12 (by decide) ?_
    refine lv_goto (tgt := 51) hx hb dX4_add_13 (by decide) ?_
    have hFc := va_free (wc := w_Mod cs q M) hD hS hA [0, 1, 2, 3, 4, 5, 6, 7, 8] rfl
    refine va_calli (va_runV (As := [.int (1 : Int32)]) (rest := []) ⟨hx, hb, hml, hown, hts⟩ (c_X4_refused l D cs q H.size M (1 : Int32) _ hw) (cwV 1 hts gX4_add_X4_refused rfl rfl rfl (by decide +kernel) ⟨Nat.le_of_ble_eq_true rfl, Nat.le_of_ble_eq_true rfl⟩) (PC_V hP hD hKK 0 4 rfl rfl) rfl rfl hl.1 rfl (lv_room (Nat.le_of_ble_eq_true rfl)) dX4_add_51 ⟨Nat.le_of_ble_eq_true rfl, Nat.le_of_ble_eq_true rfl⟩) hS (fun q _ h => hFc q h) hFc (fun r19 u19 t H locs ht hvm hw hB hz1 hk1 hS => ?_)
    obtain ⟨hP1, hD1⟩ := hB
    rw [ht] at hP1
    obtain ⟨b19, hw⟩ := hw
    have hD : va_D A (w_Mod cs q u19) := hD1.weaken (fun k q _ h => hFc q.1 h)
    have hP : va_P D vwCl (w_Mod cs q u19) H := hP1
    refine lv_if_eq (tgt := 59) hx hb dX4_add_54 (by decide) (fun c20 => ?_) (fun c20 => ?_)
    · have hw := hw.1 c20
      refine lv_aload_n hx hb dX4_add_59 rfl (lv_at hl 0 rfl) ?_
      have hFc := va_free (wc := w_Mod cs q u19) hD hS hA [0, 1, 2, 3, 4, 5, 6, 7, 8] rfl
      refine va_callv (va_runV (As := []) (rest := []) ⟨hx, hb, hml, hown, hts⟩ (c_X4_remember l D cs q H.size u19 _ hw) (cwV 0 hts gX4_add_X4_remember rfl rfl rfl (by decide +kernel) ⟨Nat.le_of_ble_eq_true rfl, Nat.le_of_ble_eq_true rfl⟩) (PC_V hP hD hKK 0 4 rfl rfl) rfl rfl hl.1 rfl (lv_room (Nat.le_of_ble_eq_true rfl)) dX4_add_60 ⟨Nat.le_of_ble_eq_true rfl, Nat.le_of_ble_eq_true rfl⟩) hS (fun q _ h => hFc q h) hFc (fun u21 t H locs ht hvm hw hB hz1 hk1 hS => ?_)
      obtain ⟨hP1, hD1⟩ := hB
      rw [ht] at hP1
      have hD : va_D A (w_Mod cs q u21) := hD1.weaken (fun k q _ h => hFc q.1 h)
      have hP : va_P D vwCl (w_Mod cs q u21) H := hP1
      refine lv_aload_n hx hb dX4_add_63 rfl (lv_at hl 0 rfl) ?_
      refine va_get (D := D) (ci := 4) (v := .ref (q 2)) (C := RX4) (T := TX4) (N := 11) hx hb hts (h_X4_X4_add) hown hK hP 0 rfl rfl 3 (by decide) (z_w hts 1 rfl) (fun _ h9 => h9) rfl dX4_add_64 ?_
      refine lv_iload_n hx hb dX4_add_67 rfl (lv_at hl 1 rfl) ?_
      refine lv_iload_n hx hb dX4_add_68 rfl (lv_at hl 2 rfl) ?_
      have hPc := hP.sub (ws' := w_Row cs (q 2) 336 (u21 2)) [2] rfl
      have hDc := hD.sub (ws' := w_Row cs (q 2) 336 (u21 2)) [2] (by decide) rfl
      have hFc := va_free (wc := w_Row cs (q 2) 336 (u21 2)) hD hS hA [2] rfl
      refine va_calli (va_runS (As := [.ref (q 2), .int x1, .int x2]) (rest := []) ⟨hx, hb, hml, hown, hts⟩ (c_X4_addOn l D cs (q 2) H.size (u21 2) x1 x2 _ hw) (va_cwS 3 hts gX4_add_X4_addOn rfl rfl rfl (by decide +kernel) ⟨Nat.le_of_ble_eq_true rfl, Nat.le_of_ble_eq_true rfl⟩) (PC_S hPc hDc hKK) rfl rfl hl.1 rfl (lv_room (Nat.le_of_ble_eq_true rfl)) dX4_add_69 ⟨Nat.le_of_ble_eq_true rfl, Nat.le_of_ble_eq_true rfl⟩) hS (fun q _ h => hFc q h) hFc (fun r22 u22 t H locs ht hvm hw hB hz1 hk1 hS => ?_)
      obtain ⟨hP1, hD1⟩ := hB
      rw [ht] at hP1
      obtain ⟨hP, hD⟩ := va_join (wr := ([0, 1, 3, 4, 5, 6, 7, 8].filterMap (fun i => (w_Mod cs q u21)[i]?))) (w1 := w_Row cs (q 2) 336 u22) hP hD [2] [0, 1, 3, 4, 5, 6, 7, 8] rfl rfl (by decide) (by decide) hk1 hFc hP1 hD1
      have hP : va_P D vwCl (w_Mod cs q (zr2 u21 2 u22)) H := hP.sub (ws' := w_Mod cs q (zr2 u21 2 u22)) [0, 1, 8, 2, 3, 4, 5, 6, 7] rfl
      have hD : va_D A (w_Mod cs q (zr2 u21 2 u22)) := hD.sub (ws' := w_Mod cs q (zr2 u21 2 u22)) [0, 1, 8, 2, 3, 4, 5, 6, 7] (by decide) rfl
      exact W.iret (v := r22) hx hb hr (fun t ht hW => ⟨⟨r22, (zr2 u21 2 u22), rfl, hw, by rw [ht]; exact hP, hD⟩, hS.F ht⟩) hS.2.2 dX4_add_72 hlocks
    · have hw := hw.2 c20
      refine lv_iconst (v := (0 : Int32)) hx hb dX4_add_57 (by decide) ?_
      exact W.iret (v := (0 : Int32)) hx hb hr (fun t ht hW => ⟨⟨(0 : Int32), (u19), rfl, hw, by rw [ht]; exact hP, hD⟩, hS.F ht⟩) hS.2.2 dX4_add_58 hlocks
set_option maxHeartbeats 4000000 in
set_option maxRecDepth 100000 in
theorem c_X4_add (l : Launch) (D : va_G) (cs : Nat → ClassId) (q : Nat → Nat) (sz : Nat) (M : MS) (x1 : Int32) (x2 : Int32) (Q : Int32 → MS → Prop) (hw : wp_X4_add M x1 x2 Q) : Met l yX4_add wsX4_add ({ frames := 2, cells := 0, slots := 0, locals := 46 } : Room) (va_Pc [.ref (q 0), .int x1, .int x2] (PC D cs (w_Mod cs q M) sz)) (va_Qi (fun r (u : MS) => Q r u) (fun (u : MS) t => va_P D vwCl (w_Mod cs q u) t.heap ∧ va_D (va_A (w_Mod cs q M) sz) (w_Mod cs q u)) (va_A (w_Mod cs q M) sz)) 0 0 (va_A (w_Mod cs q M) sz) := by
  refine Met.ofW (cc := cX4_add) (maxL := 3) (ret := (some .int)) (by decide) rfl ?_
  intro p e s m args below meth c s₁ B hml hv
  obtain ⟨rfl, hsz, hP, hKK, hD0⟩ := hv
  have hC : MAt p s m _ meth c RX4 cX4_add 3 (some .int) wsX4_add D cs := ⟨B.exec, B.bytes, B.returns, hml, findClass_of_methodNamed B.named, atoms_spec (ws := wsX4_add) B.pre, B.notSynchronized, hKK⟩
  have hl := lv_entry ([.ref (q 0), .int x1, .int x2]) (n := 3) (Nat.le_of_ble_eq_true rfl)
  rw [lg_entry_eq]
  generalize (lg_sl ([.ref (q 0), .int x1, .int x2]) ++ List.replicate (3 - (lg_sl ([.ref (q 0), .int x1, .int x2])).length) Slot.unset).toArray = ls at hl ⊢
  subst hsz
  have hD := hD0.self (sz := s.heap.size)
  have hA : ∀ z : Nat, s.heap.size ≤ z → va_A (w_Mod cs q M) s.heap.size z := fun z h => Or.inr h
  exact t_X4_add hC q M x1 x2 Q hA hw s.heap [] hP hD va_S.rf ls hl
theorem h_X4_X4_draw : ∀ w ∈ u_ws RX4 TX4 11, w ∈ wsX4_draw := fun _ h => List.mem_cons_of_mem _ (List.mem_append_right _ h)
set_option maxHeartbeats 4000000 in
set_option maxRecDepth 100000 in
theorem t_X4_draw {p : Program} {l : Launch} {e : Env} {s : State} {m : MethodId} {args : Array Value} {below : List Frame} {meth : Method} {c : Code} {D : va_G} {cs : Nat → ClassId} {A : Nat → Prop} (hC : MAt p s m args meth c RX4 cX4_draw 2 (some .int) wsX4_draw D cs) (q : Nat → Nat) (M : MS) (x1 : Int32) (Q : Int32 → MS → Prop) (hA : ∀ q : Nat, s.heap.size ≤ q → A q) (hw : wp_X4_draw M x1 Q) (H : Heap) (locs : List Loc) (hP : va_P D vwCl (w_Mod cs q M) H) (hD : va_D A (w_Mod cs q M)) (hS : va_S A s.heap H locs) (ls : Array Slot) (hl : lv_has ls 2 [(0, .ref (q 0)), (1, .int x1)]) : W p l e ({ frames := 3, cells := 0, slots := 0, locals := 67 } : Room) s m args below meth c H locs 0 0 (MQ below (va_Qi (fun r (u : MS) => Q r u) (fun (u : MS) t => va_P D vwCl (w_Mod cs q u) t.heap ∧ va_D A (w_Mod cs q u)) A) args s 0 0 A) (F0 m 0 ls []) := by
  obtain ⟨hx, hb, hr, hml, hown, hts, hlocks, hKK⟩ := id hC
  have hK := hKK.1
  refine lv_aload_n hx hb dX4_draw_0 rfl (lv_at hl 0 rfl) ?_
  refine lv_aload_n hx hb dX4_draw_1 rfl (lv_at hl 0 rfl) ?_
  refine va_get (D := D) (ci := 4) (v := .ref (q 2)) (C := RX4) (T := TX4) (N := 11) hx hb hts (h_X4_X4_draw) hown hK hP 0 rfl rfl 3 (by decide) (z_w hts 1 rfl) (fun _ h9 => h9) rfl dX4_draw_2 ?_
  refine lv_iload_n hx hb dX4_draw_5 rfl (lv_at hl 1 rfl) ?_
  have hPc := hP.sub (ws' := w_Row cs (q 2) 336 (M 2)) [2] rfl
  have hDc := hD.sub (ws' := w_Row cs (q 2) 336 (M 2)) [2] (by decide) rfl
  refine z_calli (va_runS (As := [.ref (q 2), .int x1]) (rest := [.ref (q 0)]) ⟨hx, hb, hml, hown, hts⟩ (c_X4_isCounter l D cs (q 2) H.size (M 2) x1 _ hw) (va_cwS 2 hts gX4_draw_X4_isCounter rfl rfl rfl (by decide +kernel) ⟨Nat.le_of_ble_eq_true rfl, Nat.le_of_ble_eq_true rfl⟩) (PC_S hPc hDc hKK) rfl rfl hl.1 rfl (lv_room (Nat.le_of_ble_eq_true rfl)) dX4_draw_6 ⟨Nat.le_of_ble_eq_true rfl, Nat.le_of_ble_eq_true rfl⟩) (fun r1 hw => ?_)
  obtain ⟨b1, hw⟩ := hw
  refine lv_if_ne (tgt := 16) hx hb dX4_draw_9 (by decide) (fun c2 => ?_) (fun c2 => ?_)
  · have hw := hw.2 c2
    refine lv_aload_n hx hb dX4_draw_16 rfl (lv_at hl 0 rfl) ?_
    refine va_get (D := D) (ci := 4) (v := .ref (q 2)) (C := RX4) (T := TX4) (N := 11) hx hb hts (h_X4_X4_draw) hown hK hP 0 rfl rfl 3 (by decide) (z_w hts 1 rfl) (fun _ h9 => h9) rfl dX4_draw_17 ?_
    refine lv_iconst (v := (3 : Int32)) hx hb dX4_draw_20 (by decide) ?_
    refine va_iald hx hb hK hP 2 0 rfl rfl (show vp_in (3 : Int32) 336 by unfold vp_in; decide) dX4_draw_21 ?_
    refine lv_bipush (v := (40 : Int32)) hx hb dX4_draw_22 (by decide) ?_
    refine lv_icmp_ge (tgt := 31) hx hb dX4_draw_24 (by decide) (fun c3 => ?_) (fun c3 => ?_)
    · have hw := hw.1 c3
      refine lv_iconst (v := (2 : Int32)) hx hb dX4_draw_31 (by decide) ?_
      have hFc := va_free (wc := w_Mod cs q M) hD hS hA [0, 1, 2, 3, 4, 5, 6, 7, 8] rfl
      refine va_calli (va_runV (As := [.int (2 : Int32)]) (rest := []) ⟨hx, hb, hml, hown, hts⟩ (c_X4_refused l D cs q H.size M (2 : Int32) _ hw) (cwV 1 hts gX4_draw_X4_refused rfl rfl rfl (by decide +kernel) ⟨Nat.le_of_ble_eq_true rfl, Nat.le_of_ble_eq_true rfl⟩) (PC_V hP hD hKK 0 4 rfl rfl) rfl rfl hl.1 rfl (lv_room (Nat.le_of_ble_eq_true rfl)) dX4_draw_32 ⟨Nat.le_of_ble_eq_true rfl, Nat.le_of_ble_eq_true rfl⟩) hS (fun q _ h => hFc q h) hFc (fun r4 u4 t H locs ht hvm hw hB hz1 hk1 hS => ?_)
      obtain ⟨hP1, hD1⟩ := hB
      rw [ht] at hP1
      obtain ⟨b4, hw⟩ := hw
      have hD : va_D A (w_Mod cs q u4) := hD1.weaken (fun k q _ h => hFc q.1 h)
      have hP : va_P D vwCl (w_Mod cs q u4) H := hP1
      refine lv_if_eq (tgt := 40) hx hb dX4_draw_35 (by decide) (fun c5 => ?_) (fun c5 => ?_)
      · have hw := hw.1 c5
        refine lv_aload_n hx hb dX4_draw_40 rfl (lv_at hl 0 rfl) ?_
        have hFc := va_free (wc := w_Mod cs q u4) hD hS hA [0, 1, 2, 3, 4, 5, 6, 7, 8] rfl
        refine va_callv (va_runV (As := []) (rest := []) ⟨hx, hb, hml, hown, hts⟩ (c_X4_remember l D cs q H.size u4 _ hw) (cwV 0 hts gX4_draw_X4_remember rfl rfl rfl (by decide +kernel) ⟨Nat.le_of_ble_eq_true rfl, Nat.le_of_ble_eq_true rfl⟩) (PC_V hP hD hKK 0 4 rfl rfl) rfl rfl hl.1 rfl (lv_room (Nat.le_of_ble_eq_true rfl)) dX4_draw_41 ⟨Nat.le_of_ble_eq_true rfl, Nat.le_of_ble_eq_true rfl⟩) hS (fun q _ h => hFc q h) hFc (fun u6 t H locs ht hvm hw hB hz1 hk1 hS => ?_)
        obtain ⟨hP1, hD1⟩ := hB
        rw [ht] at hP1
        have hD : va_D A (w_Mod cs q u6) := hD1.weaken (fun k q _ h => hFc q.1 h)
        have hP : va_P D vwCl (w_Mod cs q u6) H := hP1
        refine lv_aload_n hx hb dX4_draw_44 rfl (lv_at hl 0 rfl) ?_
        refine va_get (D := D) (ci := 4) (v := .ref (q 2)) (C := RX4) (T := TX4) (N := 11) hx hb hts (h_X4_X4_draw) hown hK hP 0 rfl rfl 3 (by decide) (z_w hts 1 rfl) (fun _ h9 => h9) rfl dX4_draw_45 ?_
        refine lv_iload_n hx hb dX4_draw_48 rfl (lv_at hl 1 rfl) ?_
        have hPc := hP.sub (ws' := w_Row cs (q 2) 336 (u6 2)) [2] rfl
        have hDc := hD.sub (ws' := w_Row cs (q 2) 336 (u6 2)) [2] (by decide) rfl
        have hFc := va_free (wc := w_Row cs (q 2) 336 (u6 2)) hD hS hA [2] rfl
        refine va_calli (va_runS (As := [.ref (q 2), .int x1]) (rest := []) ⟨hx, hb, hml, hown, hts⟩ (c_X4_drawOn l D cs (q 2) H.size (u6 2) x1 _ hw) (va_cwS 2 hts gX4_draw_X4_drawOn rfl rfl rfl (by decide +kernel) ⟨Nat.le_of_ble_eq_true rfl, Nat.le_of_ble_eq_true rfl⟩) (PC_S hPc hDc hKK) rfl rfl hl.1 rfl (lv_room (Nat.le_of_ble_eq_true rfl)) dX4_draw_49 ⟨Nat.le_of_ble_eq_true rfl, Nat.le_of_ble_eq_true rfl⟩) hS (fun q _ h => hFc q h) hFc (fun r7 u7 t H locs ht hvm hw hB hz1 hk1 hS => ?_)
        obtain ⟨hP1, hD1⟩ := hB
        rw [ht] at hP1
        obtain ⟨hP, hD⟩ := va_join (wr := ([0, 1, 3, 4, 5, 6, 7, 8].filterMap (fun i => (w_Mod cs q u6)[i]?))) (w1 := w_Row cs (q 2) 336 u7) hP hD [2] [0, 1, 3, 4, 5, 6, 7, 8] rfl rfl (by decide) (by decide) hk1 hFc hP1 hD1
        have hP : va_P D vwCl (w_Mod cs q (zr2 u6 2 u7)) H := hP.sub (ws' := w_Mod cs q (zr2 u6 2 u7)) [0, 1, 8, 2, 3, 4, 5, 6, 7] rfl
        have hD : va_D A (w_Mod cs q (zr2 u6 2 u7)) := hD.sub (ws' := w_Mod cs q (zr2 u6 2 u7)) [0, 1, 8, 2, 3, 4, 5, 6, 7] (by decide) rfl
        exact W.iret (v := r7) hx hb hr (fun t ht hW => ⟨⟨r7, (zr2 u6 2 u7), rfl, hw, by rw [ht]; exact hP, hD⟩, hS.F ht⟩) hS.2.2 dX4_draw_52 hlocks
      · have hw := hw.2 c5
        refine lv_iconst (v := (0 : Int32)) hx hb dX4_draw_38 (by decide) ?_
        exact W.iret (v := (0 : Int32)) hx hb hr (fun t ht hW => ⟨⟨(0 : Int32), (u4), rfl, hw, by rw [ht]; exact hP, hD⟩, hS.F ht⟩) hS.2.2 dX4_draw_39 hlocks
    · have hw := hw.2 c3
      refine lv_iconst (v := (0 : Int32)) hx hb dX4_draw_27 (by decide) ?_
      refine lv_goto (tgt := 32) hx hb dX4_draw_28 (by decide) ?_
      have hFc := va_free (wc := w_Mod cs q M) hD hS hA [0, 1, 2, 3, 4, 5, 6, 7, 8] rfl
      refine va_calli (va_runV (As := [.int (0 : Int32)]) (rest := []) ⟨hx, hb, hml, hown, hts⟩ (c_X4_refused l D cs q H.size M (0 : Int32) _ hw) (cwV 1 hts gX4_draw_X4_refused rfl rfl rfl (by decide +kernel) ⟨Nat.le_of_ble_eq_true rfl, Nat.le_of_ble_eq_true rfl⟩) (PC_V hP hD hKK 0 4 rfl rfl) rfl rfl hl.1 rfl (lv_room (Nat.le_of_ble_eq_true rfl)) dX4_draw_32 ⟨Nat.le_of_ble_eq_true rfl, Nat.le_of_ble_eq_true rfl⟩) hS (fun q _ h => hFc q h) hFc (fun r8 u8 t H locs ht hvm hw hB hz1 hk1 hS => ?_)
      obtain ⟨hP1, hD1⟩ := hB
      rw [ht] at hP1
      obtain ⟨b8, hw⟩ := hw
      have hD : va_D A (w_Mod cs q u8) := hD1.weaken (fun k q _ h => hFc q.1 h)
      have hP : va_P D vwCl (w_Mod cs q u8) H := hP1
      refine lv_if_eq (tgt := 40) hx hb dX4_draw_35 (by decide) (fun c9 => ?_) (fun c9 => ?_)
      · have hw := hw.1 c9
        refine lv_aload_n hx hb dX4_draw_40 rfl (lv_at hl 0 rfl) ?_
        have hFc := va_free (wc := w_Mod cs q u8) hD hS hA [0, 1, 2, 3, 4, 5, 6, 7, 8] rfl
        refine va_callv (va_runV (As := []) (rest := []) ⟨hx, hb, hml, hown, hts⟩ (c_X4_remember l D cs q H.size u8 _ hw) (cwV 0 hts gX4_draw_X4_remember rfl rfl rfl (by decide +kernel) ⟨Nat.le_of_ble_eq_true rfl, Nat.le_of_ble_eq_true rfl⟩) (PC_V hP hD hKK 0 4 rfl rfl) rfl rfl hl.1 rfl (lv_room (Nat.le_of_ble_eq_true rfl)) dX4_draw_41 ⟨Nat.le_of_ble_eq_true rfl, Nat.le_of_ble_eq_true rfl⟩) hS (fun q _ h => hFc q h) hFc (fun u10 t H locs ht hvm hw hB hz1 hk1 hS => ?_)
        obtain ⟨hP1, hD1⟩ := hB
        rw [ht] at hP1
        have hD : va_D A (w_Mod cs q u10) := hD1.weaken (fun k q _ h => hFc q.1 h)
        have hP : va_P D vwCl (w_Mod cs q u10) H := hP1
        refine lv_aload_n hx hb dX4_draw_44 rfl (lv_at hl 0 rfl) ?_
        refine va_get (D := D) (ci := 4) (v := .ref (q 2)) (C := RX4) (T := TX4) (N := 11) hx hb hts (h_X4_X4_draw) hown hK hP 0 rfl rfl 3 (by decide) (z_w hts 1 rfl) (fun _ h9 => h9) rfl dX4_draw_45 ?_
        refine lv_iload_n hx hb dX4_draw_48 rfl (lv_at hl 1 rfl) ?_
        have hPc := hP.sub (ws' := w_Row cs (q 2) 336 (u10 2)) [2] rfl
        have hDc := hD.sub (ws' := w_Row cs (q 2) 336 (u10 2)) [2] (by decide) rfl
        have hFc := va_free (wc := w_Row cs (q 2) 336 (u10 2)) hD hS hA [2] rfl
        refine va_calli (va_runS (As := [.ref (q 2), .int x1]) (rest := []) ⟨hx, hb, hml, hown, hts⟩ (c_X4_drawOn l D cs (q 2) H.size (u10 2) x1 _ hw) (va_cwS 2 hts gX4_draw_X4_drawOn rfl rfl rfl (by decide +kernel) ⟨Nat.le_of_ble_eq_true rfl, Nat.le_of_ble_eq_true rfl⟩) (PC_S hPc hDc hKK) rfl rfl hl.1 rfl (lv_room (Nat.le_of_ble_eq_true rfl)) dX4_draw_49 ⟨Nat.le_of_ble_eq_true rfl, Nat.le_of_ble_eq_true rfl⟩) hS (fun q _ h => hFc q h) hFc (fun r11 u11 t H locs ht hvm hw hB hz1 hk1 hS => ?_)
        obtain ⟨hP1, hD1⟩ := hB
        rw [ht] at hP1
        obtain ⟨hP, hD⟩ := va_join (wr := ([0, 1, 3, 4, 5, 6, 7, 8].filterMap (fun i => (w_Mod cs q u10)[i]?))) (w1 := w_Row cs (q 2) 336 u11) hP hD [2] [0, 1, 3, 4, 5, 6, 7, 8] rfl rfl (by decide) (by decide) hk1 hFc hP1 hD1
        have hP : va_P D vwCl (w_Mod cs q (zr2 u10 2 u11)) H := hP.sub (ws' := w_Mod cs q (zr2 u10 2 u11)) [0, 1, 8, 2, 3, 4, 5, 6, 7] rfl
        have hD : va_D A (w_Mod cs q (zr2 u10 2 u11)) := hD.sub (ws' := w_Mod cs q (zr2 u10 2 u11)) [0, 1, 8, 2, 3, 4, 5, 6, 7] (by decide) rfl
        exact W.iret (v := r11) hx hb hr (fun t ht hW => ⟨⟨r11, (zr2 u10 2 u11), rfl, hw, by rw [ht]; exact hP, hD⟩, hS.F ht⟩) hS.2.2 dX4_draw_52 hlocks
      · have hw := hw.2 c9
        refine lv_iconst (v := (0 : Int32)) hx hb dX4_draw_38 (by decide) ?_
        exact W.iret (v := (0 : Int32)) hx hb hr (fun t ht hW => ⟨⟨(0 : Int32), (u8), rfl, hw, by rw [ht]; exact hP, hD⟩, hS.F ht⟩) hS.2.2 dX4_draw_39 hlocks
  · have hw := hw.1 c2
    refine lv_iconst (v := (1 : Int32)) hx hb dX4_draw_12 (by decide) ?_
    refine lv_goto (tgt := 32) hx hb dX4_draw_13 (by decide) ?_
    have hFc := va_free (wc := w_Mod cs q M) hD hS hA [0, 1, 2, 3, 4, 5, 6, 7, 8] rfl
    refine va_calli (va_runV (As := [.int (1 : Int32)]) (rest := []) ⟨hx, hb, hml, hown, hts⟩ (c_X4_refused l D cs q H.size M (1 : Int32) _ hw) (cwV 1 hts gX4_draw_X4_refused rfl rfl rfl (by decide +kernel) ⟨Nat.le_of_ble_eq_true rfl, Nat.le_of_ble_eq_true rfl⟩) (PC_V hP hD hKK 0 4 rfl rfl) rfl rfl hl.1 rfl (lv_room (Nat.le_of_ble_eq_true rfl)) dX4_draw_32 ⟨Nat.le_of_ble_eq_true rfl, Nat.le_of_ble_eq_true rfl⟩) hS (fun q _ h => hFc q h) hFc (fun r12 u12 t H locs ht hvm hw hB hz1 hk1 hS => ?_)
    obtain ⟨hP1, hD1⟩ := hB
    rw [ht] at hP1
    obtain ⟨b12, hw⟩ := hw
    have hD : va_D A (w_Mod cs q u12) := hD1.weaken (fun k q _ h => hFc q.1 h)
    have hP : va_P D vwCl (w_Mod cs q u12) H := hP1
    refine lv_if_eq (tgt := 40) hx hb dX4_draw_35 (by decide) (fun c13 => ?_) (fun c13 => ?_)
    · have hw := hw.1 c13
      refine lv_aload_n hx hb dX4_draw_40 rfl (lv_at hl 0 rfl) ?_
      have hFc := va_free (wc := w_Mod cs q u12) hD hS hA [0, 1, 2, 3, 4, 5, 6, 7, 8] rfl
      refine va_callv (va_runV (As := []) (rest := []) ⟨hx, hb, hml, hown, hts⟩ (c_X4_remember l D cs q H.size u12 _ hw) (cwV 0 hts gX4_draw_X4_remember rfl rfl rfl (by decide +kernel) ⟨Nat.le_of_ble_eq_true rfl, Nat.le_of_ble_eq_true rfl⟩) (PC_V hP hD hKK 0 4 rfl rfl) rfl rfl hl.1 rfl (lv_room (Nat.le_of_ble_eq_true rfl)) dX4_draw_41 ⟨Nat.le_of_ble_eq_true rfl, Nat.le_of_ble_eq_true rfl⟩) hS (fun q _ h => hFc q h) hFc (fun u14 t H locs ht hvm hw hB hz1 hk1 hS => ?_)
      obtain ⟨hP1, hD1⟩ := hB
      rw [ht] at hP1
      have hD : va_D A (w_Mod cs q u14) := hD1.weaken (fun k q _ h => hFc q.1 h)
      have hP : va_P D vwCl (w_Mod cs q u14) H := hP1
      refine lv_aload_n hx hb dX4_draw_44 rfl (lv_at hl 0 rfl) ?_
      refine va_get (D := D) (ci := 4) (v := .ref (q 2)) (C := RX4) (T := TX4) (N := 11) hx hb hts (h_X4_X4_draw) hown hK hP 0 rfl rfl 3 (by decide) (z_w hts 1 rfl) (fun _ h9 => h9) rfl dX4_draw_45 ?_
      refine lv_iload_n hx hb dX4_draw_48 rfl (lv_at hl 1 rfl) ?_
      have hPc := hP.sub (ws' := w_Row cs (q 2) 336 (u14 2)) [2] rfl
      have hDc := hD.sub (ws' := w_Row cs (q 2) 336 (u14 2)) [2] (by decide) rfl
      have hFc := va_free (wc := w_Row cs (q 2) 336 (u14 2)) hD hS hA [2] rfl
      refine va_calli (va_runS (As := [.ref (q 2), .int x1]) (rest := []) ⟨hx, hb, hml, hown, hts⟩ (c_X4_drawOn l D cs (q 2) H.size (u14 2) x1 _ hw) (va_cwS 2 hts gX4_draw_X4_drawOn rfl rfl rfl (by decide +kernel) ⟨Nat.le_of_ble_eq_true rfl, Nat.le_of_ble_eq_true rfl⟩) (PC_S hPc hDc hKK) rfl rfl hl.1 rfl (lv_room (Nat.le_of_ble_eq_true rfl)) dX4_draw_49 ⟨Nat.le_of_ble_eq_true rfl, Nat.le_of_ble_eq_true rfl⟩) hS (fun q _ h => hFc q h) hFc (fun r15 u15 t H locs ht hvm hw hB hz1 hk1 hS => ?_)
      obtain ⟨hP1, hD1⟩ := hB
      rw [ht] at hP1
      obtain ⟨hP, hD⟩ := va_join (wr := ([0, 1, 3, 4, 5, 6, 7, 8].filterMap (fun i => (w_Mod cs q u14)[i]?))) (w1 := w_Row cs (q 2) 336 u15) hP hD [2] [0, 1, 3, 4, 5, 6, 7, 8] rfl rfl (by decide) (by decide) hk1 hFc hP1 hD1
      have hP : va_P D vwCl (w_Mod cs q (zr2 u14 2 u15)) H := hP.sub (ws' := w_Mod cs q (zr2 u14 2 u15)) [0, 1, 8, 2, 3, 4, 5, 6, 7] rfl
      have hD : va_D A (w_Mod cs q (zr2 u14 2 u15)) := hD.sub (ws' := w_Mod cs q (zr2 u14 2 u15)) [0, 1, 8, 2, 3, 4, 5, 6, 7] (by decide) rfl
      exact W.iret (v := r15) hx hb hr (fun t ht hW => ⟨⟨r15, (zr2 u14 2 u15), rfl, hw, by rw [ht]; exact hP, hD⟩, hS.F ht⟩) hS.2.2 dX4_draw_52 hlocks
    · have hw := hw.2 c13
      refine lv_iconst (v := (0 : Int32)) hx hb dX4_draw_38 (by decide) ?_
      exact W.iret (v := (0 : Int32)) hx hb hr (fun t ht hW => ⟨⟨(0 : Int32), (u12), rfl, hw, by rw [ht]; exact hP, hD⟩, hS.F ht⟩) hS.2.2 dX4_draw_39 hlocks
set_option maxHeartbeats 4000000 in
set_option maxRecDepth 100000 in
theorem c_X4_draw (l : Launch) (D : va_G) (cs : Nat → ClassId) (q : Nat → Nat) (sz : Nat) (M : MS) (x1 : Int32) (Q : Int32 → MS → Prop) (hw : wp_X4_draw M x1 Q) : Met l yX4_draw wsX4_draw ({ frames := 3, cells := 0, slots := 0, locals := 67 } : Room) (va_Pc [.ref (q 0), .int x1] (PC D cs (w_Mod cs q M) sz)) (va_Qi (fun r (u : MS) => Q r u) (fun (u : MS) t => va_P D vwCl (w_Mod cs q u) t.heap ∧ va_D (va_A (w_Mod cs q M) sz) (w_Mod cs q u)) (va_A (w_Mod cs q M) sz)) 0 0 (va_A (w_Mod cs q M) sz) := by
  refine Met.ofW (cc := cX4_draw) (maxL := 2) (ret := (some .int)) (by decide) rfl ?_
  intro p e s m args below meth c s₁ B hml hv
  obtain ⟨rfl, hsz, hP, hKK, hD0⟩ := hv
  have hC : MAt p s m _ meth c RX4 cX4_draw 2 (some .int) wsX4_draw D cs := ⟨B.exec, B.bytes, B.returns, hml, findClass_of_methodNamed B.named, atoms_spec (ws := wsX4_draw) B.pre, B.notSynchronized, hKK⟩
  have hl := lv_entry ([.ref (q 0), .int x1]) (n := 2) (Nat.le_of_ble_eq_true rfl)
  rw [lg_entry_eq]
  generalize (lg_sl ([.ref (q 0), .int x1]) ++ List.replicate (2 - (lg_sl ([.ref (q 0), .int x1])).length) Slot.unset).toArray = ls at hl ⊢
  subst hsz
  have hD := hD0.self (sz := s.heap.size)
  have hA : ∀ z : Nat, s.heap.size ≤ z → va_A (w_Mod cs q M) s.heap.size z := fun z h => Or.inr h
  exact t_X4_draw hC q M x1 Q hA hw s.heap [] hP hD va_S.rf ls hl
theorem h_X4_X4_beats : ∀ w ∈ u_ws RX4 TX4 11, w ∈ wsX4_beats := fun _ h => List.mem_cons_of_mem _ (List.mem_append_right _ h)
set_option maxHeartbeats 4000000 in
set_option maxRecDepth 100000 in
theorem t_X4_beats {p : Program} {l : Launch} {e : Env} {s : State} {m : MethodId} {args : Array Value} {below : List Frame} {meth : Method} {c : Code} {D : va_G} {cs : Nat → ClassId} {A : Nat → Prop} (hC : MAt p s m args meth c RX4 cX4_beats 2 (some .int) wsX4_beats D cs) (q : Nat → Nat) (M : MS) (x1 : Int32) (Q : Int32 → MS → Prop) (hA : ∀ q : Nat, s.heap.size ≤ q → A q) (hw : wp_X4_beats M x1 Q) (H : Heap) (locs : List Loc) (hP : va_P D vwCl (w_Mod cs q M) H) (hD : va_D A (w_Mod cs q M)) (hS : va_S A s.heap H locs) (ls : Array Slot) (hl : lv_has ls 2 [(0, .ref (q 0)), (1, .int x1)]) : W p l e ({ frames := 4, cells := 0, slots := 0, locals := 88 } : Room) s m args below meth c H locs 0 0 (MQ below (va_Qi (fun r (u : MS) => Q r u) (fun (u : MS) t => va_P D vwCl (w_Mod cs q u) t.heap ∧ va_D A (w_Mod cs q u)) A) args s 0 0 A) (F0 m 0 ls []) := by
  obtain ⟨hx, hb, hr, hml, hown, hts, hlocks, hKK⟩ := id hC
  have hK := hKK.1
  refine lv_aload_n hx hb dX4_beats_0 rfl (lv_at hl 0 rfl) ?_
  refine lv_iload_n hx hb dX4_beats_1 rfl (lv_at hl 1 rfl) ?_
  refine lv_i2l (v := x1.toInt64) hx hb dX4_beats_2 rfl ?_
  refine lv_lconst (v := (1 : Int64)) hx hb dX4_beats_3 (by decide) ?_
  refine lv_ldc2 (v := (99 : Int64)) hx hb hown (z_w hts 1 (w := .constantLong RX4 150 (99)) rfl) dX4_beats_4 ?_
  have hPc := hP.sub (ws' := ([] : va_W)) [] rfl
  have hDc := hD.sub (ws' := ([] : va_W)) [] (by decide) rfl
  refine z_calli (va_runS (As := [.long x1.toInt64, .long (1 : Int64), .long (99 : Int64)]) (rest := [.ref (q 0)]) ⟨hx, hb, hml, hown, hts⟩ (c_X4_in l D cs  H.size x1.toInt64 (1 : Int64) (99 : Int64) _ hw) (va_cwS 3 hts gX4_beats_X4_in rfl rfl rfl (by decide +kernel) ⟨Nat.le_of_ble_eq_true rfl, Nat.le_of_ble_eq_true rfl⟩) (PC_S hPc hDc hKK) rfl rfl hl.1 rfl (lv_room (Nat.le_of_ble_eq_true rfl)) dX4_beats_7 ⟨Nat.le_of_ble_eq_true rfl, Nat.le_of_ble_eq_true rfl⟩) (fun r1 hw => ?_)
  obtain ⟨b1, hw⟩ := hw
  refine lv_if_eq (tgt := 17) hx hb dX4_beats_10 (by decide) (fun c2 => ?_) (fun c2 => ?_)
  · have hw := hw.1 c2
    refine lv_iconst (v := (1 : Int32)) hx hb dX4_beats_17 (by decide) ?_
    have hFc := va_free (wc := w_Mod cs q M) hD hS hA [0, 1, 2, 3, 4, 5, 6, 7, 8] rfl
    refine va_calli (va_runV (As := [.int (1 : Int32)]) (rest := []) ⟨hx, hb, hml, hown, hts⟩ (c_X4_refused l D cs q H.size M (1 : Int32) _ hw) (cwV 1 hts gX4_beats_X4_refused rfl rfl rfl (by decide +kernel) ⟨Nat.le_of_ble_eq_true rfl, Nat.le_of_ble_eq_true rfl⟩) (PC_V hP hD hKK 0 4 rfl rfl) rfl rfl hl.1 rfl (lv_room (Nat.le_of_ble_eq_true rfl)) dX4_beats_18 ⟨Nat.le_of_ble_eq_true rfl, Nat.le_of_ble_eq_true rfl⟩) hS (fun q _ h => hFc q h) hFc (fun r3 u3 t H locs ht hvm hw hB hz1 hk1 hS => ?_)
    obtain ⟨hP1, hD1⟩ := hB
    rw [ht] at hP1
    obtain ⟨b3, hw⟩ := hw
    have hD : va_D A (w_Mod cs q u3) := hD1.weaken (fun k q _ h => hFc q.1 h)
    have hP : va_P D vwCl (w_Mod cs q u3) H := hP1
    refine lv_if_eq (tgt := 26) hx hb dX4_beats_21 (by decide) (fun c4 => ?_) (fun c4 => ?_)
    · have hw := hw.1 c4
      refine lv_aload_n hx hb dX4_beats_26 rfl (lv_at hl 0 rfl) ?_
      have hFc := va_free (wc := w_Mod cs q u3) hD hS hA [0, 1, 2, 3, 4, 5, 6, 7, 8] rfl
      refine va_callv (va_runV (As := []) (rest := []) ⟨hx, hb, hml, hown, hts⟩ (c_X4_remember l D cs q H.size u3 _ hw) (cwV 0 hts gX4_beats_X4_remember rfl rfl rfl (by decide +kernel) ⟨Nat.le_of_ble_eq_true rfl, Nat.le_of_ble_eq_true rfl⟩) (PC_V hP hD hKK 0 4 rfl rfl) rfl rfl hl.1 rfl (lv_room (Nat.le_of_ble_eq_true rfl)) dX4_beats_27 ⟨Nat.le_of_ble_eq_true rfl, Nat.le_of_ble_eq_true rfl⟩) hS (fun q _ h => hFc q h) hFc (fun u5 t H locs ht hvm hw hB hz1 hk1 hS => ?_)
      obtain ⟨hP1, hD1⟩ := hB
      rw [ht] at hP1
      have hD : va_D A (w_Mod cs q u5) := hD1.weaken (fun k q _ h => hFc q.1 h)
      have hP : va_P D vwCl (w_Mod cs q u5) H := hP1
      refine lv_aload_n hx hb dX4_beats_30 rfl (lv_at hl 0 rfl) ?_
      refine lv_aload_n hx hb dX4_beats_31 rfl (lv_at hl 0 rfl) ?_
      refine va_get (D := D) (ci := 4) (v := .ref (q 2)) (C := RX4) (T := TX4) (N := 11) hx hb hts (h_X4_X4_beats) hown hK hP 0 rfl rfl 3 (by decide) (z_w hts 2 rfl) (fun _ h9 => h9) rfl dX4_beats_32 ?_
      refine lv_iload_n hx hb dX4_beats_35 rfl (lv_at hl 1 rfl) ?_
      have hFc := va_free (wc := w_Mod cs q u5) hD hS hA [0, 1, 2, 3, 4, 5, 6, 7, 8] rfl
      refine va_calli (va_runV (As := [.ref (q 2), .int x1]) (rest := []) ⟨hx, hb, hml, hown, hts⟩ (c_X4_beatsOn_n l D cs q H.size u5 x1 _ hw) (cwV 2 hts gX4_beats_X4_beatsOn rfl rfl rfl (by decide +kernel) ⟨Nat.le_of_ble_eq_true rfl, Nat.le_of_ble_eq_true rfl⟩) (PC_V hP hD hKK 0 4 rfl rfl) rfl rfl hl.1 rfl (lv_room (Nat.le_of_ble_eq_true rfl)) dX4_beats_36 ⟨Nat.le_of_ble_eq_true rfl, Nat.le_of_ble_eq_true rfl⟩) hS (fun q _ h => hFc q h) hFc (fun r6 u6 t H locs ht hvm hw hB hz1 hk1 hS => ?_)
      obtain ⟨hP1, hD1⟩ := hB
      rw [ht] at hP1
      have hD : va_D A (w_Mod cs q u6) := hD1.weaken (fun k q _ h => hFc q.1 h)
      have hP : va_P D vwCl (w_Mod cs q u6) H := hP1
      exact W.iret (v := r6) hx hb hr (fun t ht hW => ⟨⟨r6, (u6), rfl, hw, by rw [ht]; exact hP, hD⟩, hS.F ht⟩) hS.2.2 dX4_beats_39 hlocks
    · have hw := hw.2 c4
      refine lv_iconst (v := (0 : Int32)) hx hb dX4_beats_24 (by decide) ?_
      exact W.iret (v := (0 : Int32)) hx hb hr (fun t ht hW => ⟨⟨(0 : Int32), (u3), rfl, hw, by rw [ht]; exact hP, hD⟩, hS.F ht⟩) hS.2.2 dX4_beats_25 hlocks
  · have hw := hw.2 c2
    refine lv_iconst (v := (0 : Int32)) hx hb dX4_beats_13 (by decide) ?_
    refine lv_goto (tgt := 18) hx hb dX4_beats_14 (by decide) ?_
    have hFc := va_free (wc := w_Mod cs q M) hD hS hA [0, 1, 2, 3, 4, 5, 6, 7, 8] rfl
    refine va_calli (va_runV (As := [.int (0 : Int32)]) (rest := []) ⟨hx, hb, hml, hown, hts⟩ (c_X4_refused l D cs q H.size M (0 : Int32) _ hw) (cwV 1 hts gX4_beats_X4_refused rfl rfl rfl (by decide +kernel) ⟨Nat.le_of_ble_eq_true rfl, Nat.le_of_ble_eq_true rfl⟩) (PC_V hP hD hKK 0 4 rfl rfl) rfl rfl hl.1 rfl (lv_room (Nat.le_of_ble_eq_true rfl)) dX4_beats_18 ⟨Nat.le_of_ble_eq_true rfl, Nat.le_of_ble_eq_true rfl⟩) hS (fun q _ h => hFc q h) hFc (fun r7 u7 t H locs ht hvm hw hB hz1 hk1 hS => ?_)
    obtain ⟨hP1, hD1⟩ := hB
    rw [ht] at hP1
    obtain ⟨b7, hw⟩ := hw
    have hD : va_D A (w_Mod cs q u7) := hD1.weaken (fun k q _ h => hFc q.1 h)
    have hP : va_P D vwCl (w_Mod cs q u7) H := hP1
    refine lv_if_eq (tgt := 26) hx hb dX4_beats_21 (by decide) (fun c8 => ?_) (fun c8 => ?_)
    · have hw := hw.1 c8
      refine lv_aload_n hx hb dX4_beats_26 rfl (lv_at hl 0 rfl) ?_
      have hFc := va_free (wc := w_Mod cs q u7) hD hS hA [0, 1, 2, 3, 4, 5, 6, 7, 8] rfl
      refine va_callv (va_runV (As := []) (rest := []) ⟨hx, hb, hml, hown, hts⟩ (c_X4_remember l D cs q H.size u7 _ hw) (cwV 0 hts gX4_beats_X4_remember rfl rfl rfl (by decide +kernel) ⟨Nat.le_of_ble_eq_true rfl, Nat.le_of_ble_eq_true rfl⟩) (PC_V hP hD hKK 0 4 rfl rfl) rfl rfl hl.1 rfl (lv_room (Nat.le_of_ble_eq_true rfl)) dX4_beats_27 ⟨Nat.le_of_ble_eq_true rfl, Nat.le_of_ble_eq_true rfl⟩) hS (fun q _ h => hFc q h) hFc (fun u9 t H locs ht hvm hw hB hz1 hk1 hS => ?_)
      obtain ⟨hP1, hD1⟩ := hB
      rw [ht] at hP1
      have hD : va_D A (w_Mod cs q u9) := hD1.weaken (fun k q _ h => hFc q.1 h)
      have hP : va_P D vwCl (w_Mod cs q u9) H := hP1
      refine lv_aload_n hx hb dX4_beats_30 rfl (lv_at hl 0 rfl) ?_
      refine lv_aload_n hx hb dX4_beats_31 rfl (lv_at hl 0 rfl) ?_
      refine va_get (D := D) (ci := 4) (v := .ref (q 2)) (C := RX4) (T := TX4) (N := 11) hx hb hts (h_X4_X4_beats) hown hK hP 0 rfl rfl 3 (by decide) (z_w hts 2 rfl) (fun _ h9 => h9) rfl dX4_beats_32 ?_
      refine lv_iload_n hx hb dX4_beats_35 rfl (lv_at hl 1 rfl) ?_
      have hFc := va_free (wc := w_Mod cs q u9) hD hS hA [0, 1, 2, 3, 4, 5, 6, 7, 8] rfl
      refine va_calli (va_runV (As := [.ref (q 2), .int x1]) (rest := []) ⟨hx, hb, hml, hown, hts⟩ (c_X4_beatsOn_n l D cs q H.size u9 x1 _ hw) (cwV 2 hts gX4_beats_X4_beatsOn rfl rfl rfl (by decide +kernel) ⟨Nat.le_of_ble_eq_true rfl, Nat.le_of_ble_eq_true rfl⟩) (PC_V hP hD hKK 0 4 rfl rfl) rfl rfl hl.1 rfl (lv_room (Nat.le_of_ble_eq_true rfl)) dX4_beats_36 ⟨Nat.le_of_ble_eq_true rfl, Nat.le_of_ble_eq_true rfl⟩) hS (fun q _ h => hFc q h) hFc (fun r10 u10 t H locs ht hvm hw hB hz1 hk1 hS => ?_)
      obtain ⟨hP1, hD1⟩ := hB
      rw [ht] at hP1
      have hD : va_D A (w_Mod cs q u10) := hD1.weaken (fun k q _ h => hFc q.1 h)
      have hP : va_P D vwCl (w_Mod cs q u10) H := hP1
      exact W.iret (v := r10) hx hb hr (fun t ht hW => ⟨⟨r10, (u10), rfl, hw, by rw [ht]; exact hP, hD⟩, hS.F ht⟩) hS.2.2 dX4_beats_39 hlocks
    · have hw := hw.2 c8
      refine lv_iconst (v := (0 : Int32)) hx hb dX4_beats_24 (by decide) ?_
      exact W.iret (v := (0 : Int32)) hx hb hr (fun t ht hW => ⟨⟨(0 : Int32), (u7), rfl, hw, by rw [ht]; exact hP, hD⟩, hS.F ht⟩) hS.2.2 dX4_beats_25 hlocks
set_option maxHeartbeats 4000000 in
set_option maxRecDepth 100000 in
theorem c_X4_beats (l : Launch) (D : va_G) (cs : Nat → ClassId) (q : Nat → Nat) (sz : Nat) (M : MS) (x1 : Int32) (Q : Int32 → MS → Prop) (hw : wp_X4_beats M x1 Q) : Met l yX4_beats wsX4_beats ({ frames := 4, cells := 0, slots := 0, locals := 88 } : Room) (va_Pc [.ref (q 0), .int x1] (PC D cs (w_Mod cs q M) sz)) (va_Qi (fun r (u : MS) => Q r u) (fun (u : MS) t => va_P D vwCl (w_Mod cs q u) t.heap ∧ va_D (va_A (w_Mod cs q M) sz) (w_Mod cs q u)) (va_A (w_Mod cs q M) sz)) 0 0 (va_A (w_Mod cs q M) sz) := by
  refine Met.ofW (cc := cX4_beats) (maxL := 2) (ret := (some .int)) (by decide) rfl ?_
  intro p e s m args below meth c s₁ B hml hv
  obtain ⟨rfl, hsz, hP, hKK, hD0⟩ := hv
  have hC : MAt p s m _ meth c RX4 cX4_beats 2 (some .int) wsX4_beats D cs := ⟨B.exec, B.bytes, B.returns, hml, findClass_of_methodNamed B.named, atoms_spec (ws := wsX4_beats) B.pre, B.notSynchronized, hKK⟩
  have hl := lv_entry ([.ref (q 0), .int x1]) (n := 2) (Nat.le_of_ble_eq_true rfl)
  rw [lg_entry_eq]
  generalize (lg_sl ([.ref (q 0), .int x1]) ++ List.replicate (2 - (lg_sl ([.ref (q 0), .int x1])).length) Slot.unset).toArray = ls at hl ⊢
  subst hsz
  have hD := hD0.self (sz := s.heap.size)
  have hA : ∀ z : Nat, s.heap.size ≤ z → va_A (w_Mod cs q M) s.heap.size z := fun z h => Or.inr h
  exact t_X4_beats hC q M x1 Q hA hw s.heap [] hP hD va_S.rf ls hl
theorem h_X4_X4_setPace : ∀ w ∈ u_ws RX4 TX4 11, w ∈ wsX4_setPace := fun _ h => List.mem_cons_of_mem _ (List.mem_append_right _ h)
set_option maxHeartbeats 4000000 in
set_option maxRecDepth 100000 in
theorem t_X4_setPace {p : Program} {l : Launch} {e : Env} {s : State} {m : MethodId} {args : Array Value} {below : List Frame} {meth : Method} {c : Code} {D : va_G} {cs : Nat → ClassId} {A : Nat → Prop} (hC : MAt p s m args meth c RX4 cX4_setPace 3 (some .int) wsX4_setPace D cs) (q : Nat → Nat) (M : MS) (x1 : Int32) (Q : Int32 → MS → Prop) (hA : ∀ q : Nat, s.heap.size ≤ q → A q) (hw : wp_X4_setPace M x1 Q) (H : Heap) (locs : List Loc) (hP : va_P D vwCl (w_Mod cs q M) H) (hD : va_D A (w_Mod cs q M)) (hS : va_S A s.heap H locs) (ls : Array Slot) (hl : lv_has ls 3 [(0, .ref (q 0)), (1, .int x1)]) : W p l e ({ frames := 2, cells := 0, slots := 0, locals := 45 } : Room) s m args below meth c H locs 0 0 (MQ below (va_Qi (fun r (u : MS) => Q r u) (fun (u : MS) t => va_P D vwCl (w_Mod cs q u) t.heap ∧ va_D A (w_Mod cs q u)) A) args s 0 0 A) (F0 m 0 ls []) := by
  obtain ⟨hx, hb, hr, hml, hown, hts, hlocks, hKK⟩ := id hC
  have hK := hKK.1
  refine lv_aload_n hx hb dX4_setPace_0 rfl (lv_at hl 0 rfl) ?_
  refine lv_iload_n hx hb dX4_setPace_1 rfl (lv_at hl 1 rfl) ?_
  refine lv_i2l (v := x1.toInt64) hx hb dX4_setPace_2 rfl ?_
  refine lv_lconst (v := (1 : Int64)) hx hb dX4_setPace_3 (by decide) ?_
  refine lv_ldc2 (v := (9 : Int64)) hx hb hown (z_w hts 1 (w := .constantLong RX4 155 (9)) rfl) dX4_setPace_4 ?_
  have hPc := hP.sub (ws' := ([] : va_W)) [] rfl
  have hDc := hD.sub (ws' := ([] : va_W)) [] (by decide) rfl
  refine z_calli (va_runS (As := [.long x1.toInt64, .long (1 : Int64), .long (9 : Int64)]) (rest := [.ref (q 0)]) ⟨hx, hb, hml, hown, hts⟩ (c_X4_in l D cs  H.size x1.toInt64 (1 : Int64) (9 : Int64) _ hw) (va_cwS 3 hts gX4_setPace_X4_in rfl rfl rfl (by decide +kernel) ⟨Nat.le_of_ble_eq_true rfl, Nat.le_of_ble_eq_true rfl⟩) (PC_S hPc hDc hKK) rfl rfl hl.1 rfl (lv_room (Nat.le_of_ble_eq_true rfl)) dX4_setPace_7 ⟨Nat.le_of_ble_eq_true rfl, Nat.le_of_ble_eq_true rfl⟩) (fun r1 hw => ?_)
  obtain ⟨b1, hw⟩ := hw
  refine lv_if_eq (tgt := 17) hx hb dX4_setPace_10 (by decide) (fun c2 => ?_) (fun c2 => ?_)
  · have hw := hw.1 c2
    refine lv_iconst (v := (1 : Int32)) hx hb dX4_setPace_17 (by decide) ?_
    have hFc := va_free (wc := w_Mod cs q M) hD hS hA [0, 1, 2, 3, 4, 5, 6, 7, 8] rfl
    refine va_calli (va_runV (As := [.int (1 : Int32)]) (rest := []) ⟨hx, hb, hml, hown, hts⟩ (c_X4_refused l D cs q H.size M (1 : Int32) _ hw) (cwV 1 hts gX4_setPace_X4_refused rfl rfl rfl (by decide +kernel) ⟨Nat.le_of_ble_eq_true rfl, Nat.le_of_ble_eq_true rfl⟩) (PC_V hP hD hKK 0 4 rfl rfl) rfl rfl hl.1 rfl (lv_room (Nat.le_of_ble_eq_true rfl)) dX4_setPace_18 ⟨Nat.le_of_ble_eq_true rfl, Nat.le_of_ble_eq_true rfl⟩) hS (fun q _ h => hFc q h) hFc (fun r3 u3 t H locs ht hvm hw hB hz1 hk1 hS => ?_)
    obtain ⟨hP1, hD1⟩ := hB
    rw [ht] at hP1
    obtain ⟨b3, hw⟩ := hw
    have hD : va_D A (w_Mod cs q u3) := hD1.weaken (fun k q _ h => hFc q.1 h)
    have hP : va_P D vwCl (w_Mod cs q u3) H := hP1
    refine lv_if_eq (tgt := 26) hx hb dX4_setPace_21 (by decide) (fun c4 => ?_) (fun c4 => ?_)
    · have hw := hw.1 c4
      refine lv_aload_n hx hb dX4_setPace_26 rfl (lv_at hl 0 rfl) ?_
      have hFc := va_free (wc := w_Mod cs q u3) hD hS hA [0, 1, 2, 3, 4, 5, 6, 7, 8] rfl
      refine va_callv (va_runV (As := []) (rest := []) ⟨hx, hb, hml, hown, hts⟩ (c_X4_remember l D cs q H.size u3 _ hw) (cwV 0 hts gX4_setPace_X4_remember rfl rfl rfl (by decide +kernel) ⟨Nat.le_of_ble_eq_true rfl, Nat.le_of_ble_eq_true rfl⟩) (PC_V hP hD hKK 0 4 rfl rfl) rfl rfl hl.1 rfl (lv_room (Nat.le_of_ble_eq_true rfl)) dX4_setPace_27 ⟨Nat.le_of_ble_eq_true rfl, Nat.le_of_ble_eq_true rfl⟩) hS (fun q _ h => hFc q h) hFc (fun u5 t H locs ht hvm hw hB hz1 hk1 hS => ?_)
      obtain ⟨hP1, hD1⟩ := hB
      rw [ht] at hP1
      have hD : va_D A (w_Mod cs q u5) := hD1.weaken (fun k q _ h => hFc q.1 h)
      have hP : va_P D vwCl (w_Mod cs q u5) H := hP1
      refine lv_aload_n hx hb dX4_setPace_30 rfl (lv_at hl 0 rfl) ?_
      refine va_get (D := D) (ci := 4) (v := .ref (q 2)) (C := RX4) (T := TX4) (N := 11) hx hb hts (h_X4_X4_setPace) hown hK hP 0 rfl rfl 3 (by decide) (z_w hts 2 rfl) (fun _ h9 => h9) rfl dX4_setPace_31 ?_
      refine lv_iconst (v := (1 : Int32)) hx hb dX4_setPace_34 (by decide) ?_
      refine va_iald hx hb hK hP 2 0 rfl rfl (show vp_in (1 : Int32) 336 by unfold vp_in; decide) dX4_setPace_35 ?_
      refine lv_istore_n (lv' := [(2, .int (u5 2 (1 : Int32).toNatClampNeg)), (0, .ref (q 0)), (1, .int x1)]) hx hb dX4_setPace_36 rfl hl (by decide) rfl (fun ls hl => ?_)
      refine lv_aload_n hx hb dX4_setPace_37 rfl (lv_at hl 1 rfl) ?_
      refine va_get (D := D) (ci := 4) (v := .ref (q 2)) (C := RX4) (T := TX4) (N := 11) hx hb hts (h_X4_X4_setPace) hown hK hP 0 rfl rfl 3 (by decide) (z_w hts 2 rfl) (fun _ h9 => h9) rfl dX4_setPace_38 ?_
      refine lv_iconst (v := (1 : Int32)) hx hb dX4_setPace_41 (by decide) ?_
      refine lv_iload_n hx hb dX4_setPace_42 rfl (lv_at hl 2 rfl) ?_
      refine va_iast hx hb hK hP hD hS 2 0 rfl rfl (show vp_in (1 : Int32) 336 by unfold vp_in; decide) dX4_setPace_43 (fun H locs hP hD hS => ?_)
      have hP : va_P D vwCl (w_Mod cs q (zr2 u5 2 (upd (u5 2) (1 : Int32).toNatClampNeg x1))) H := hP
      have hD : va_D A (w_Mod cs q (zr2 u5 2 (upd (u5 2) (1 : Int32).toNatClampNeg x1))) := hD
      refine lv_iload_n hx hb dX4_setPace_44 rfl (lv_at hl 0 rfl) ?_
      exact W.iret (v := u5 2 (1 : Int32).toNatClampNeg) hx hb hr (fun t ht hW => ⟨⟨u5 2 (1 : Int32).toNatClampNeg, (zr2 u5 2 (upd (u5 2) (1 : Int32).toNatClampNeg x1)), rfl, hw, by rw [ht]; exact hP, hD⟩, hS.F ht⟩) hS.2.2 dX4_setPace_45 hlocks
    · have hw := hw.2 c4
      refine lv_iconst (v := (0 : Int32)) hx hb dX4_setPace_24 (by decide) ?_
      exact W.iret (v := (0 : Int32)) hx hb hr (fun t ht hW => ⟨⟨(0 : Int32), (u3), rfl, hw, by rw [ht]; exact hP, hD⟩, hS.F ht⟩) hS.2.2 dX4_setPace_25 hlocks
  · have hw := hw.2 c2
    refine lv_iconst (v := (0 : Int32)) hx hb dX4_setPace_13 (by decide) ?_
    refine lv_goto (tgt := 18) hx hb dX4_setPace_14 (by decide) ?_
    have hFc := va_free (wc := w_Mod cs q M) hD hS hA [0, 1, 2, 3, 4, 5, 6, 7, 8] rfl
    refine va_calli (va_runV (As := [.int (0 : Int32)]) (rest := []) ⟨hx, hb, hml, hown, hts⟩ (c_X4_refused l D cs q H.size M (0 : Int32) _ hw) (cwV 1 hts gX4_setPace_X4_refused rfl rfl rfl (by decide +kernel) ⟨Nat.le_of_ble_eq_true rfl, Nat.le_of_ble_eq_true rfl⟩) (PC_V hP hD hKK 0 4 rfl rfl) rfl rfl hl.1 rfl (lv_room (Nat.le_of_ble_eq_true rfl)) dX4_setPace_18 ⟨Nat.le_of_ble_eq_true rfl, Nat.le_of_ble_eq_true rfl⟩) hS (fun q _ h => hFc q h) hFc (fun r6 u6 t H locs ht hvm hw hB hz1 hk1 hS => ?_)
    obtain ⟨hP1, hD1⟩ := hB
    rw [ht] at hP1
    obtain ⟨b6, hw⟩ := hw
    have hD : va_D A (w_Mod cs q u6) := hD1.weaken (fun k q _ h => hFc q.1 h)
    have hP : va_P D vwCl (w_Mod cs q u6) H := hP1
    refine lv_if_eq (tgt := 26) hx hb dX4_setPace_21 (by decide) (fun c7 => ?_) (fun c7 => ?_)
    · have hw := hw.1 c7
      refine lv_aload_n hx hb dX4_setPace_26 rfl (lv_at hl 0 rfl) ?_
      have hFc := va_free (wc := w_Mod cs q u6) hD hS hA [0, 1, 2, 3, 4, 5, 6, 7, 8] rfl
      refine va_callv (va_runV (As := []) (rest := []) ⟨hx, hb, hml, hown, hts⟩ (c_X4_remember l D cs q H.size u6 _ hw) (cwV 0 hts gX4_setPace_X4_remember rfl rfl rfl (by decide +kernel) ⟨Nat.le_of_ble_eq_true rfl, Nat.le_of_ble_eq_true rfl⟩) (PC_V hP hD hKK 0 4 rfl rfl) rfl rfl hl.1 rfl (lv_room (Nat.le_of_ble_eq_true rfl)) dX4_setPace_27 ⟨Nat.le_of_ble_eq_true rfl, Nat.le_of_ble_eq_true rfl⟩) hS (fun q _ h => hFc q h) hFc (fun u8 t H locs ht hvm hw hB hz1 hk1 hS => ?_)
      obtain ⟨hP1, hD1⟩ := hB
      rw [ht] at hP1
      have hD : va_D A (w_Mod cs q u8) := hD1.weaken (fun k q _ h => hFc q.1 h)
      have hP : va_P D vwCl (w_Mod cs q u8) H := hP1
      refine lv_aload_n hx hb dX4_setPace_30 rfl (lv_at hl 0 rfl) ?_
      refine va_get (D := D) (ci := 4) (v := .ref (q 2)) (C := RX4) (T := TX4) (N := 11) hx hb hts (h_X4_X4_setPace) hown hK hP 0 rfl rfl 3 (by decide) (z_w hts 2 rfl) (fun _ h9 => h9) rfl dX4_setPace_31 ?_
      refine lv_iconst (v := (1 : Int32)) hx hb dX4_setPace_34 (by decide) ?_
      refine va_iald hx hb hK hP 2 0 rfl rfl (show vp_in (1 : Int32) 336 by unfold vp_in; decide) dX4_setPace_35 ?_
      refine lv_istore_n (lv' := [(2, .int (u8 2 (1 : Int32).toNatClampNeg)), (0, .ref (q 0)), (1, .int x1)]) hx hb dX4_setPace_36 rfl hl (by decide) rfl (fun ls hl => ?_)
      refine lv_aload_n hx hb dX4_setPace_37 rfl (lv_at hl 1 rfl) ?_
      refine va_get (D := D) (ci := 4) (v := .ref (q 2)) (C := RX4) (T := TX4) (N := 11) hx hb hts (h_X4_X4_setPace) hown hK hP 0 rfl rfl 3 (by decide) (z_w hts 2 rfl) (fun _ h9 => h9) rfl dX4_setPace_38 ?_
      refine lv_iconst (v := (1 : Int32)) hx hb dX4_setPace_41 (by decide) ?_
      refine lv_iload_n hx hb dX4_setPace_42 rfl (lv_at hl 2 rfl) ?_
      refine va_iast hx hb hK hP hD hS 2 0 rfl rfl (show vp_in (1 : Int32) 336 by unfold vp_in; decide) dX4_setPace_43 (fun H locs hP hD hS => ?_)
      have hP : va_P D vwCl (w_Mod cs q (zr2 u8 2 (upd (u8 2) (1 : Int32).toNatClampNeg x1))) H := hP
      have hD : va_D A (w_Mod cs q (zr2 u8 2 (upd (u8 2) (1 : Int32).toNatClampNeg x1))) := hD
      refine lv_iload_n hx hb dX4_setPace_44 rfl (lv_at hl 0 rfl) ?_
      exact W.iret (v := u8 2 (1 : Int32).toNatClampNeg) hx hb hr (fun t ht hW => ⟨⟨u8 2 (1 : Int32).toNatClampNeg, (zr2 u8 2 (upd (u8 2) (1 : Int32).toNatClampNeg x1)), rfl, hw, by rw [ht]; exact hP, hD⟩, hS.F ht⟩) hS.2.2 dX4_setPace_45 hlocks
    · have hw := hw.2 c7
      refine lv_iconst (v := (0 : Int32)) hx hb dX4_setPace_24 (by decide) ?_
      exact W.iret (v := (0 : Int32)) hx hb hr (fun t ht hW => ⟨⟨(0 : Int32), (u6), rfl, hw, by rw [ht]; exact hP, hD⟩, hS.F ht⟩) hS.2.2 dX4_setPace_25 hlocks
set_option maxHeartbeats 4000000 in
set_option maxRecDepth 100000 in
theorem c_X4_setPace (l : Launch) (D : va_G) (cs : Nat → ClassId) (q : Nat → Nat) (sz : Nat) (M : MS) (x1 : Int32) (Q : Int32 → MS → Prop) (hw : wp_X4_setPace M x1 Q) : Met l yX4_setPace wsX4_setPace ({ frames := 2, cells := 0, slots := 0, locals := 45 } : Room) (va_Pc [.ref (q 0), .int x1] (PC D cs (w_Mod cs q M) sz)) (va_Qi (fun r (u : MS) => Q r u) (fun (u : MS) t => va_P D vwCl (w_Mod cs q u) t.heap ∧ va_D (va_A (w_Mod cs q M) sz) (w_Mod cs q u)) (va_A (w_Mod cs q M) sz)) 0 0 (va_A (w_Mod cs q M) sz) := by
  refine Met.ofW (cc := cX4_setPace) (maxL := 3) (ret := (some .int)) (by decide) rfl ?_
  intro p e s m args below meth c s₁ B hml hv
  obtain ⟨rfl, hsz, hP, hKK, hD0⟩ := hv
  have hC : MAt p s m _ meth c RX4 cX4_setPace 3 (some .int) wsX4_setPace D cs := ⟨B.exec, B.bytes, B.returns, hml, findClass_of_methodNamed B.named, atoms_spec (ws := wsX4_setPace) B.pre, B.notSynchronized, hKK⟩
  have hl := lv_entry ([.ref (q 0), .int x1]) (n := 3) (Nat.le_of_ble_eq_true rfl)
  rw [lg_entry_eq]
  generalize (lg_sl ([.ref (q 0), .int x1]) ++ List.replicate (3 - (lg_sl ([.ref (q 0), .int x1])).length) Slot.unset).toArray = ls at hl ⊢
  subst hsz
  have hD := hD0.self (sz := s.heap.size)
  have hA : ∀ z : Nat, s.heap.size ≤ z → va_A (w_Mod cs q M) s.heap.size z := fun z h => Or.inr h
  exact t_X4_setPace hC q M x1 Q hA hw s.heap [] hP hD va_S.rf ls hl
theorem h_X4_X4_link : ∀ w ∈ u_ws RX4 TX4 11, w ∈ wsX4_link := fun _ h => List.mem_cons_of_mem _ (List.mem_append_right _ h)
set_option maxHeartbeats 4000000 in
set_option maxRecDepth 100000 in
theorem t_X4_link {p : Program} {l : Launch} {e : Env} {s : State} {m : MethodId} {args : Array Value} {below : List Frame} {meth : Method} {c : Code} {D : va_G} {cs : Nat → ClassId} {A : Nat → Prop} (hC : MAt p s m args meth c RX4 cX4_link 3 (some .int) wsX4_link D cs) (q : Nat → Nat) (M : MS) (x1 : Int32) (x2 : Int32) (Q : Int32 → MS → Prop) (hA : ∀ q : Nat, s.heap.size ≤ q → A q) (hw : wp_X4_link M x1 x2 Q) (H : Heap) (locs : List Loc) (hP : va_P D vwCl (w_Mod cs q M) H) (hD : va_D A (w_Mod cs q M)) (hS : va_S A s.heap H locs) (ls : Array Slot) (hl : lv_has ls 3 [(0, .ref (q 0)), (1, .int x1), (2, .int x2)]) : W p l e ({ frames := 2, cells := 0, slots := 0, locals := 45 } : Room) s m args below meth c H locs 0 0 (MQ below (va_Qi (fun r (u : MS) => Q r u) (fun (u : MS) t => va_P D vwCl (w_Mod cs q u) t.heap ∧ va_D A (w_Mod cs q u)) A) args s 0 0 A) (F0 m 0 ls []) := by
  obtain ⟨hx, hb, hr, hml, hown, hts, hlocks, hKK⟩ := id hC
  have hK := hKK.1
  refine lv_aload_n hx hb dX4_link_0 rfl (lv_at hl 0 rfl) ?_
  refine lv_iload_n hx hb dX4_link_1 rfl (lv_at hl 1 rfl) ?_
  refine lv_i2l (v := x1.toInt64) hx hb dX4_link_2 rfl ?_
  refine lv_lconst (v := (0 : Int64)) hx hb dX4_link_3 (by decide) ?_
  refine lv_aload_n hx hb dX4_link_4 rfl (lv_at hl 0 rfl) ?_
  refine va_get (D := D) (ci := 4) (v := .ref (q 2)) (C := RX4) (T := TX4) (N := 11) hx hb hts (h_X4_X4_link) hown hK hP 0 rfl rfl 3 (by decide) (z_w hts 1 rfl) (fun _ h9 => h9) rfl dX4_link_5 ?_
  refine lv_iconst (v := (0 : Int32)) hx hb dX4_link_8 (by decide) ?_
  refine va_iald hx hb hK hP 2 0 rfl rfl (show vp_in (0 : Int32) 336 by unfold vp_in; decide) dX4_link_9 ?_
  refine lv_iconst (v := (2 : Int32)) hx hb dX4_link_10 (by decide) ?_
  refine lv_isub hx hb dX4_link_11 ?_
  refine lv_i2l (v := ((M 2 (0 : Int32).toNatClampNeg) - (2 : Int32)).toInt64) hx hb dX4_link_12 rfl ?_
  have hPc := hP.sub (ws' := ([] : va_W)) [] rfl
  have hDc := hD.sub (ws' := ([] : va_W)) [] (by decide) rfl
  refine z_calli (va_runS (As := [.long x1.toInt64, .long (0 : Int64), .long (((M 2 (0 : Int32).toNatClampNeg) - (2 : Int32)).toInt64)]) (rest := [.ref (q 0)]) ⟨hx, hb, hml, hown, hts⟩ (c_X4_in l D cs  H.size x1.toInt64 (0 : Int64) (((M 2 (0 : Int32).toNatClampNeg) - (2 : Int32)).toInt64) _ hw) (va_cwS 3 hts gX4_link_X4_in rfl rfl rfl (by decide +kernel) ⟨Nat.le_of_ble_eq_true rfl, Nat.le_of_ble_eq_true rfl⟩) (PC_S hPc hDc hKK) rfl rfl hl.1 rfl (lv_room (Nat.le_of_ble_eq_true rfl)) dX4_link_13 ⟨Nat.le_of_ble_eq_true rfl, Nat.le_of_ble_eq_true rfl⟩) (fun r1 hw => ?_)
  obtain ⟨b1, hw⟩ := hw
  refine lv_if_eq (tgt := 23) hx hb dX4_link_16 (by decide) (fun c2 => ?_) (fun c2 => ?_)
  · have hw := hw.1 c2
    refine lv_iconst (v := (1 : Int32)) hx hb dX4_link_23 (by decide) ?_
    have hFc := va_free (wc := w_Mod cs q M) hD hS hA [0, 1, 2, 3, 4, 5, 6, 7, 8] rfl
    refine va_calli (va_runV (As := [.int (1 : Int32)]) (rest := []) ⟨hx, hb, hml, hown, hts⟩ (c_X4_refused l D cs q H.size M (1 : Int32) _ hw) (cwV 1 hts gX4_link_X4_refused rfl rfl rfl (by decide +kernel) ⟨Nat.le_of_ble_eq_true rfl, Nat.le_of_ble_eq_true rfl⟩) (PC_V hP hD hKK 0 4 rfl rfl) rfl rfl hl.1 rfl (lv_room (Nat.le_of_ble_eq_true rfl)) dX4_link_24 ⟨Nat.le_of_ble_eq_true rfl, Nat.le_of_ble_eq_true rfl⟩) hS (fun q _ h => hFc q h) hFc (fun r3 u3 t H locs ht hvm hw hB hz1 hk1 hS => ?_)
    obtain ⟨hP1, hD1⟩ := hB
    rw [ht] at hP1
    obtain ⟨b3, hw⟩ := hw
    have hD : va_D A (w_Mod cs q u3) := hD1.weaken (fun k q _ h => hFc q.1 h)
    have hP : va_P D vwCl (w_Mod cs q u3) H := hP1
    refine lv_if_eq (tgt := 32) hx hb dX4_link_27 (by decide) (fun c4 => ?_) (fun c4 => ?_)
    · have hw := hw.1 c4
      refine lv_aload_n hx hb dX4_link_32 rfl (lv_at hl 0 rfl) ?_
      have hFc := va_free (wc := w_Mod cs q u3) hD hS hA [0, 1, 2, 3, 4, 5, 6, 7, 8] rfl
      refine va_callv (va_runV (As := []) (rest := []) ⟨hx, hb, hml, hown, hts⟩ (c_X4_remember l D cs q H.size u3 _ hw) (cwV 0 hts gX4_link_X4_remember rfl rfl rfl (by decide +kernel) ⟨Nat.le_of_ble_eq_true rfl, Nat.le_of_ble_eq_true rfl⟩) (PC_V hP hD hKK 0 4 rfl rfl) rfl rfl hl.1 rfl (lv_room (Nat.le_of_ble_eq_true rfl)) dX4_link_33 ⟨Nat.le_of_ble_eq_true rfl, Nat.le_of_ble_eq_true rfl⟩) hS (fun q _ h => hFc q h) hFc (fun u5 t H locs ht hvm hw hB hz1 hk1 hS => ?_)
      obtain ⟨hP1, hD1⟩ := hB
      rw [ht] at hP1
      have hD : va_D A (w_Mod cs q u5) := hD1.weaken (fun k q _ h => hFc q.1 h)
      have hP : va_P D vwCl (w_Mod cs q u5) H := hP1
      refine lv_aload_n hx hb dX4_link_36 rfl (lv_at hl 0 rfl) ?_
      refine va_get (D := D) (ci := 4) (v := .ref (q 2)) (C := RX4) (T := TX4) (N := 11) hx hb hts (h_X4_X4_link) hown hK hP 0 rfl rfl 3 (by decide) (z_w hts 1 rfl) (fun _ h9 => h9) rfl dX4_link_37 ?_
      refine lv_iload_n hx hb dX4_link_40 rfl (lv_at hl 1 rfl) ?_
      refine lv_iload_n hx hb dX4_link_41 rfl (lv_at hl 2 rfl) ?_
      have hPc := hP.sub (ws' := w_Row cs (q 2) 336 (u5 2)) [2] rfl
      have hDc := hD.sub (ws' := w_Row cs (q 2) 336 (u5 2)) [2] (by decide) rfl
      have hFc := va_free (wc := w_Row cs (q 2) 336 (u5 2)) hD hS hA [2] rfl
      refine va_calli (va_runS (As := [.ref (q 2), .int x1, .int x2]) (rest := []) ⟨hx, hb, hml, hown, hts⟩ (c_X4_linkOn l D cs (q 2) H.size (u5 2) x1 x2 _ hw) (va_cwS 3 hts gX4_link_X4_linkOn rfl rfl rfl (by decide +kernel) ⟨Nat.le_of_ble_eq_true rfl, Nat.le_of_ble_eq_true rfl⟩) (PC_S hPc hDc hKK) rfl rfl hl.1 rfl (lv_room (Nat.le_of_ble_eq_true rfl)) dX4_link_42 ⟨Nat.le_of_ble_eq_true rfl, Nat.le_of_ble_eq_true rfl⟩) hS (fun q _ h => hFc q h) hFc (fun r6 u6 t H locs ht hvm hw hB hz1 hk1 hS => ?_)
      obtain ⟨hP1, hD1⟩ := hB
      rw [ht] at hP1
      obtain ⟨hP, hD⟩ := va_join (wr := ([0, 1, 3, 4, 5, 6, 7, 8].filterMap (fun i => (w_Mod cs q u5)[i]?))) (w1 := w_Row cs (q 2) 336 u6) hP hD [2] [0, 1, 3, 4, 5, 6, 7, 8] rfl rfl (by decide) (by decide) hk1 hFc hP1 hD1
      have hP : va_P D vwCl (w_Mod cs q (zr2 u5 2 u6)) H := hP.sub (ws' := w_Mod cs q (zr2 u5 2 u6)) [0, 1, 8, 2, 3, 4, 5, 6, 7] rfl
      have hD : va_D A (w_Mod cs q (zr2 u5 2 u6)) := hD.sub (ws' := w_Mod cs q (zr2 u5 2 u6)) [0, 1, 8, 2, 3, 4, 5, 6, 7] (by decide) rfl
      exact W.iret (v := r6) hx hb hr (fun t ht hW => ⟨⟨r6, (zr2 u5 2 u6), rfl, hw, by rw [ht]; exact hP, hD⟩, hS.F ht⟩) hS.2.2 dX4_link_45 hlocks
    · have hw := hw.2 c4
      refine lv_iconst (v := (0 : Int32)) hx hb dX4_link_30 (by decide) ?_
      exact W.iret (v := (0 : Int32)) hx hb hr (fun t ht hW => ⟨⟨(0 : Int32), (u3), rfl, hw, by rw [ht]; exact hP, hD⟩, hS.F ht⟩) hS.2.2 dX4_link_31 hlocks
  · have hw := hw.2 c2
    refine lv_iconst (v := (0 : Int32)) hx hb dX4_link_19 (by decide) ?_
    refine lv_goto (tgt := 24) hx hb dX4_link_20 (by decide) ?_
    have hFc := va_free (wc := w_Mod cs q M) hD hS hA [0, 1, 2, 3, 4, 5, 6, 7, 8] rfl
    refine va_calli (va_runV (As := [.int (0 : Int32)]) (rest := []) ⟨hx, hb, hml, hown, hts⟩ (c_X4_refused l D cs q H.size M (0 : Int32) _ hw) (cwV 1 hts gX4_link_X4_refused rfl rfl rfl (by decide +kernel) ⟨Nat.le_of_ble_eq_true rfl, Nat.le_of_ble_eq_true rfl⟩) (PC_V hP hD hKK 0 4 rfl rfl) rfl rfl hl.1 rfl (lv_room (Nat.le_of_ble_eq_true rfl)) dX4_link_24 ⟨Nat.le_of_ble_eq_true rfl, Nat.le_of_ble_eq_true rfl⟩) hS (fun q _ h => hFc q h) hFc (fun r7 u7 t H locs ht hvm hw hB hz1 hk1 hS => ?_)
    obtain ⟨hP1, hD1⟩ := hB
    rw [ht] at hP1
    obtain ⟨b7, hw⟩ := hw
    have hD : va_D A (w_Mod cs q u7) := hD1.weaken (fun k q _ h => hFc q.1 h)
    have hP : va_P D vwCl (w_Mod cs q u7) H := hP1
    refine lv_if_eq (tgt := 32) hx hb dX4_link_27 (by decide) (fun c8 => ?_) (fun c8 => ?_)
    · have hw := hw.1 c8
      refine lv_aload_n hx hb dX4_link_32 rfl (lv_at hl 0 rfl) ?_
      have hFc := va_free (wc := w_Mod cs q u7) hD hS hA [0, 1, 2, 3, 4, 5, 6, 7, 8] rfl
      refine va_callv (va_runV (As := []) (rest := []) ⟨hx, hb, hml, hown, hts⟩ (c_X4_remember l D cs q H.size u7 _ hw) (cwV 0 hts gX4_link_X4_remember rfl rfl rfl (by decide +kernel) ⟨Nat.le_of_ble_eq_true rfl, Nat.le_of_ble_eq_true rfl⟩) (PC_V hP hD hKK 0 4 rfl rfl) rfl rfl hl.1 rfl (lv_room (Nat.le_of_ble_eq_true rfl)) dX4_link_33 ⟨Nat.le_of_ble_eq_true rfl, Nat.le_of_ble_eq_true rfl⟩) hS (fun q _ h => hFc q h) hFc (fun u9 t H locs ht hvm hw hB hz1 hk1 hS => ?_)
      obtain ⟨hP1, hD1⟩ := hB
      rw [ht] at hP1
      have hD : va_D A (w_Mod cs q u9) := hD1.weaken (fun k q _ h => hFc q.1 h)
      have hP : va_P D vwCl (w_Mod cs q u9) H := hP1
      refine lv_aload_n hx hb dX4_link_36 rfl (lv_at hl 0 rfl) ?_
      refine va_get (D := D) (ci := 4) (v := .ref (q 2)) (C := RX4) (T := TX4) (N := 11) hx hb hts (h_X4_X4_link) hown hK hP 0 rfl rfl 3 (by decide) (z_w hts 1 rfl) (fun _ h9 => h9) rfl dX4_link_37 ?_
      refine lv_iload_n hx hb dX4_link_40 rfl (lv_at hl 1 rfl) ?_
      refine lv_iload_n hx hb dX4_link_41 rfl (lv_at hl 2 rfl) ?_
      have hPc := hP.sub (ws' := w_Row cs (q 2) 336 (u9 2)) [2] rfl
      have hDc := hD.sub (ws' := w_Row cs (q 2) 336 (u9 2)) [2] (by decide) rfl
      have hFc := va_free (wc := w_Row cs (q 2) 336 (u9 2)) hD hS hA [2] rfl
      refine va_calli (va_runS (As := [.ref (q 2), .int x1, .int x2]) (rest := []) ⟨hx, hb, hml, hown, hts⟩ (c_X4_linkOn l D cs (q 2) H.size (u9 2) x1 x2 _ hw) (va_cwS 3 hts gX4_link_X4_linkOn rfl rfl rfl (by decide +kernel) ⟨Nat.le_of_ble_eq_true rfl, Nat.le_of_ble_eq_true rfl⟩) (PC_S hPc hDc hKK) rfl rfl hl.1 rfl (lv_room (Nat.le_of_ble_eq_true rfl)) dX4_link_42 ⟨Nat.le_of_ble_eq_true rfl, Nat.le_of_ble_eq_true rfl⟩) hS (fun q _ h => hFc q h) hFc (fun r10 u10 t H locs ht hvm hw hB hz1 hk1 hS => ?_)
      obtain ⟨hP1, hD1⟩ := hB
      rw [ht] at hP1
      obtain ⟨hP, hD⟩ := va_join (wr := ([0, 1, 3, 4, 5, 6, 7, 8].filterMap (fun i => (w_Mod cs q u9)[i]?))) (w1 := w_Row cs (q 2) 336 u10) hP hD [2] [0, 1, 3, 4, 5, 6, 7, 8] rfl rfl (by decide) (by decide) hk1 hFc hP1 hD1
      have hP : va_P D vwCl (w_Mod cs q (zr2 u9 2 u10)) H := hP.sub (ws' := w_Mod cs q (zr2 u9 2 u10)) [0, 1, 8, 2, 3, 4, 5, 6, 7] rfl
      have hD : va_D A (w_Mod cs q (zr2 u9 2 u10)) := hD.sub (ws' := w_Mod cs q (zr2 u9 2 u10)) [0, 1, 8, 2, 3, 4, 5, 6, 7] (by decide) rfl
      exact W.iret (v := r10) hx hb hr (fun t ht hW => ⟨⟨r10, (zr2 u9 2 u10), rfl, hw, by rw [ht]; exact hP, hD⟩, hS.F ht⟩) hS.2.2 dX4_link_45 hlocks
    · have hw := hw.2 c8
      refine lv_iconst (v := (0 : Int32)) hx hb dX4_link_30 (by decide) ?_
      exact W.iret (v := (0 : Int32)) hx hb hr (fun t ht hW => ⟨⟨(0 : Int32), (u7), rfl, hw, by rw [ht]; exact hP, hD⟩, hS.F ht⟩) hS.2.2 dX4_link_31 hlocks
set_option maxHeartbeats 4000000 in
set_option maxRecDepth 100000 in
theorem c_X4_link (l : Launch) (D : va_G) (cs : Nat → ClassId) (q : Nat → Nat) (sz : Nat) (M : MS) (x1 : Int32) (x2 : Int32) (Q : Int32 → MS → Prop) (hw : wp_X4_link M x1 x2 Q) : Met l yX4_link wsX4_link ({ frames := 2, cells := 0, slots := 0, locals := 45 } : Room) (va_Pc [.ref (q 0), .int x1, .int x2] (PC D cs (w_Mod cs q M) sz)) (va_Qi (fun r (u : MS) => Q r u) (fun (u : MS) t => va_P D vwCl (w_Mod cs q u) t.heap ∧ va_D (va_A (w_Mod cs q M) sz) (w_Mod cs q u)) (va_A (w_Mod cs q M) sz)) 0 0 (va_A (w_Mod cs q M) sz) := by
  refine Met.ofW (cc := cX4_link) (maxL := 3) (ret := (some .int)) (by decide) rfl ?_
  intro p e s m args below meth c s₁ B hml hv
  obtain ⟨rfl, hsz, hP, hKK, hD0⟩ := hv
  have hC : MAt p s m _ meth c RX4 cX4_link 3 (some .int) wsX4_link D cs := ⟨B.exec, B.bytes, B.returns, hml, findClass_of_methodNamed B.named, atoms_spec (ws := wsX4_link) B.pre, B.notSynchronized, hKK⟩
  have hl := lv_entry ([.ref (q 0), .int x1, .int x2]) (n := 3) (Nat.le_of_ble_eq_true rfl)
  rw [lg_entry_eq]
  generalize (lg_sl ([.ref (q 0), .int x1, .int x2]) ++ List.replicate (3 - (lg_sl ([.ref (q 0), .int x1, .int x2])).length) Slot.unset).toArray = ls at hl ⊢
  subst hsz
  have hD := hD0.self (sz := s.heap.size)
  have hA : ∀ z : Nat, s.heap.size ≤ z → va_A (w_Mod cs q M) s.heap.size z := fun z h => Or.inr h
  exact t_X4_link hC q M x1 x2 Q hA hw s.heap [] hP hD va_S.rf ls hl
theorem h_X4_X4_resize : ∀ w ∈ u_ws RX4 TX4 11, w ∈ wsX4_resize := fun _ h => List.mem_cons_of_mem _ (List.mem_append_right _ h)
set_option maxHeartbeats 4000000 in
set_option maxRecDepth 100000 in
theorem t_X4_resize_60 {p : Program} {l : Launch} {e : Env} {s : State} {m : MethodId} {args : Array Value} {below : List Frame} {meth : Method} {c : Code} {D : va_G} {cs : Nat → ClassId} {A : Nat → Prop} (hC : MAt p s m args meth c RX4 cX4_resize 5 (some .int) wsX4_resize D cs) (q : Nat → Nat) (x1 : Int32) (x2 : Int32) (x3 : Int32) (Q : Int32 → MS → Prop) (hA : ∀ q : Nat, s.heap.size ≤ q → A q) : ∀ (n : Nat) (M : MS) (x4 : Int32), wl_X4_resize_60 x1 x2 x3 Q n M x4 → ∀ (H : Heap) (locs : List Loc), va_P D vwCl (w_Mod cs q M) H → va_D A (w_Mod cs q M) → va_S A s.heap H locs → ∀ ls : Array Slot, lv_has ls 5 [(0, .ref (q 0)), (1, .int x1), (2, .int x2), (3, .int x3), (4, .int x4)] → W p l e ({ frames := 2, cells := 0, slots := 0, locals := 46 } : Room) s m args below meth c H locs 0 0 (MQ below (va_Qi (fun r (u : MS) => Q r u) (fun (u : MS) t => va_P D vwCl (w_Mod cs q u) t.heap ∧ va_D A (w_Mod cs q u)) A) args s 0 0 A) (F0 m 60 ls []) := by
  obtain ⟨hx, hb, hr, hml, hown, hts, hlocks, hKK⟩ := id hC
  have hK := hKK.1
  intro n
  induction n with
  | zero =>
    intro M x4 hw
    exact False.elim hw
  | succ n ih =>
    intro M x4 hw H locs hP hD hS ls hl
    refine lv_iload hx hb dX4_resize_60 (lv_at hl 4 rfl) ?_
    refine lv_bipush (v := (9 : Int32)) hx hb dX4_resize_62 (by decide) ?_
    refine lv_icmp_ge (tgt := 104) hx hb dX4_resize_64 (by decide) (fun c10 => ?_) (fun c10 => ?_)
    · have hw := hw.1 c10
      refine lv_aload_n hx hb dX4_resize_104 rfl (lv_at hl 0 rfl) ?_
      refine va_get (D := D) (ci := 4) (v := .ref (q 2)) (C := RX4) (T := TX4) (N := 11) hx hb hts (h_X4_X4_resize) hown hK hP 0 rfl rfl 3 (by decide) (z_w hts 1 rfl) (fun _ h9 => h9) rfl dX4_resize_105 ?_
      refine lv_iload_n hx hb dX4_resize_108 rfl (lv_at hl 1 rfl) ?_
      have hPc := hP.sub (ws' := ([] : va_W)) [] rfl
      have hDc := hD.sub (ws' := ([] : va_W)) [] (by decide) rfl
      refine z_calli (va_runS (As := [.int x1]) (rest := [.ref (q 2)]) ⟨hx, hb, hml, hown, hts⟩ (c_X4_at l D cs  H.size x1 _ hw) (va_cwS 1 hts gX4_resize_X4_at rfl rfl rfl (by decide +kernel) ⟨Nat.le_of_ble_eq_true rfl, Nat.le_of_ble_eq_true rfl⟩) (PC_S hPc hDc hKK) rfl rfl hl.1 rfl (lv_room (Nat.le_of_ble_eq_true rfl)) dX4_resize_109 ⟨Nat.le_of_ble_eq_true rfl, Nat.le_of_ble_eq_true rfl⟩) (fun r11 hw => ?_)
      refine lv_iconst (v := (0 : Int32)) hx hb dX4_resize_112 (by decide) ?_
      refine lv_iadd hx hb dX4_resize_113 ?_
      refine lv_iload_n hx hb dX4_resize_114 rfl (lv_at hl 2 rfl) ?_
      obtain ⟨h12, hw⟩ := hw
      refine va_iast hx hb hK hP hD hS 2 0 rfl rfl h12 dX4_resize_115 (fun H locs hP hD hS => ?_)
      have hP : va_P D vwCl (w_Mod cs q (zr2 M 2 (upd (M 2) (r11 + (0 : Int32)).toNatClampNeg x2))) H := hP
      have hD : va_D A (w_Mod cs q (zr2 M 2 (upd (M 2) (r11 + (0 : Int32)).toNatClampNeg x2))) := hD
      refine lv_iload_n hx hb dX4_resize_116 rfl (lv_at hl 3 rfl) ?_
      exact W.iret (v := x3) hx hb hr (fun t ht hW => ⟨⟨x3, (zr2 M 2 (upd (M 2) (r11 + (0 : Int32)).toNatClampNeg x2)), rfl, hw, by rw [ht]; exact hP, hD⟩, hS.F ht⟩) hS.2.2 dX4_resize_117 hlocks
    · have hw := hw.2 c10
      refine lv_aload_n hx hb dX4_resize_67 rfl (lv_at hl 0 rfl) ?_
      refine va_get (D := D) (ci := 4) (v := .ref (q 2)) (C := RX4) (T := TX4) (N := 11) hx hb hts (h_X4_X4_resize) hown hK hP 0 rfl rfl 3 (by decide) (z_w hts 1 rfl) (fun _ h9 => h9) rfl dX4_resize_68 ?_
      refine lv_iload_n hx hb dX4_resize_71 rfl (lv_at hl 1 rfl) ?_
      have hPc := hP.sub (ws' := ([] : va_W)) [] rfl
      have hDc := hD.sub (ws' := ([] : va_W)) [] (by decide) rfl
      refine z_calli (va_runS (As := [.int x1]) (rest := [.ref (q 2)]) ⟨hx, hb, hml, hown, hts⟩ (c_X4_at l D cs  H.size x1 _ hw) (va_cwS 1 hts gX4_resize_X4_at rfl rfl rfl (by decide +kernel) ⟨Nat.le_of_ble_eq_true rfl, Nat.le_of_ble_eq_true rfl⟩) (PC_S hPc hDc hKK) rfl rfl hl.1 rfl (lv_room (Nat.le_of_ble_eq_true rfl)) dX4_resize_72 ⟨Nat.le_of_ble_eq_true rfl, Nat.le_of_ble_eq_true rfl⟩) (fun r13 hw => ?_)
      refine lv_iconst (v := (4 : Int32)) hx hb dX4_resize_75 (by decide) ?_
      refine lv_iadd hx hb dX4_resize_76 ?_
      refine lv_iload hx hb dX4_resize_77 (lv_at hl 4 rfl) ?_
      refine lv_iadd hx hb dX4_resize_79 ?_
      refine lv_iconst (v := (0 : Int32)) hx hb dX4_resize_80 (by decide) ?_
      obtain ⟨h14, hw⟩ := hw
      refine va_iast hx hb hK hP hD hS 2 0 rfl rfl h14 dX4_resize_81 (fun H locs hP hD hS => ?_)
      have hP : va_P D vwCl (w_Mod cs q (zr2 M 2 (upd (M 2) ((r13 + (4 : Int32)) + x4).toNatClampNeg (0 : Int32)))) H := hP
      have hD : va_D A (w_Mod cs q (zr2 M 2 (upd (M 2) ((r13 + (4 : Int32)) + x4).toNatClampNeg (0 : Int32)))) := hD
      refine lv_aload_n hx hb dX4_resize_82 rfl (lv_at hl 0 rfl) ?_
      refine va_get (D := D) (ci := 4) (v := .ref (q 2)) (C := RX4) (T := TX4) (N := 11) hx hb hts (h_X4_X4_resize) hown hK hP 0 rfl rfl 3 (by decide) (z_w hts 1 rfl) (fun _ h9 => h9) rfl dX4_resize_83 ?_
      refine lv_iload_n hx hb dX4_resize_86 rfl (lv_at hl 1 rfl) ?_
      have hPc := hP.sub (ws' := ([] : va_W)) [] rfl
      have hDc := hD.sub (ws' := ([] : va_W)) [] (by decide) rfl
      refine z_calli (va_runS (As := [.int x1]) (rest := [.ref (q 2)]) ⟨hx, hb, hml, hown, hts⟩ (c_X4_at l D cs  H.size x1 _ hw) (va_cwS 1 hts gX4_resize_X4_at rfl rfl rfl (by decide +kernel) ⟨Nat.le_of_ble_eq_true rfl, Nat.le_of_ble_eq_true rfl⟩) (PC_S hPc hDc hKK) rfl rfl hl.1 rfl (lv_room (Nat.le_of_ble_eq_true rfl)) dX4_resize_87 ⟨Nat.le_of_ble_eq_true rfl, Nat.le_of_ble_eq_true rfl⟩) (fun r15 hw => ?_)
      refine lv_bipush (v := (13 : Int32)) hx hb dX4_resize_90 (by decide) ?_
      refine lv_iadd hx hb dX4_resize_92 ?_
      refine lv_iload hx hb dX4_resize_93 (lv_at hl 4 rfl) ?_
      refine lv_iadd hx hb dX4_resize_95 ?_
      refine lv_iconst (v := (0 : Int32)) hx hb dX4_resize_96 (by decide) ?_
      obtain ⟨M16, eM16⟩ : ∃ z : MS, z = (zr2 M 2 (upd (M 2) ((r13 + (4 : Int32)) + x4).toNatClampNeg (0 : Int32))) := ⟨_, rfl⟩
      have hw := hw M16 eM16
      rw [← eM16] at hP hD
      obtain ⟨h17, hw⟩ := hw
      refine va_iast hx hb hK hP hD hS 2 0 rfl rfl h17 dX4_resize_97 (fun H locs hP hD hS => ?_)
      have hP : va_P D vwCl (w_Mod cs q (zr2 M16 2 (upd (M16 2) ((r15 + (13 : Int32)) + x4).toNatClampNeg (0 : Int32)))) H := hP
      have hD : va_D A (w_Mod cs q (zr2 M16 2 (upd (M16 2) ((r15 + (13 : Int32)) + x4).toNatClampNeg (0 : Int32)))) := hD
      refine lv_iinc (v := x4 + 1) (lv' := [(4, .int (x4 + 1)), (0, .ref (q 0)), (1, .int x1), (2, .int x2), (3, .int x3)]) hx hb dX4_resize_98 hl (k := 4) rfl rfl (by decide) rfl (fun ls hl => ?_)
      refine lv_goto (tgt := 60) hx hb dX4_resize_101 (by decide) ?_
      exact ih _ _ hw _ _ hP hD hS ls (lv_sub hl [1, 2, 3, 4, 0] rfl)
set_option maxHeartbeats 4000000 in
set_option maxRecDepth 100000 in
theorem t_X4_resize {p : Program} {l : Launch} {e : Env} {s : State} {m : MethodId} {args : Array Value} {below : List Frame} {meth : Method} {c : Code} {D : va_G} {cs : Nat → ClassId} {A : Nat → Prop} (hC : MAt p s m args meth c RX4 cX4_resize 5 (some .int) wsX4_resize D cs) (q : Nat → Nat) (M : MS) (x1 : Int32) (x2 : Int32) (Q : Int32 → MS → Prop) (hA : ∀ q : Nat, s.heap.size ≤ q → A q) (hw : wp_X4_resize M x1 x2 Q) (H : Heap) (locs : List Loc) (hP : va_P D vwCl (w_Mod cs q M) H) (hD : va_D A (w_Mod cs q M)) (hS : va_S A s.heap H locs) (ls : Array Slot) (hl : lv_has ls 5 [(0, .ref (q 0)), (1, .int x1), (2, .int x2)]) : W p l e ({ frames := 2, cells := 0, slots := 0, locals := 46 } : Room) s m args below meth c H locs 0 0 (MQ below (va_Qi (fun r (u : MS) => Q r u) (fun (u : MS) t => va_P D vwCl (w_Mod cs q u) t.heap ∧ va_D A (w_Mod cs q u)) A) args s 0 0 A) (F0 m 0 ls []) := by
  obtain ⟨hx, hb, hr, hml, hown, hts, hlocks, hKK⟩ := id hC
  have hK := hKK.1
  refine lv_aload_n hx hb dX4_resize_0 rfl (lv_at hl 0 rfl) ?_
  refine lv_aload_n hx hb dX4_resize_1 rfl (lv_at hl 0 rfl) ?_
  refine va_get (D := D) (ci := 4) (v := .ref (q 2)) (C := RX4) (T := TX4) (N := 11) hx hb hts (h_X4_X4_resize) hown hK hP 0 rfl rfl 3 (by decide) (z_w hts 1 rfl) (fun _ h9 => h9) rfl dX4_resize_2 ?_
  refine lv_iload_n hx hb dX4_resize_5 rfl (lv_at hl 1 rfl) ?_
  have hPc := hP.sub (ws' := w_Row cs (q 2) 336 (M 2)) [2] rfl
  have hDc := hD.sub (ws' := w_Row cs (q 2) 336 (M 2)) [2] (by decide) rfl
  refine z_calli (va_runS (As := [.ref (q 2), .int x1]) (rest := [.ref (q 0)]) ⟨hx, hb, hml, hown, hts⟩ (c_X4_isCounter l D cs (q 2) H.size (M 2) x1 _ hw) (va_cwS 2 hts gX4_resize_X4_isCounter rfl rfl rfl (by decide +kernel) ⟨Nat.le_of_ble_eq_true rfl, Nat.le_of_ble_eq_true rfl⟩) (PC_S hPc hDc hKK) rfl rfl hl.1 rfl (lv_room (Nat.le_of_ble_eq_true rfl)) dX4_resize_6 ⟨Nat.le_of_ble_eq_true rfl, Nat.le_of_ble_eq_true rfl⟩) (fun r1 hw => ?_)
  obtain ⟨b1, hw⟩ := hw
  refine lv_if_ne (tgt := 16) hx hb dX4_resize_9 (by decide) (fun c2 => ?_) (fun c2 => ?_)
  · have hw := hw.2 c2
    refine lv_iload_n hx hb dX4_resize_16 rfl (lv_at hl 2 rfl) ?_
    refine lv_i2l (v := x2.toInt64) hx hb dX4_resize_17 rfl ?_
    refine lv_lconst (v := (1 : Int64)) hx hb dX4_resize_18 (by decide) ?_
    refine lv_ldc2 (v := (9 : Int64)) hx hb hown (z_w hts 2 (w := .constantLong RX4 155 (9)) rfl) dX4_resize_19 ?_
    have hPc := hP.sub (ws' := ([] : va_W)) [] rfl
    have hDc := hD.sub (ws' := ([] : va_W)) [] (by decide) rfl
    refine z_calli (va_runS (As := [.long x2.toInt64, .long (1 : Int64), .long (9 : Int64)]) (rest := [.ref (q 0)]) ⟨hx, hb, hml, hown, hts⟩ (c_X4_in l D cs  H.size x2.toInt64 (1 : Int64) (9 : Int64) _ hw) (va_cwS 3 hts gX4_resize_X4_in rfl rfl rfl (by decide +kernel) ⟨Nat.le_of_ble_eq_true rfl, Nat.le_of_ble_eq_true rfl⟩) (PC_S hPc hDc hKK) rfl rfl hl.1 rfl (lv_room (Nat.le_of_ble_eq_true rfl)) dX4_resize_22 ⟨Nat.le_of_ble_eq_true rfl, Nat.le_of_ble_eq_true rfl⟩) (fun r3 hw => ?_)
    obtain ⟨b3, hw⟩ := hw
    refine lv_if_eq (tgt := 32) hx hb dX4_resize_25 (by decide) (fun c4 => ?_) (fun c4 => ?_)
    · have hw := hw.1 c4
      refine lv_iconst (v := (2 : Int32)) hx hb dX4_resize_32 (by decide) ?_
      have hFc := va_free (wc := w_Mod cs q M) hD hS hA [0, 1, 2, 3, 4, 5, 6, 7, 8] rfl
      refine va_calli (va_runV (As := [.int (2 : Int32)]) (rest := []) ⟨hx, hb, hml, hown, hts⟩ (c_X4_refused l D cs q H.size M (2 : Int32) _ hw) (cwV 1 hts gX4_resize_X4_refused rfl rfl rfl (by decide +kernel) ⟨Nat.le_of_ble_eq_true rfl, Nat.le_of_ble_eq_true rfl⟩) (PC_V hP hD hKK 0 4 rfl rfl) rfl rfl hl.1 rfl (lv_room (Nat.le_of_ble_eq_true rfl)) dX4_resize_33 ⟨Nat.le_of_ble_eq_true rfl, Nat.le_of_ble_eq_true rfl⟩) hS (fun q _ h => hFc q h) hFc (fun r5 u5 t H locs ht hvm hw hB hz1 hk1 hS => ?_)
      obtain ⟨hP1, hD1⟩ := hB
      rw [ht] at hP1
      obtain ⟨b5, hw⟩ := hw
      have hD : va_D A (w_Mod cs q u5) := hD1.weaken (fun k q _ h => hFc q.1 h)
      have hP : va_P D vwCl (w_Mod cs q u5) H := hP1
      refine lv_if_eq (tgt := 41) hx hb dX4_resize_36 (by decide) (fun c6 => ?_) (fun c6 => ?_)
      · have hw := hw.1 c6
        refine lv_aload_n hx hb dX4_resize_41 rfl (lv_at hl 0 rfl) ?_
        have hFc := va_free (wc := w_Mod cs q u5) hD hS hA [0, 1, 2, 3, 4, 5, 6, 7, 8] rfl
        refine va_callv (va_runV (As := []) (rest := []) ⟨hx, hb, hml, hown, hts⟩ (c_X4_remember l D cs q H.size u5 _ hw) (cwV 0 hts gX4_resize_X4_remember rfl rfl rfl (by decide +kernel) ⟨Nat.le_of_ble_eq_true rfl, Nat.le_of_ble_eq_true rfl⟩) (PC_V hP hD hKK 0 4 rfl rfl) rfl rfl hl.1 rfl (lv_room (Nat.le_of_ble_eq_true rfl)) dX4_resize_42 ⟨Nat.le_of_ble_eq_true rfl, Nat.le_of_ble_eq_true rfl⟩) hS (fun q _ h => hFc q h) hFc (fun u7 t H locs ht hvm hw hB hz1 hk1 hS => ?_)
        obtain ⟨hP1, hD1⟩ := hB
        rw [ht] at hP1
        have hD : va_D A (w_Mod cs q u7) := hD1.weaken (fun k q _ h => hFc q.1 h)
        have hP : va_P D vwCl (w_Mod cs q u7) H := hP1
        refine lv_aload_n hx hb dX4_resize_45 rfl (lv_at hl 0 rfl) ?_
        refine va_get (D := D) (ci := 4) (v := .ref (q 2)) (C := RX4) (T := TX4) (N := 11) hx hb hts (h_X4_X4_resize) hown hK hP 0 rfl rfl 3 (by decide) (z_w hts 1 rfl) (fun _ h9 => h9) rfl dX4_resize_46 ?_
        refine lv_iload_n hx hb dX4_resize_49 rfl (lv_at hl 1 rfl) ?_
        have hPc := hP.sub (ws' := ([] : va_W)) [] rfl
        have hDc := hD.sub (ws' := ([] : va_W)) [] (by decide) rfl
        refine z_calli (va_runS (As := [.int x1]) (rest := [.ref (q 2)]) ⟨hx, hb, hml, hown, hts⟩ (c_X4_at l D cs  H.size x1 _ hw) (va_cwS 1 hts gX4_resize_X4_at rfl rfl rfl (by decide +kernel) ⟨Nat.le_of_ble_eq_true rfl, Nat.le_of_ble_eq_true rfl⟩) (PC_S hPc hDc hKK) rfl rfl hl.1 rfl (lv_room (Nat.le_of_ble_eq_true rfl)) dX4_resize_50 ⟨Nat.le_of_ble_eq_true rfl, Nat.le_of_ble_eq_true rfl⟩) (fun r8 hw => ?_)
        refine lv_iconst (v := (0 : Int32)) hx hb dX4_resize_53 (by decide) ?_
        refine lv_iadd hx hb dX4_resize_54 ?_
        obtain ⟨h9, hw⟩ := hw
        refine va_iald hx hb hK hP 2 0 rfl rfl h9 dX4_resize_55 ?_
        refine lv_istore_n (lv' := [(3, .int (u7 2 (r8 + (0 : Int32)).toNatClampNeg)), (0, .ref (q 0)), (1, .int x1), (2, .int x2)]) hx hb dX4_resize_56 rfl hl (by decide) rfl (fun ls hl => ?_)
        refine lv_iload_n hx hb dX4_resize_57 rfl (lv_at hl 3 rfl) ?_
        refine lv_istore (lv' := [(4, .int x2), (3, .int (u7 2 (r8 + (0 : Int32)).toNatClampNeg)), (0, .ref (q 0)), (1, .int x1), (2, .int x2)]) hx hb dX4_resize_58 hl (by decide) rfl (fun ls hl => ?_)
        obtain ⟨n18, hw⟩ := hw
        exact t_X4_resize_60 hC q _ _ _ _ hA n18 _ _ hw H locs hP hD hS ls (lv_sub hl [2, 3, 4, 1, 0] rfl)
      · have hw := hw.2 c6
        refine lv_iconst (v := (0 : Int32)) hx hb dX4_resize_39 (by decide) ?_
        exact W.iret (v := (0 : Int32)) hx hb hr (fun t ht hW => ⟨⟨(0 : Int32), (u5), rfl, hw, by rw [ht]; exact hP, hD⟩, hS.F ht⟩) hS.2.2 dX4_resize_40 hlocks
    · have hw := hw.2 c4
      refine lv_iconst (v := (0 : Int32)) hx hb dX4_resize_28 (by decide) ?_
      refine lv_goto (tgt := 33) hx hb dX4_resize_29 (by decide) ?_
      have hFc := va_free (wc := w_Mod cs q M) hD hS hA [0, 1, 2, 3, 4, 5, 6, 7, 8] rfl
      refine va_calli (va_runV (As := [.int (0 : Int32)]) (rest := []) ⟨hx, hb, hml, hown, hts⟩ (c_X4_refused l D cs q H.size M (0 : Int32) _ hw) (cwV 1 hts gX4_resize_X4_refused rfl rfl rfl (by decide +kernel) ⟨Nat.le_of_ble_eq_true rfl, Nat.le_of_ble_eq_true rfl⟩) (PC_V hP hD hKK 0 4 rfl rfl) rfl rfl hl.1 rfl (lv_room (Nat.le_of_ble_eq_true rfl)) dX4_resize_33 ⟨Nat.le_of_ble_eq_true rfl, Nat.le_of_ble_eq_true rfl⟩) hS (fun q _ h => hFc q h) hFc (fun r19 u19 t H locs ht hvm hw hB hz1 hk1 hS => ?_)
      obtain ⟨hP1, hD1⟩ := hB
      rw [ht] at hP1
      obtain ⟨b19, hw⟩ := hw
      have hD : va_D A (w_Mod cs q u19) := hD1.weaken (fun k q _ h => hFc q.1 h)
      have hP : va_P D vwCl (w_Mod cs q u19) H := hP1
      refine lv_if_eq (tgt := 41) hx hb dX4_resize_36 (by decide) (fun c20 => ?_) (fun c20 => ?_)
      · have hw := hw.1 c20
        refine lv_aload_n hx hb dX4_resize_41 rfl (lv_at hl 0 rfl) ?_
        have hFc := va_free (wc := w_Mod cs q u19) hD hS hA [0, 1, 2, 3, 4, 5, 6, 7, 8] rfl
        refine va_callv (va_runV (As := []) (rest := []) ⟨hx, hb, hml, hown, hts⟩ (c_X4_remember l D cs q H.size u19 _ hw) (cwV 0 hts gX4_resize_X4_remember rfl rfl rfl (by decide +kernel) ⟨Nat.le_of_ble_eq_true rfl, Nat.le_of_ble_eq_true rfl⟩) (PC_V hP hD hKK 0 4 rfl rfl) rfl rfl hl.1 rfl (lv_room (Nat.le_of_ble_eq_true rfl)) dX4_resize_42 ⟨Nat.le_of_ble_eq_true rfl, Nat.le_of_ble_eq_true rfl⟩) hS (fun q _ h => hFc q h) hFc (fun u21 t H locs ht hvm hw hB hz1 hk1 hS => ?_)
        obtain ⟨hP1, hD1⟩ := hB
        rw [ht] at hP1
        have hD : va_D A (w_Mod cs q u21) := hD1.weaken (fun k q _ h => hFc q.1 h)
        have hP : va_P D vwCl (w_Mod cs q u21) H := hP1
        refine lv_aload_n hx hb dX4_resize_45 rfl (lv_at hl 0 rfl) ?_
        refine va_get (D := D) (ci := 4) (v := .ref (q 2)) (C := RX4) (T := TX4) (N := 11) hx hb hts (h_X4_X4_resize) hown hK hP 0 rfl rfl 3 (by decide) (z_w hts 1 rfl) (fun _ h9 => h9) rfl dX4_resize_46 ?_
        refine lv_iload_n hx hb dX4_resize_49 rfl (lv_at hl 1 rfl) ?_
        have hPc := hP.sub (ws' := ([] : va_W)) [] rfl
        have hDc := hD.sub (ws' := ([] : va_W)) [] (by decide) rfl
        refine z_calli (va_runS (As := [.int x1]) (rest := [.ref (q 2)]) ⟨hx, hb, hml, hown, hts⟩ (c_X4_at l D cs  H.size x1 _ hw) (va_cwS 1 hts gX4_resize_X4_at rfl rfl rfl (by decide +kernel) ⟨Nat.le_of_ble_eq_true rfl, Nat.le_of_ble_eq_true rfl⟩) (PC_S hPc hDc hKK) rfl rfl hl.1 rfl (lv_room (Nat.le_of_ble_eq_true rfl)) dX4_resize_50 ⟨Nat.le_of_ble_eq_true rfl, Nat.le_of_ble_eq_true rfl⟩) (fun r22 hw => ?_)
        refine lv_iconst (v := (0 : Int32)) hx hb dX4_resize_53 (by decide) ?_
        refine lv_iadd hx hb dX4_resize_54 ?_
        obtain ⟨h23, hw⟩ := hw
        refine va_iald hx hb hK hP 2 0 rfl rfl h23 dX4_resize_55 ?_
        refine lv_istore_n (lv' := [(3, .int (u21 2 (r22 + (0 : Int32)).toNatClampNeg)), (0, .ref (q 0)), (1, .int x1), (2, .int x2)]) hx hb dX4_resize_56 rfl hl (by decide) rfl (fun ls hl => ?_)
        refine lv_iload_n hx hb dX4_resize_57 rfl (lv_at hl 3 rfl) ?_
        refine lv_istore (lv' := [(4, .int x2), (3, .int (u21 2 (r22 + (0 : Int32)).toNatClampNeg)), (0, .ref (q 0)), (1, .int x1), (2, .int x2)]) hx hb dX4_resize_58 hl (by decide) rfl (fun ls hl => ?_)
        obtain ⟨n24, hw⟩ := hw
        exact t_X4_resize_60 hC q _ _ _ _ hA n24 _ _ hw H locs hP hD hS ls (lv_sub hl [2, 3, 4, 1, 0] rfl)
      · have hw := hw.2 c20
        refine lv_iconst (v := (0 : Int32)) hx hb dX4_resize_39 (by decide) ?_
        exact W.iret (v := (0 : Int32)) hx hb hr (fun t ht hW => ⟨⟨(0 : Int32), (u19), rfl, hw, by rw [ht]; exact hP, hD⟩, hS.F ht⟩) hS.2.2 dX4_resize_40 hlocks
  · have hw := hw.1 c2
    refine lv_iconst (v := (1 : Int32)) hx hb dX4_resize_12 (by decide) ?_
    refine lv_goto (tgt := 33) hx hb dX4_resize_13 (by decide) ?_
    have hFc := va_free (wc := w_Mod cs q M) hD hS hA [0, 1, 2, 3, 4, 5, 6, 7, 8] rfl
    refine va_calli (va_runV (As := [.int (1 : Int32)]) (rest := []) ⟨hx, hb, hml, hown, hts⟩ (c_X4_refused l D cs q H.size M (1 : Int32) _ hw) (cwV 1 hts gX4_resize_X4_refused rfl rfl rfl (by decide +kernel) ⟨Nat.le_of_ble_eq_true rfl, Nat.le_of_ble_eq_true rfl⟩) (PC_V hP hD hKK 0 4 rfl rfl) rfl rfl hl.1 rfl (lv_room (Nat.le_of_ble_eq_true rfl)) dX4_resize_33 ⟨Nat.le_of_ble_eq_true rfl, Nat.le_of_ble_eq_true rfl⟩) hS (fun q _ h => hFc q h) hFc (fun r25 u25 t H locs ht hvm hw hB hz1 hk1 hS => ?_)
    obtain ⟨hP1, hD1⟩ := hB
    rw [ht] at hP1
    obtain ⟨b25, hw⟩ := hw
    have hD : va_D A (w_Mod cs q u25) := hD1.weaken (fun k q _ h => hFc q.1 h)
    have hP : va_P D vwCl (w_Mod cs q u25) H := hP1
    refine lv_if_eq (tgt := 41) hx hb dX4_resize_36 (by decide) (fun c26 => ?_) (fun c26 => ?_)
    · have hw := hw.1 c26
      refine lv_aload_n hx hb dX4_resize_41 rfl (lv_at hl 0 rfl) ?_
      have hFc := va_free (wc := w_Mod cs q u25) hD hS hA [0, 1, 2, 3, 4, 5, 6, 7, 8] rfl
      refine va_callv (va_runV (As := []) (rest := []) ⟨hx, hb, hml, hown, hts⟩ (c_X4_remember l D cs q H.size u25 _ hw) (cwV 0 hts gX4_resize_X4_remember rfl rfl rfl (by decide +kernel) ⟨Nat.le_of_ble_eq_true rfl, Nat.le_of_ble_eq_true rfl⟩) (PC_V hP hD hKK 0 4 rfl rfl) rfl rfl hl.1 rfl (lv_room (Nat.le_of_ble_eq_true rfl)) dX4_resize_42 ⟨Nat.le_of_ble_eq_true rfl, Nat.le_of_ble_eq_true rfl⟩) hS (fun q _ h => hFc q h) hFc (fun u27 t H locs ht hvm hw hB hz1 hk1 hS => ?_)
      obtain ⟨hP1, hD1⟩ := hB
      rw [ht] at hP1
      have hD : va_D A (w_Mod cs q u27) := hD1.weaken (fun k q _ h => hFc q.1 h)
      have hP : va_P D vwCl (w_Mod cs q u27) H := hP1
      refine lv_aload_n hx hb dX4_resize_45 rfl (lv_at hl 0 rfl) ?_
      refine va_get (D := D) (ci := 4) (v := .ref (q 2)) (C := RX4) (T := TX4) (N := 11) hx hb hts (h_X4_X4_resize) hown hK hP 0 rfl rfl 3 (by decide) (z_w hts 1 rfl) (fun _ h9 => h9) rfl dX4_resize_46 ?_
      refine lv_iload_n hx hb dX4_resize_49 rfl (lv_at hl 1 rfl) ?_
      have hPc := hP.sub (ws' := ([] : va_W)) [] rfl
      have hDc := hD.sub (ws' := ([] : va_W)) [] (by decide) rfl
      refine z_calli (va_runS (As := [.int x1]) (rest := [.ref (q 2)]) ⟨hx, hb, hml, hown, hts⟩ (c_X4_at l D cs  H.size x1 _ hw) (va_cwS 1 hts gX4_resize_X4_at rfl rfl rfl (by decide +kernel) ⟨Nat.le_of_ble_eq_true rfl, Nat.le_of_ble_eq_true rfl⟩) (PC_S hPc hDc hKK) rfl rfl hl.1 rfl (lv_room (Nat.le_of_ble_eq_true rfl)) dX4_resize_50 ⟨Nat.le_of_ble_eq_true rfl, Nat.le_of_ble_eq_true rfl⟩) (fun r28 hw => ?_)
      refine lv_iconst (v := (0 : Int32)) hx hb dX4_resize_53 (by decide) ?_
      refine lv_iadd hx hb dX4_resize_54 ?_
      obtain ⟨h29, hw⟩ := hw
      refine va_iald hx hb hK hP 2 0 rfl rfl h29 dX4_resize_55 ?_
      refine lv_istore_n (lv' := [(3, .int (u27 2 (r28 + (0 : Int32)).toNatClampNeg)), (0, .ref (q 0)), (1, .int x1), (2, .int x2)]) hx hb dX4_resize_56 rfl hl (by decide) rfl (fun ls hl => ?_)
      refine lv_iload_n hx hb dX4_resize_57 rfl (lv_at hl 3 rfl) ?_
      refine lv_istore (lv' := [(4, .int x2), (3, .int (u27 2 (r28 + (0 : Int32)).toNatClampNeg)), (0, .ref (q 0)), (1, .int x1), (2, .int x2)]) hx hb dX4_resize_58 hl (by decide) rfl (fun ls hl => ?_)
      obtain ⟨n30, hw⟩ := hw
      exact t_X4_resize_60 hC q _ _ _ _ hA n30 _ _ hw H locs hP hD hS ls (lv_sub hl [2, 3, 4, 1, 0] rfl)
    · have hw := hw.2 c26
      refine lv_iconst (v := (0 : Int32)) hx hb dX4_resize_39 (by decide) ?_
      exact W.iret (v := (0 : Int32)) hx hb hr (fun t ht hW => ⟨⟨(0 : Int32), (u25), rfl, hw, by rw [ht]; exact hP, hD⟩, hS.F ht⟩) hS.2.2 dX4_resize_40 hlocks
set_option maxHeartbeats 4000000 in
set_option maxRecDepth 100000 in
theorem c_X4_resize (l : Launch) (D : va_G) (cs : Nat → ClassId) (q : Nat → Nat) (sz : Nat) (M : MS) (x1 : Int32) (x2 : Int32) (Q : Int32 → MS → Prop) (hw : wp_X4_resize M x1 x2 Q) : Met l yX4_resize wsX4_resize ({ frames := 2, cells := 0, slots := 0, locals := 46 } : Room) (va_Pc [.ref (q 0), .int x1, .int x2] (PC D cs (w_Mod cs q M) sz)) (va_Qi (fun r (u : MS) => Q r u) (fun (u : MS) t => va_P D vwCl (w_Mod cs q u) t.heap ∧ va_D (va_A (w_Mod cs q M) sz) (w_Mod cs q u)) (va_A (w_Mod cs q M) sz)) 0 0 (va_A (w_Mod cs q M) sz) := by
  refine Met.ofW (cc := cX4_resize) (maxL := 5) (ret := (some .int)) (by decide) rfl ?_
  intro p e s m args below meth c s₁ B hml hv
  obtain ⟨rfl, hsz, hP, hKK, hD0⟩ := hv
  have hC : MAt p s m _ meth c RX4 cX4_resize 5 (some .int) wsX4_resize D cs := ⟨B.exec, B.bytes, B.returns, hml, findClass_of_methodNamed B.named, atoms_spec (ws := wsX4_resize) B.pre, B.notSynchronized, hKK⟩
  have hl := lv_entry ([.ref (q 0), .int x1, .int x2]) (n := 5) (Nat.le_of_ble_eq_true rfl)
  rw [lg_entry_eq]
  generalize (lg_sl ([.ref (q 0), .int x1, .int x2]) ++ List.replicate (5 - (lg_sl ([.ref (q 0), .int x1, .int x2])).length) Slot.unset).toArray = ls at hl ⊢
  subst hsz
  have hD := hD0.self (sz := s.heap.size)
  have hA : ∀ z : Nat, s.heap.size ≤ z → va_A (w_Mod cs q M) s.heap.size z := fun z h => Or.inr h
  exact t_X4_resize hC q M x1 x2 Q hA hw s.heap [] hP hD va_S.rf ls hl
theorem h_X4_X4_pour : ∀ w ∈ u_ws RX4 TX4 11, w ∈ wsX4_pour := fun _ h => List.mem_cons_of_mem _ (List.mem_append_right _ h)
set_option maxHeartbeats 4000000 in
set_option maxRecDepth 100000 in
theorem t_X4_pour {p : Program} {l : Launch} {e : Env} {s : State} {m : MethodId} {args : Array Value} {below : List Frame} {meth : Method} {c : Code} {D : va_G} {cs : Nat → ClassId} {A : Nat → Prop} (hC : MAt p s m args meth c RX4 cX4_pour 3 (some .long) wsX4_pour D cs) (q : Nat → Nat) (M : MS) (x1 : Int32) (x2 : Int32) (Q : Int64 → MS → Prop) (hA : ∀ q : Nat, s.heap.size ≤ q → A q) (hw : wp_X4_pour M x1 x2 Q) (H : Heap) (locs : List Loc) (hP : va_P D vwCl (w_Mod cs q M) H) (hD : va_D A (w_Mod cs q M)) (hS : va_S A s.heap H locs) (ls : Array Slot) (hl : lv_has ls 3 [(0, .ref (q 0)), (1, .int x1), (2, .int x2)]) : W p l e ({ frames := 3, cells := 0, slots := 0, locals := 70 } : Room) s m args below meth c H locs 0 0 (MQ below (va_Ql (fun r (u : MS) => Q r u) (fun (u : MS) t => va_P D vwCl (w_Mod cs q u) t.heap ∧ va_D A (w_Mod cs q u)) A) args s 0 0 A) (F0 m 0 ls []) := by
  obtain ⟨hx, hb, hr, hml, hown, hts, hlocks, hKK⟩ := id hC
  have hK := hKK.1
  refine lv_aload_n hx hb dX4_pour_0 rfl (lv_at hl 0 rfl) ?_
  refine lv_aload_n hx hb dX4_pour_1 rfl (lv_at hl 0 rfl) ?_
  refine va_get (D := D) (ci := 4) (v := .ref (q 2)) (C := RX4) (T := TX4) (N := 11) hx hb hts (h_X4_X4_pour) hown hK hP 0 rfl rfl 3 (by decide) (z_w hts 1 rfl) (fun _ h9 => h9) rfl dX4_pour_2 ?_
  refine lv_iload_n hx hb dX4_pour_5 rfl (lv_at hl 1 rfl) ?_
  have hPc := hP.sub (ws' := w_Row cs (q 2) 336 (M 2)) [2] rfl
  have hDc := hD.sub (ws' := w_Row cs (q 2) 336 (M 2)) [2] (by decide) rfl
  refine z_calli (va_runS (As := [.ref (q 2), .int x1]) (rest := [.ref (q 0)]) ⟨hx, hb, hml, hown, hts⟩ (c_X4_isCounter l D cs (q 2) H.size (M 2) x1 _ hw) (va_cwS 2 hts gX4_pour_X4_isCounter rfl rfl rfl (by decide +kernel) ⟨Nat.le_of_ble_eq_true rfl, Nat.le_of_ble_eq_true rfl⟩) (PC_S hPc hDc hKK) rfl rfl hl.1 rfl (lv_room (Nat.le_of_ble_eq_true rfl)) dX4_pour_6 ⟨Nat.le_of_ble_eq_true rfl, Nat.le_of_ble_eq_true rfl⟩) (fun r1 hw => ?_)
  obtain ⟨b1, hw⟩ := hw
  refine lv_if_eq (tgt := 23) hx hb dX4_pour_9 (by decide) (fun c2 => ?_) (fun c2 => ?_)
  · have hw := hw.1 c2
    refine lv_iconst (v := (1 : Int32)) hx hb dX4_pour_23 (by decide) ?_
    refine lv_goto (tgt := 37) hx hb dX4_pour_24 (by decide) ?_
    have hFc := va_free (wc := w_Mod cs q M) hD hS hA [0, 1, 2, 3, 4, 5, 6, 7, 8] rfl
    refine va_calli (va_runV (As := [.int (1 : Int32)]) (rest := []) ⟨hx, hb, hml, hown, hts⟩ (c_X4_refused l D cs q H.size M (1 : Int32) _ hw) (cwV 1 hts gX4_pour_X4_refused rfl rfl rfl (by decide +kernel) ⟨Nat.le_of_ble_eq_true rfl, Nat.le_of_ble_eq_true rfl⟩) (PC_V hP hD hKK 0 4 rfl rfl) rfl rfl hl.1 rfl (lv_room (Nat.le_of_ble_eq_true rfl)) dX4_pour_37 ⟨Nat.le_of_ble_eq_true rfl, Nat.le_of_ble_eq_true rfl⟩) hS (fun q _ h => hFc q h) hFc (fun r3 u3 t H locs ht hvm hw hB hz1 hk1 hS => ?_)
    obtain ⟨hP1, hD1⟩ := hB
    rw [ht] at hP1
    obtain ⟨b3, hw⟩ := hw
    have hD : va_D A (w_Mod cs q u3) := hD1.weaken (fun k q _ h => hFc q.1 h)
    have hP : va_P D vwCl (w_Mod cs q u3) H := hP1
    refine lv_if_eq (tgt := 45) hx hb dX4_pour_40 (by decide) (fun c4 => ?_) (fun c4 => ?_)
    · have hw := hw.1 c4
      refine lv_aload_n hx hb dX4_pour_45 rfl (lv_at hl 0 rfl) ?_
      have hFc := va_free (wc := w_Mod cs q u3) hD hS hA [0, 1, 2, 3, 4, 5, 6, 7, 8] rfl
      refine va_callv (va_runV (As := []) (rest := []) ⟨hx, hb, hml, hown, hts⟩ (c_X4_remember l D cs q H.size u3 _ hw) (cwV 0 hts gX4_pour_X4_remember rfl rfl rfl (by decide +kernel) ⟨Nat.le_of_ble_eq_true rfl, Nat.le_of_ble_eq_true rfl⟩) (PC_V hP hD hKK 0 4 rfl rfl) rfl rfl hl.1 rfl (lv_room (Nat.le_of_ble_eq_true rfl)) dX4_pour_46 ⟨Nat.le_of_ble_eq_true rfl, Nat.le_of_ble_eq_true rfl⟩) hS (fun q _ h => hFc q h) hFc (fun u5 t H locs ht hvm hw hB hz1 hk1 hS => ?_)
      obtain ⟨hP1, hD1⟩ := hB
      rw [ht] at hP1
      have hD : va_D A (w_Mod cs q u5) := hD1.weaken (fun k q _ h => hFc q.1 h)
      have hP : va_P D vwCl (w_Mod cs q u5) H := hP1
      refine lv_aload_n hx hb dX4_pour_49 rfl (lv_at hl 0 rfl) ?_
      refine va_get (D := D) (ci := 4) (v := .ref (q 2)) (C := RX4) (T := TX4) (N := 11) hx hb hts (h_X4_X4_pour) hown hK hP 0 rfl rfl 3 (by decide) (z_w hts 1 rfl) (fun _ h9 => h9) rfl dX4_pour_50 ?_
      refine lv_iload_n hx hb dX4_pour_53 rfl (lv_at hl 1 rfl) ?_
      refine lv_iload_n hx hb dX4_pour_54 rfl (lv_at hl 2 rfl) ?_
      have hPc := hP.sub (ws' := w_Row cs (q 2) 336 (u5 2)) [2] rfl
      have hDc := hD.sub (ws' := w_Row cs (q 2) 336 (u5 2)) [2] (by decide) rfl
      have hFc := va_free (wc := w_Row cs (q 2) 336 (u5 2)) hD hS hA [2] rfl
      refine va_calll (va_runS (As := [.ref (q 2), .int x1, .int x2]) (rest := []) ⟨hx, hb, hml, hown, hts⟩ (c_X4_pourOn l D cs (q 2) H.size (u5 2) x1 x2 _ hw) (va_cwS 3 hts gX4_pour_X4_pourOn rfl rfl rfl (by decide +kernel) ⟨Nat.le_of_ble_eq_true rfl, Nat.le_of_ble_eq_true rfl⟩) (PC_S hPc hDc hKK) rfl rfl hl.1 rfl (lv_room (Nat.le_of_ble_eq_true rfl)) dX4_pour_55 ⟨Nat.le_of_ble_eq_true rfl, Nat.le_of_ble_eq_true rfl⟩) hS (fun q _ h => hFc q h) hFc (fun r6 u6 t H locs ht hvm hw hB hz1 hk1 hS => ?_)
      obtain ⟨hP1, hD1⟩ := hB
      rw [ht] at hP1
      obtain ⟨hP, hD⟩ := va_join (wr := ([0, 1, 3, 4, 5, 6, 7, 8].filterMap (fun i => (w_Mod cs q u5)[i]?))) (w1 := w_Row cs (q 2) 336 u6) hP hD [2] [0, 1, 3, 4, 5, 6, 7, 8] rfl rfl (by decide) (by decide) hk1 hFc hP1 hD1
      have hP : va_P D vwCl (w_Mod cs q (zr2 u5 2 u6)) H := hP.sub (ws' := w_Mod cs q (zr2 u5 2 u6)) [0, 1, 8, 2, 3, 4, 5, 6, 7] rfl
      have hD : va_D A (w_Mod cs q (zr2 u5 2 u6)) := hD.sub (ws' := w_Mod cs q (zr2 u5 2 u6)) [0, 1, 8, 2, 3, 4, 5, 6, 7] (by decide) rfl
      exact W.lret (v := r6) hx hb hr (fun t ht hW => ⟨⟨r6, (zr2 u5 2 u6), rfl, hw, by rw [ht]; exact hP, hD⟩, hS.F ht⟩) hS.2.2 dX4_pour_58 hlocks
    · have hw := hw.2 c4
      refine lv_lconst (v := (0 : Int64)) hx hb dX4_pour_43 (by decide) ?_
      exact W.lret (v := (0 : Int64)) hx hb hr (fun t ht hW => ⟨⟨(0 : Int64), (u3), rfl, hw, by rw [ht]; exact hP, hD⟩, hS.F ht⟩) hS.2.2 dX4_pour_44 hlocks
  · have hw := hw.2 c2
    refine lv_aload_n hx hb dX4_pour_12 rfl (lv_at hl 0 rfl) ?_
    refine va_get (D := D) (ci := 4) (v := .ref (q 2)) (C := RX4) (T := TX4) (N := 11) hx hb hts (h_X4_X4_pour) hown hK hP 0 rfl rfl 3 (by decide) (z_w hts 1 rfl) (fun _ h9 => h9) rfl dX4_pour_13 ?_
    refine lv_iload_n hx hb dX4_pour_16 rfl (lv_at hl 2 rfl) ?_
    have hPc := hP.sub (ws' := w_Row cs (q 2) 336 (M 2)) [2] rfl
    have hDc := hD.sub (ws' := w_Row cs (q 2) 336 (M 2)) [2] (by decide) rfl
    refine z_calli (va_runS (As := [.ref (q 2), .int x2]) (rest := [.ref (q 0)]) ⟨hx, hb, hml, hown, hts⟩ (c_X4_isCounter l D cs (q 2) H.size (M 2) x2 _ hw) (va_cwS 2 hts gX4_pour_X4_isCounter rfl rfl rfl (by decide +kernel) ⟨Nat.le_of_ble_eq_true rfl, Nat.le_of_ble_eq_true rfl⟩) (PC_S hPc hDc hKK) rfl rfl hl.1 rfl (lv_room (Nat.le_of_ble_eq_true rfl)) dX4_pour_17 ⟨Nat.le_of_ble_eq_true rfl, Nat.le_of_ble_eq_true rfl⟩) (fun r7 hw => ?_)
    obtain ⟨b7, hw⟩ := hw
    refine lv_if_ne (tgt := 27) hx hb dX4_pour_20 (by decide) (fun c8 => ?_) (fun c8 => ?_)
    · have hw := hw.2 c8
      refine lv_iload_n hx hb dX4_pour_27 rfl (lv_at hl 1 rfl) ?_
      refine lv_iload_n hx hb dX4_pour_28 rfl (lv_at hl 2 rfl) ?_
      refine lv_icmp_ne (tgt := 36) hx hb dX4_pour_29 (by decide) (fun c9 => ?_) (fun c9 => ?_)
      · have hw := hw.2 c9
        refine lv_iconst (v := (0 : Int32)) hx hb dX4_pour_36 (by decide) ?_
        have hFc := va_free (wc := w_Mod cs q M) hD hS hA [0, 1, 2, 3, 4, 5, 6, 7, 8] rfl
        refine va_calli (va_runV (As := [.int (0 : Int32)]) (rest := []) ⟨hx, hb, hml, hown, hts⟩ (c_X4_refused l D cs q H.size M (0 : Int32) _ hw) (cwV 1 hts gX4_pour_X4_refused rfl rfl rfl (by decide +kernel) ⟨Nat.le_of_ble_eq_true rfl, Nat.le_of_ble_eq_true rfl⟩) (PC_V hP hD hKK 0 4 rfl rfl) rfl rfl hl.1 rfl (lv_room (Nat.le_of_ble_eq_true rfl)) dX4_pour_37 ⟨Nat.le_of_ble_eq_true rfl, Nat.le_of_ble_eq_true rfl⟩) hS (fun q _ h => hFc q h) hFc (fun r10 u10 t H locs ht hvm hw hB hz1 hk1 hS => ?_)
        obtain ⟨hP1, hD1⟩ := hB
        rw [ht] at hP1
        obtain ⟨b10, hw⟩ := hw
        have hD : va_D A (w_Mod cs q u10) := hD1.weaken (fun k q _ h => hFc q.1 h)
        have hP : va_P D vwCl (w_Mod cs q u10) H := hP1
        refine lv_if_eq (tgt := 45) hx hb dX4_pour_40 (by decide) (fun c11 => ?_) (fun c11 => ?_)
        · have hw := hw.1 c11
          refine lv_aload_n hx hb dX4_pour_45 rfl (lv_at hl 0 rfl) ?_
          have hFc := va_free (wc := w_Mod cs q u10) hD hS hA [0, 1, 2, 3, 4, 5, 6, 7, 8] rfl
          refine va_callv (va_runV (As := []) (rest := []) ⟨hx, hb, hml, hown, hts⟩ (c_X4_remember l D cs q H.size u10 _ hw) (cwV 0 hts gX4_pour_X4_remember rfl rfl rfl (by decide +kernel) ⟨Nat.le_of_ble_eq_true rfl, Nat.le_of_ble_eq_true rfl⟩) (PC_V hP hD hKK 0 4 rfl rfl) rfl rfl hl.1 rfl (lv_room (Nat.le_of_ble_eq_true rfl)) dX4_pour_46 ⟨Nat.le_of_ble_eq_true rfl, Nat.le_of_ble_eq_true rfl⟩) hS (fun q _ h => hFc q h) hFc (fun u12 t H locs ht hvm hw hB hz1 hk1 hS => ?_)
          obtain ⟨hP1, hD1⟩ := hB
          rw [ht] at hP1
          have hD : va_D A (w_Mod cs q u12) := hD1.weaken (fun k q _ h => hFc q.1 h)
          have hP : va_P D vwCl (w_Mod cs q u12) H := hP1
          refine lv_aload_n hx hb dX4_pour_49 rfl (lv_at hl 0 rfl) ?_
          refine va_get (D := D) (ci := 4) (v := .ref (q 2)) (C := RX4) (T := TX4) (N := 11) hx hb hts (h_X4_X4_pour) hown hK hP 0 rfl rfl 3 (by decide) (z_w hts 1 rfl) (fun _ h9 => h9) rfl dX4_pour_50 ?_
          refine lv_iload_n hx hb dX4_pour_53 rfl (lv_at hl 1 rfl) ?_
          refine lv_iload_n hx hb dX4_pour_54 rfl (lv_at hl 2 rfl) ?_
          have hPc := hP.sub (ws' := w_Row cs (q 2) 336 (u12 2)) [2] rfl
          have hDc := hD.sub (ws' := w_Row cs (q 2) 336 (u12 2)) [2] (by decide) rfl
          have hFc := va_free (wc := w_Row cs (q 2) 336 (u12 2)) hD hS hA [2] rfl
          refine va_calll (va_runS (As := [.ref (q 2), .int x1, .int x2]) (rest := []) ⟨hx, hb, hml, hown, hts⟩ (c_X4_pourOn l D cs (q 2) H.size (u12 2) x1 x2 _ hw) (va_cwS 3 hts gX4_pour_X4_pourOn rfl rfl rfl (by decide +kernel) ⟨Nat.le_of_ble_eq_true rfl, Nat.le_of_ble_eq_true rfl⟩) (PC_S hPc hDc hKK) rfl rfl hl.1 rfl (lv_room (Nat.le_of_ble_eq_true rfl)) dX4_pour_55 ⟨Nat.le_of_ble_eq_true rfl, Nat.le_of_ble_eq_true rfl⟩) hS (fun q _ h => hFc q h) hFc (fun r13 u13 t H locs ht hvm hw hB hz1 hk1 hS => ?_)
          obtain ⟨hP1, hD1⟩ := hB
          rw [ht] at hP1
          obtain ⟨hP, hD⟩ := va_join (wr := ([0, 1, 3, 4, 5, 6, 7, 8].filterMap (fun i => (w_Mod cs q u12)[i]?))) (w1 := w_Row cs (q 2) 336 u13) hP hD [2] [0, 1, 3, 4, 5, 6, 7, 8] rfl rfl (by decide) (by decide) hk1 hFc hP1 hD1
          have hP : va_P D vwCl (w_Mod cs q (zr2 u12 2 u13)) H := hP.sub (ws' := w_Mod cs q (zr2 u12 2 u13)) [0, 1, 8, 2, 3, 4, 5, 6, 7] rfl
          have hD : va_D A (w_Mod cs q (zr2 u12 2 u13)) := hD.sub (ws' := w_Mod cs q (zr2 u12 2 u13)) [0, 1, 8, 2, 3, 4, 5, 6, 7] (by decide) rfl
          exact W.lret (v := r13) hx hb hr (fun t ht hW => ⟨⟨r13, (zr2 u12 2 u13), rfl, hw, by rw [ht]; exact hP, hD⟩, hS.F ht⟩) hS.2.2 dX4_pour_58 hlocks
        · have hw := hw.2 c11
          refine lv_lconst (v := (0 : Int64)) hx hb dX4_pour_43 (by decide) ?_
          exact W.lret (v := (0 : Int64)) hx hb hr (fun t ht hW => ⟨⟨(0 : Int64), (u10), rfl, hw, by rw [ht]; exact hP, hD⟩, hS.F ht⟩) hS.2.2 dX4_pour_44 hlocks
      · have hw := hw.1 c9
        refine lv_iconst (v := (2 : Int32)) hx hb dX4_pour_32 (by decide) ?_
        refine lv_goto (tgt := 37) hx hb dX4_pour_33 (by decide) ?_
        have hFc := va_free (wc := w_Mod cs q M) hD hS hA [0, 1, 2, 3, 4, 5, 6, 7, 8] rfl
        refine va_calli (va_runV (As := [.int (2 : Int32)]) (rest := []) ⟨hx, hb, hml, hown, hts⟩ (c_X4_refused l D cs q H.size M (2 : Int32) _ hw) (cwV 1 hts gX4_pour_X4_refused rfl rfl rfl (by decide +kernel) ⟨Nat.le_of_ble_eq_true rfl, Nat.le_of_ble_eq_true rfl⟩) (PC_V hP hD hKK 0 4 rfl rfl) rfl rfl hl.1 rfl (lv_room (Nat.le_of_ble_eq_true rfl)) dX4_pour_37 ⟨Nat.le_of_ble_eq_true rfl, Nat.le_of_ble_eq_true rfl⟩) hS (fun q _ h => hFc q h) hFc (fun r14 u14 t H locs ht hvm hw hB hz1 hk1 hS => ?_)
        obtain ⟨hP1, hD1⟩ := hB
        rw [ht] at hP1
        obtain ⟨b14, hw⟩ := hw
        have hD : va_D A (w_Mod cs q u14) := hD1.weaken (fun k q _ h => hFc q.1 h)
        have hP : va_P D vwCl (w_Mod cs q u14) H := hP1
        refine lv_if_eq (tgt := 45) hx hb dX4_pour_40 (by decide) (fun c15 => ?_) (fun c15 => ?_)
        · have hw := hw.1 c15
          refine lv_aload_n hx hb dX4_pour_45 rfl (lv_at hl 0 rfl) ?_
          have hFc := va_free (wc := w_Mod cs q u14) hD hS hA [0, 1, 2, 3, 4, 5, 6, 7, 8] rfl
          refine va_callv (va_runV (As := []) (rest := []) ⟨hx, hb, hml, hown, hts⟩ (c_X4_remember l D cs q H.size u14 _ hw) (cwV 0 hts gX4_pour_X4_remember rfl rfl rfl (by decide +kernel) ⟨Nat.le_of_ble_eq_true rfl, Nat.le_of_ble_eq_true rfl⟩) (PC_V hP hD hKK 0 4 rfl rfl) rfl rfl hl.1 rfl (lv_room (Nat.le_of_ble_eq_true rfl)) dX4_pour_46 ⟨Nat.le_of_ble_eq_true rfl, Nat.le_of_ble_eq_true rfl⟩) hS (fun q _ h => hFc q h) hFc (fun u16 t H locs ht hvm hw hB hz1 hk1 hS => ?_)
          obtain ⟨hP1, hD1⟩ := hB
          rw [ht] at hP1
          have hD : va_D A (w_Mod cs q u16) := hD1.weaken (fun k q _ h => hFc q.1 h)
          have hP : va_P D vwCl (w_Mod cs q u16) H := hP1
          refine lv_aload_n hx hb dX4_pour_49 rfl (lv_at hl 0 rfl) ?_
          refine va_get (D := D) (ci := 4) (v := .ref (q 2)) (C := RX4) (T := TX4) (N := 11) hx hb hts (h_X4_X4_pour) hown hK hP 0 rfl rfl 3 (by decide) (z_w hts 1 rfl) (fun _ h9 => h9) rfl dX4_pour_50 ?_
          refine lv_iload_n hx hb dX4_pour_53 rfl (lv_at hl 1 rfl) ?_
          refine lv_iload_n hx hb dX4_pour_54 rfl (lv_at hl 2 rfl) ?_
          have hPc := hP.sub (ws' := w_Row cs (q 2) 336 (u16 2)) [2] rfl
          have hDc := hD.sub (ws' := w_Row cs (q 2) 336 (u16 2)) [2] (by decide) rfl
          have hFc := va_free (wc := w_Row cs (q 2) 336 (u16 2)) hD hS hA [2] rfl
          refine va_calll (va_runS (As := [.ref (q 2), .int x1, .int x2]) (rest := []) ⟨hx, hb, hml, hown, hts⟩ (c_X4_pourOn l D cs (q 2) H.size (u16 2) x1 x2 _ hw) (va_cwS 3 hts gX4_pour_X4_pourOn rfl rfl rfl (by decide +kernel) ⟨Nat.le_of_ble_eq_true rfl, Nat.le_of_ble_eq_true rfl⟩) (PC_S hPc hDc hKK) rfl rfl hl.1 rfl (lv_room (Nat.le_of_ble_eq_true rfl)) dX4_pour_55 ⟨Nat.le_of_ble_eq_true rfl, Nat.le_of_ble_eq_true rfl⟩) hS (fun q _ h => hFc q h) hFc (fun r17 u17 t H locs ht hvm hw hB hz1 hk1 hS => ?_)
          obtain ⟨hP1, hD1⟩ := hB
          rw [ht] at hP1
          obtain ⟨hP, hD⟩ := va_join (wr := ([0, 1, 3, 4, 5, 6, 7, 8].filterMap (fun i => (w_Mod cs q u16)[i]?))) (w1 := w_Row cs (q 2) 336 u17) hP hD [2] [0, 1, 3, 4, 5, 6, 7, 8] rfl rfl (by decide) (by decide) hk1 hFc hP1 hD1
          have hP : va_P D vwCl (w_Mod cs q (zr2 u16 2 u17)) H := hP.sub (ws' := w_Mod cs q (zr2 u16 2 u17)) [0, 1, 8, 2, 3, 4, 5, 6, 7] rfl
          have hD : va_D A (w_Mod cs q (zr2 u16 2 u17)) := hD.sub (ws' := w_Mod cs q (zr2 u16 2 u17)) [0, 1, 8, 2, 3, 4, 5, 6, 7] (by decide) rfl
          exact W.lret (v := r17) hx hb hr (fun t ht hW => ⟨⟨r17, (zr2 u16 2 u17), rfl, hw, by rw [ht]; exact hP, hD⟩, hS.F ht⟩) hS.2.2 dX4_pour_58 hlocks
        · have hw := hw.2 c15
          refine lv_lconst (v := (0 : Int64)) hx hb dX4_pour_43 (by decide) ?_
          exact W.lret (v := (0 : Int64)) hx hb hr (fun t ht hW => ⟨⟨(0 : Int64), (u14), rfl, hw, by rw [ht]; exact hP, hD⟩, hS.F ht⟩) hS.2.2 dX4_pour_44 hlocks
    · have hw := hw.1 c8
      refine lv_iconst (v := (1 : Int32)) hx hb dX4_pour_23 (by decide) ?_
      refine lv_goto (tgt := 37) hx hb dX4_pour_24 (by decide) ?_
      have hFc := va_free (wc := w_Mod cs q M) hD hS hA [0, 1, 2, 3, 4, 5, 6, 7, 8] rfl
      refine va_calli (va_runV (As := [.int (1 : Int32)]) (rest := []) ⟨hx, hb, hml, hown, hts⟩ (c_X4_refused l D cs q H.size M (1 : Int32) _ hw) (cwV 1 hts gX4_pour_X4_refused rfl rfl rfl (by decide +kernel) ⟨Nat.le_of_ble_eq_true rfl, Nat.le_of_ble_eq_true rfl⟩) (PC_V hP hD hKK 0 4 rfl rfl) rfl rfl hl.1 rfl (lv_room (Nat.le_of_ble_eq_true rfl)) dX4_pour_37 ⟨Nat.le_of_ble_eq_true rfl, Nat.le_of_ble_eq_true rfl⟩) hS (fun q _ h => hFc q h) hFc (fun r18 u18 t H locs ht hvm hw hB hz1 hk1 hS => ?_)
      obtain ⟨hP1, hD1⟩ := hB
      rw [ht] at hP1
      obtain ⟨b18, hw⟩ := hw
      have hD : va_D A (w_Mod cs q u18) := hD1.weaken (fun k q _ h => hFc q.1 h)
      have hP : va_P D vwCl (w_Mod cs q u18) H := hP1
      refine lv_if_eq (tgt := 45) hx hb dX4_pour_40 (by decide) (fun c19 => ?_) (fun c19 => ?_)
      · have hw := hw.1 c19
        refine lv_aload_n hx hb dX4_pour_45 rfl (lv_at hl 0 rfl) ?_
        have hFc := va_free (wc := w_Mod cs q u18) hD hS hA [0, 1, 2, 3, 4, 5, 6, 7, 8] rfl
        refine va_callv (va_runV (As := []) (rest := []) ⟨hx, hb, hml, hown, hts⟩ (c_X4_remember l D cs q H.size u18 _ hw) (cwV 0 hts gX4_pour_X4_remember rfl rfl rfl (by decide +kernel) ⟨Nat.le_of_ble_eq_true rfl, Nat.le_of_ble_eq_true rfl⟩) (PC_V hP hD hKK 0 4 rfl rfl) rfl rfl hl.1 rfl (lv_room (Nat.le_of_ble_eq_true rfl)) dX4_pour_46 ⟨Nat.le_of_ble_eq_true rfl, Nat.le_of_ble_eq_true rfl⟩) hS (fun q _ h => hFc q h) hFc (fun u20 t H locs ht hvm hw hB hz1 hk1 hS => ?_)
        obtain ⟨hP1, hD1⟩ := hB
        rw [ht] at hP1
        have hD : va_D A (w_Mod cs q u20) := hD1.weaken (fun k q _ h => hFc q.1 h)
        have hP : va_P D vwCl (w_Mod cs q u20) H := hP1
        refine lv_aload_n hx hb dX4_pour_49 rfl (lv_at hl 0 rfl) ?_
        refine va_get (D := D) (ci := 4) (v := .ref (q 2)) (C := RX4) (T := TX4) (N := 11) hx hb hts (h_X4_X4_pour) hown hK hP 0 rfl rfl 3 (by decide) (z_w hts 1 rfl) (fun _ h9 => h9) rfl dX4_pour_50 ?_
        refine lv_iload_n hx hb dX4_pour_53 rfl (lv_at hl 1 rfl) ?_
        refine lv_iload_n hx hb dX4_pour_54 rfl (lv_at hl 2 rfl) ?_
        have hPc := hP.sub (ws' := w_Row cs (q 2) 336 (u20 2)) [2] rfl
        have hDc := hD.sub (ws' := w_Row cs (q 2) 336 (u20 2)) [2] (by decide) rfl
        have hFc := va_free (wc := w_Row cs (q 2) 336 (u20 2)) hD hS hA [2] rfl
        refine va_calll (va_runS (As := [.ref (q 2), .int x1, .int x2]) (rest := []) ⟨hx, hb, hml, hown, hts⟩ (c_X4_pourOn l D cs (q 2) H.size (u20 2) x1 x2 _ hw) (va_cwS 3 hts gX4_pour_X4_pourOn rfl rfl rfl (by decide +kernel) ⟨Nat.le_of_ble_eq_true rfl, Nat.le_of_ble_eq_true rfl⟩) (PC_S hPc hDc hKK) rfl rfl hl.1 rfl (lv_room (Nat.le_of_ble_eq_true rfl)) dX4_pour_55 ⟨Nat.le_of_ble_eq_true rfl, Nat.le_of_ble_eq_true rfl⟩) hS (fun q _ h => hFc q h) hFc (fun r21 u21 t H locs ht hvm hw hB hz1 hk1 hS => ?_)
        obtain ⟨hP1, hD1⟩ := hB
        rw [ht] at hP1
        obtain ⟨hP, hD⟩ := va_join (wr := ([0, 1, 3, 4, 5, 6, 7, 8].filterMap (fun i => (w_Mod cs q u20)[i]?))) (w1 := w_Row cs (q 2) 336 u21) hP hD [2] [0, 1, 3, 4, 5, 6, 7, 8] rfl rfl (by decide) (by decide) hk1 hFc hP1 hD1
        have hP : va_P D vwCl (w_Mod cs q (zr2 u20 2 u21)) H := hP.sub (ws' := w_Mod cs q (zr2 u20 2 u21)) [0, 1, 8, 2, 3, 4, 5, 6, 7] rfl
        have hD : va_D A (w_Mod cs q (zr2 u20 2 u21)) := hD.sub (ws' := w_Mod cs q (zr2 u20 2 u21)) [0, 1, 8, 2, 3, 4, 5, 6, 7] (by decide) rfl
        exact W.lret (v := r21) hx hb hr (fun t ht hW => ⟨⟨r21, (zr2 u20 2 u21), rfl, hw, by rw [ht]; exact hP, hD⟩, hS.F ht⟩) hS.2.2 dX4_pour_58 hlocks
      · have hw := hw.2 c19
        refine lv_lconst (v := (0 : Int64)) hx hb dX4_pour_43 (by decide) ?_
        exact W.lret (v := (0 : Int64)) hx hb hr (fun t ht hW => ⟨⟨(0 : Int64), (u18), rfl, hw, by rw [ht]; exact hP, hD⟩, hS.F ht⟩) hS.2.2 dX4_pour_44 hlocks
set_option maxHeartbeats 4000000 in
set_option maxRecDepth 100000 in
theorem c_X4_pour (l : Launch) (D : va_G) (cs : Nat → ClassId) (q : Nat → Nat) (sz : Nat) (M : MS) (x1 : Int32) (x2 : Int32) (Q : Int64 → MS → Prop) (hw : wp_X4_pour M x1 x2 Q) : Met l yX4_pour wsX4_pour ({ frames := 3, cells := 0, slots := 0, locals := 70 } : Room) (va_Pc [.ref (q 0), .int x1, .int x2] (PC D cs (w_Mod cs q M) sz)) (va_Ql (fun r (u : MS) => Q r u) (fun (u : MS) t => va_P D vwCl (w_Mod cs q u) t.heap ∧ va_D (va_A (w_Mod cs q M) sz) (w_Mod cs q u)) (va_A (w_Mod cs q M) sz)) 0 0 (va_A (w_Mod cs q M) sz) := by
  refine Met.ofW (cc := cX4_pour) (maxL := 3) (ret := (some .long)) (by decide) rfl ?_
  intro p e s m args below meth c s₁ B hml hv
  obtain ⟨rfl, hsz, hP, hKK, hD0⟩ := hv
  have hC : MAt p s m _ meth c RX4 cX4_pour 3 (some .long) wsX4_pour D cs := ⟨B.exec, B.bytes, B.returns, hml, findClass_of_methodNamed B.named, atoms_spec (ws := wsX4_pour) B.pre, B.notSynchronized, hKK⟩
  have hl := lv_entry ([.ref (q 0), .int x1, .int x2]) (n := 3) (Nat.le_of_ble_eq_true rfl)
  rw [lg_entry_eq]
  generalize (lg_sl ([.ref (q 0), .int x1, .int x2]) ++ List.replicate (3 - (lg_sl ([.ref (q 0), .int x1, .int x2])).length) Slot.unset).toArray = ls at hl ⊢
  subst hsz
  have hD := hD0.self (sz := s.heap.size)
  have hA : ∀ z : Nat, s.heap.size ≤ z → va_A (w_Mod cs q M) s.heap.size z := fun z h => Or.inr h
  exact t_X4_pour hC q M x1 x2 Q hA hw s.heap [] hP hD va_S.rf ls hl
theorem h_X4_X4_undo : ∀ w ∈ u_ws RX4 TX4 11, w ∈ wsX4_undo := fun _ h => List.mem_cons_of_mem _ (List.mem_append_right _ h)
set_option maxHeartbeats 4000000 in
set_option maxRecDepth 100000 in
theorem t_X4_undo {p : Program} {l : Launch} {e : Env} {s : State} {m : MethodId} {args : Array Value} {below : List Frame} {meth : Method} {c : Code} {D : va_G} {cs : Nat → ClassId} {A : Nat → Prop} (hC : MAt p s m args meth c RX4 cX4_undo 1 (some .int) wsX4_undo D cs) (q : Nat → Nat) (M : MS) (Q : Int32 → MS → Prop) (hA : ∀ q : Nat, s.heap.size ≤ q → A q) (hw : wp_X4_undo M Q) (H : Heap) (locs : List Loc) (hP : va_P D vwCl (w_Mod cs q M) H) (hD : va_D A (w_Mod cs q M)) (hS : va_S A s.heap H locs) (ls : Array Slot) (hl : lv_has ls 1 [(0, .ref (q 0))]) : W p l e ({ frames := 1, cells := 0, slots := 0, locals := 24 } : Room) s m args below meth c H locs 0 0 (MQ below (va_Qi (fun r (u : MS) => Q r u) (fun (u : MS) t => va_P D vwCl (w_Mod cs q u) t.heap ∧ va_D A (w_Mod cs q u)) A) args s 0 0 A) (F0 m 0 ls []) := by
  obtain ⟨hx, hb, hr, hml, hown, hts, hlocks, hKK⟩ := id hC
  have hK := hKK.1
  refine lv_aload_n hx hb dX4_undo_0 rfl (lv_at hl 0 rfl) ?_
  refine lv_aload_n hx hb dX4_undo_1 rfl (lv_at hl 0 rfl) ?_
  refine va_get (D := D) (ci := 4) (v := .int (M 0 2)) (C := RX4) (T := TX4) (N := 11) hx hb hts (h_X4_X4_undo) hown hK hP 0 rfl rfl 6 (by decide) (z_w hts 1 rfl) (fun _ h9 => h9) rfl dX4_undo_2 ?_
  refine lv_if_ne (tgt := 12) hx hb dX4_undo_5 (by decide) (fun c1 => ?_) (fun c1 => ?_)
  · have hw := hw.2 c1
    refine lv_iconst (v := (0 : Int32)) hx hb dX4_undo_12 (by decide) ?_
    have hFc := va_free (wc := w_Mod cs q M) hD hS hA [0, 1, 2, 3, 4, 5, 6, 7, 8] rfl
    refine va_calli (va_runV (As := [.int (0 : Int32)]) (rest := []) ⟨hx, hb, hml, hown, hts⟩ (c_X4_refused l D cs q H.size M (0 : Int32) _ hw) (cwV 1 hts gX4_undo_X4_refused rfl rfl rfl (by decide +kernel) ⟨Nat.le_of_ble_eq_true rfl, Nat.le_of_ble_eq_true rfl⟩) (PC_V hP hD hKK 0 4 rfl rfl) rfl rfl hl.1 rfl (lv_room (Nat.le_of_ble_eq_true rfl)) dX4_undo_13 ⟨Nat.le_of_ble_eq_true rfl, Nat.le_of_ble_eq_true rfl⟩) hS (fun q _ h => hFc q h) hFc (fun r2 u2 t H locs ht hvm hw hB hz1 hk1 hS => ?_)
    obtain ⟨hP1, hD1⟩ := hB
    rw [ht] at hP1
    obtain ⟨b2, hw⟩ := hw
    have hD : va_D A (w_Mod cs q u2) := hD1.weaken (fun k q _ h => hFc q.1 h)
    have hP : va_P D vwCl (w_Mod cs q u2) H := hP1
    refine lv_if_eq (tgt := 21) hx hb dX4_undo_16 (by decide) (fun c3 => ?_) (fun c3 => ?_)
    · have hw := hw.1 c3
      refine lv_aload_n hx hb dX4_undo_21 rfl (lv_at hl 0 rfl) ?_
      refine lv_dup hx hb dX4_undo_22 rfl ?_
      refine va_get (D := D) (ci := 4) (v := .int (u2 0 2)) (C := RX4) (T := TX4) (N := 11) hx hb hts (h_X4_X4_undo) hown hK hP 0 rfl rfl 6 (by decide) (z_w hts 1 rfl) (fun _ h9 => h9) rfl dX4_undo_23 ?_
      refine lv_iconst (v := (1 : Int32)) hx hb dX4_undo_26 (by decide) ?_
      refine lv_isub hx hb dX4_undo_27 ?_
      refine va_put (D := D) (ci := 4) (v := .int ((u2 0 2) - (1 : Int32))) (ty := .int) (C := RX4) (T := TX4) (N := 11) hx hb hts (h_X4_X4_undo) tyX4 tyX4_ok nmX4 hown hK hP hD hS 0 rfl rfl 6 (by decide) (z_w hts 1 rfl) (fun _ h9 => h9) rfl (by decide +kernel) rfl rfl (Nat.le_of_ble_eq_true rfl) dX4_undo_28 (fun H locs hP hD hS => ?_)
      have hP : va_P D vwCl (w_Mod cs q (zs2 u2 0 2 ((u2 0 2) - (1 : Int32)))) H := hP
      have hD : va_D A (w_Mod cs q (zs2 u2 0 2 ((u2 0 2) - (1 : Int32)))) := hD
      refine lv_aload_n hx hb dX4_undo_31 rfl (lv_at hl 0 rfl) ?_
      refine va_get (D := D) (ci := 4) (v := .ref (q 4)) (C := RX4) (T := TX4) (N := 11) hx hb hts (h_X4_X4_undo) hown hK hP 0 rfl rfl 5 (by decide) (z_w hts 2 rfl) (fun _ h9 => h9) rfl dX4_undo_32 ?_
      refine lv_sipush (v := (336 : Int32)) hx hb dX4_undo_35 (by decide) ?_
      refine lv_aload_n hx hb dX4_undo_38 rfl (lv_at hl 0 rfl) ?_
      refine va_get (D := D) (ci := 4) (v := .int ((u2 0 2) - (1 : Int32))) (C := RX4) (T := TX4) (N := 11) hx hb hts (h_X4_X4_undo) hown hK hP 0 rfl rfl 6 (by decide) (z_w hts 1 rfl) (fun _ h9 => h9) rfl dX4_undo_39 ?_
      refine lv_imul hx hb dX4_undo_42 ?_
      refine lv_aload_n hx hb dX4_undo_43 rfl (lv_at hl 0 rfl) ?_
      refine va_get (D := D) (ci := 4) (v := .ref (q 2)) (C := RX4) (T := TX4) (N := 11) hx hb hts (h_X4_X4_undo) hown hK hP 0 rfl rfl 3 (by decide) (z_w hts 3 rfl) (fun _ h9 => h9) rfl dX4_undo_44 ?_
      refine lv_iconst (v := (0 : Int32)) hx hb dX4_undo_47 (by decide) ?_
      have hPc := hP.sub (ws' := w_Row cs (q 4) 4704 (u2 4) ++ w_Row cs (q 2) 336 (u2 2)) [4, 2] rfl
      have hDc := hD.sub (ws' := w_Row cs (q 4) 4704 (u2 4) ++ w_Row cs (q 2) 336 (u2 2)) [4, 2] (by decide) rfl
      have hFc := va_free (wc := w_Row cs (q 4) 4704 (u2 4) ++ w_Row cs (q 2) 336 (u2 2)) hD hS hA [4, 2] rfl
      refine va_callv (va_runS (As := [.ref (q 4), .int ((336 : Int32) * ((u2 0 2) - (1 : Int32))), .ref (q 2), .int (0 : Int32)]) (rest := []) ⟨hx, hb, hml, hown, hts⟩ (c_X4_copyLine l D cs (q 4) (q 2) H.size 4704 336 (u2 4) (u2 2) ((336 : Int32) * ((u2 0 2) - (1 : Int32))) (0 : Int32) _ hw) (va_cwS 4 hts gX4_undo_X4_copyLine rfl rfl rfl (by decide +kernel) ⟨Nat.le_of_ble_eq_true rfl, Nat.le_of_ble_eq_true rfl⟩) (PC_S hPc hDc hKK) rfl rfl hl.1 rfl (lv_room (Nat.le_of_ble_eq_true rfl)) dX4_undo_48 ⟨Nat.le_of_ble_eq_true rfl, Nat.le_of_ble_eq_true rfl⟩) hS (fun q _ h => hFc q h) hFc (fun u4 t H locs ht hvm hw hB hz1 hk1 hS => ?_)
      obtain ⟨hP1, hD1⟩ := hB
      rw [ht] at hP1
      obtain ⟨hP, hD⟩ := va_join (wr := ([0, 1, 3, 5, 6, 7, 8].filterMap (fun i => (w_Mod cs q (zs2 u2 0 2 ((u2 0 2) - (1 : Int32))))[i]?))) (w1 := w_Row cs (q 4) 4704 (u2 4) ++ w_Row cs (q 2) 336 u4) hP hD [4, 2] [0, 1, 3, 5, 6, 7, 8] rfl rfl (by decide) (by decide) hk1 hFc hP1 hD1
      have hP : va_P D vwCl (w_Mod cs q (zr2 (zs2 u2 0 2 ((u2 0 2) - (1 : Int32))) 2 u4)) H := hP.sub (ws' := w_Mod cs q (zr2 (zs2 u2 0 2 ((u2 0 2) - (1 : Int32))) 2 u4)) [0, 1, 8, 2, 7, 3, 4, 5, 6] rfl
      have hD : va_D A (w_Mod cs q (zr2 (zs2 u2 0 2 ((u2 0 2) - (1 : Int32))) 2 u4)) := hD.sub (ws' := w_Mod cs q (zr2 (zs2 u2 0 2 ((u2 0 2) - (1 : Int32))) 2 u4)) [0, 1, 8, 2, 7, 3, 4, 5, 6] (by decide) rfl
      refine lv_aload_n hx hb dX4_undo_51 rfl (lv_at hl 0 rfl) ?_
      refine va_get (D := D) (ci := 4) (v := .int ((u2 0 2) - (1 : Int32))) (C := RX4) (T := TX4) (N := 11) hx hb hts (h_X4_X4_undo) hown hK hP 0 rfl rfl 6 (by decide) (z_w hts 1 rfl) (fun _ h9 => h9) rfl dX4_undo_52 ?_
      exact W.iret (v := (u2 0 2) - (1 : Int32)) hx hb hr (fun t ht hW => ⟨⟨(u2 0 2) - (1 : Int32), (zr2 (zs2 u2 0 2 ((u2 0 2) - (1 : Int32))) 2 u4), rfl, hw, by rw [ht]; exact hP, hD⟩, hS.F ht⟩) hS.2.2 dX4_undo_55 hlocks
    · have hw := hw.2 c3
      refine lv_iconst (v := (0 : Int32)) hx hb dX4_undo_19 (by decide) ?_
      exact W.iret (v := (0 : Int32)) hx hb hr (fun t ht hW => ⟨⟨(0 : Int32), (u2), rfl, hw, by rw [ht]; exact hP, hD⟩, hS.F ht⟩) hS.2.2 dX4_undo_20 hlocks
  · have hw := hw.1 c1
    refine lv_iconst (v := (1 : Int32)) hx hb dX4_undo_8 (by decide) ?_
    refine lv_goto (tgt := 13) hx hb dX4_undo_9 (by decide) ?_
    have hFc := va_free (wc := w_Mod cs q M) hD hS hA [0, 1, 2, 3, 4, 5, 6, 7, 8] rfl
    refine va_calli (va_runV (As := [.int (1 : Int32)]) (rest := []) ⟨hx, hb, hml, hown, hts⟩ (c_X4_refused l D cs q H.size M (1 : Int32) _ hw) (cwV 1 hts gX4_undo_X4_refused rfl rfl rfl (by decide +kernel) ⟨Nat.le_of_ble_eq_true rfl, Nat.le_of_ble_eq_true rfl⟩) (PC_V hP hD hKK 0 4 rfl rfl) rfl rfl hl.1 rfl (lv_room (Nat.le_of_ble_eq_true rfl)) dX4_undo_13 ⟨Nat.le_of_ble_eq_true rfl, Nat.le_of_ble_eq_true rfl⟩) hS (fun q _ h => hFc q h) hFc (fun r5 u5 t H locs ht hvm hw hB hz1 hk1 hS => ?_)
    obtain ⟨hP1, hD1⟩ := hB
    rw [ht] at hP1
    obtain ⟨b5, hw⟩ := hw
    have hD : va_D A (w_Mod cs q u5) := hD1.weaken (fun k q _ h => hFc q.1 h)
    have hP : va_P D vwCl (w_Mod cs q u5) H := hP1
    refine lv_if_eq (tgt := 21) hx hb dX4_undo_16 (by decide) (fun c6 => ?_) (fun c6 => ?_)
    · have hw := hw.1 c6
      refine lv_aload_n hx hb dX4_undo_21 rfl (lv_at hl 0 rfl) ?_
      refine lv_dup hx hb dX4_undo_22 rfl ?_
      refine va_get (D := D) (ci := 4) (v := .int (u5 0 2)) (C := RX4) (T := TX4) (N := 11) hx hb hts (h_X4_X4_undo) hown hK hP 0 rfl rfl 6 (by decide) (z_w hts 1 rfl) (fun _ h9 => h9) rfl dX4_undo_23 ?_
      refine lv_iconst (v := (1 : Int32)) hx hb dX4_undo_26 (by decide) ?_
      refine lv_isub hx hb dX4_undo_27 ?_
      refine va_put (D := D) (ci := 4) (v := .int ((u5 0 2) - (1 : Int32))) (ty := .int) (C := RX4) (T := TX4) (N := 11) hx hb hts (h_X4_X4_undo) tyX4 tyX4_ok nmX4 hown hK hP hD hS 0 rfl rfl 6 (by decide) (z_w hts 1 rfl) (fun _ h9 => h9) rfl (by decide +kernel) rfl rfl (Nat.le_of_ble_eq_true rfl) dX4_undo_28 (fun H locs hP hD hS => ?_)
      have hP : va_P D vwCl (w_Mod cs q (zs2 u5 0 2 ((u5 0 2) - (1 : Int32)))) H := hP
      have hD : va_D A (w_Mod cs q (zs2 u5 0 2 ((u5 0 2) - (1 : Int32)))) := hD
      refine lv_aload_n hx hb dX4_undo_31 rfl (lv_at hl 0 rfl) ?_
      refine va_get (D := D) (ci := 4) (v := .ref (q 4)) (C := RX4) (T := TX4) (N := 11) hx hb hts (h_X4_X4_undo) hown hK hP 0 rfl rfl 5 (by decide) (z_w hts 2 rfl) (fun _ h9 => h9) rfl dX4_undo_32 ?_
      refine lv_sipush (v := (336 : Int32)) hx hb dX4_undo_35 (by decide) ?_
      refine lv_aload_n hx hb dX4_undo_38 rfl (lv_at hl 0 rfl) ?_
      refine va_get (D := D) (ci := 4) (v := .int ((u5 0 2) - (1 : Int32))) (C := RX4) (T := TX4) (N := 11) hx hb hts (h_X4_X4_undo) hown hK hP 0 rfl rfl 6 (by decide) (z_w hts 1 rfl) (fun _ h9 => h9) rfl dX4_undo_39 ?_
      refine lv_imul hx hb dX4_undo_42 ?_
      refine lv_aload_n hx hb dX4_undo_43 rfl (lv_at hl 0 rfl) ?_
      refine va_get (D := D) (ci := 4) (v := .ref (q 2)) (C := RX4) (T := TX4) (N := 11) hx hb hts (h_X4_X4_undo) hown hK hP 0 rfl rfl 3 (by decide) (z_w hts 3 rfl) (fun _ h9 => h9) rfl dX4_undo_44 ?_
      refine lv_iconst (v := (0 : Int32)) hx hb dX4_undo_47 (by decide) ?_
      have hPc := hP.sub (ws' := w_Row cs (q 4) 4704 (u5 4) ++ w_Row cs (q 2) 336 (u5 2)) [4, 2] rfl
      have hDc := hD.sub (ws' := w_Row cs (q 4) 4704 (u5 4) ++ w_Row cs (q 2) 336 (u5 2)) [4, 2] (by decide) rfl
      have hFc := va_free (wc := w_Row cs (q 4) 4704 (u5 4) ++ w_Row cs (q 2) 336 (u5 2)) hD hS hA [4, 2] rfl
      refine va_callv (va_runS (As := [.ref (q 4), .int ((336 : Int32) * ((u5 0 2) - (1 : Int32))), .ref (q 2), .int (0 : Int32)]) (rest := []) ⟨hx, hb, hml, hown, hts⟩ (c_X4_copyLine l D cs (q 4) (q 2) H.size 4704 336 (u5 4) (u5 2) ((336 : Int32) * ((u5 0 2) - (1 : Int32))) (0 : Int32) _ hw) (va_cwS 4 hts gX4_undo_X4_copyLine rfl rfl rfl (by decide +kernel) ⟨Nat.le_of_ble_eq_true rfl, Nat.le_of_ble_eq_true rfl⟩) (PC_S hPc hDc hKK) rfl rfl hl.1 rfl (lv_room (Nat.le_of_ble_eq_true rfl)) dX4_undo_48 ⟨Nat.le_of_ble_eq_true rfl, Nat.le_of_ble_eq_true rfl⟩) hS (fun q _ h => hFc q h) hFc (fun u7 t H locs ht hvm hw hB hz1 hk1 hS => ?_)
      obtain ⟨hP1, hD1⟩ := hB
      rw [ht] at hP1
      obtain ⟨hP, hD⟩ := va_join (wr := ([0, 1, 3, 5, 6, 7, 8].filterMap (fun i => (w_Mod cs q (zs2 u5 0 2 ((u5 0 2) - (1 : Int32))))[i]?))) (w1 := w_Row cs (q 4) 4704 (u5 4) ++ w_Row cs (q 2) 336 u7) hP hD [4, 2] [0, 1, 3, 5, 6, 7, 8] rfl rfl (by decide) (by decide) hk1 hFc hP1 hD1
      have hP : va_P D vwCl (w_Mod cs q (zr2 (zs2 u5 0 2 ((u5 0 2) - (1 : Int32))) 2 u7)) H := hP.sub (ws' := w_Mod cs q (zr2 (zs2 u5 0 2 ((u5 0 2) - (1 : Int32))) 2 u7)) [0, 1, 8, 2, 7, 3, 4, 5, 6] rfl
      have hD : va_D A (w_Mod cs q (zr2 (zs2 u5 0 2 ((u5 0 2) - (1 : Int32))) 2 u7)) := hD.sub (ws' := w_Mod cs q (zr2 (zs2 u5 0 2 ((u5 0 2) - (1 : Int32))) 2 u7)) [0, 1, 8, 2, 7, 3, 4, 5, 6] (by decide) rfl
      refine lv_aload_n hx hb dX4_undo_51 rfl (lv_at hl 0 rfl) ?_
      refine va_get (D := D) (ci := 4) (v := .int ((u5 0 2) - (1 : Int32))) (C := RX4) (T := TX4) (N := 11) hx hb hts (h_X4_X4_undo) hown hK hP 0 rfl rfl 6 (by decide) (z_w hts 1 rfl) (fun _ h9 => h9) rfl dX4_undo_52 ?_
      exact W.iret (v := (u5 0 2) - (1 : Int32)) hx hb hr (fun t ht hW => ⟨⟨(u5 0 2) - (1 : Int32), (zr2 (zs2 u5 0 2 ((u5 0 2) - (1 : Int32))) 2 u7), rfl, hw, by rw [ht]; exact hP, hD⟩, hS.F ht⟩) hS.2.2 dX4_undo_55 hlocks
    · have hw := hw.2 c6
      refine lv_iconst (v := (0 : Int32)) hx hb dX4_undo_19 (by decide) ?_
      exact W.iret (v := (0 : Int32)) hx hb hr (fun t ht hW => ⟨⟨(0 : Int32), (u5), rfl, hw, by rw [ht]; exact hP, hD⟩, hS.F ht⟩) hS.2.2 dX4_undo_20 hlocks
set_option maxHeartbeats 4000000 in
set_option maxRecDepth 100000 in
theorem c_X4_undo (l : Launch) (D : va_G) (cs : Nat → ClassId) (q : Nat → Nat) (sz : Nat) (M : MS) (Q : Int32 → MS → Prop) (hw : wp_X4_undo M Q) : Met l yX4_undo wsX4_undo ({ frames := 1, cells := 0, slots := 0, locals := 24 } : Room) (va_Pc [.ref (q 0)] (PC D cs (w_Mod cs q M) sz)) (va_Qi (fun r (u : MS) => Q r u) (fun (u : MS) t => va_P D vwCl (w_Mod cs q u) t.heap ∧ va_D (va_A (w_Mod cs q M) sz) (w_Mod cs q u)) (va_A (w_Mod cs q M) sz)) 0 0 (va_A (w_Mod cs q M) sz) := by
  refine Met.ofW (cc := cX4_undo) (maxL := 1) (ret := (some .int)) (by decide) rfl ?_
  intro p e s m args below meth c s₁ B hml hv
  obtain ⟨rfl, hsz, hP, hKK, hD0⟩ := hv
  have hC : MAt p s m _ meth c RX4 cX4_undo 1 (some .int) wsX4_undo D cs := ⟨B.exec, B.bytes, B.returns, hml, findClass_of_methodNamed B.named, atoms_spec (ws := wsX4_undo) B.pre, B.notSynchronized, hKK⟩
  have hl := lv_entry ([.ref (q 0)]) (n := 1) (Nat.le_of_ble_eq_true rfl)
  rw [lg_entry_eq]
  generalize (lg_sl ([.ref (q 0)]) ++ List.replicate (1 - (lg_sl ([.ref (q 0)])).length) Slot.unset).toArray = ls at hl ⊢
  subst hsz
  have hD := hD0.self (sz := s.heap.size)
  have hA : ∀ z : Nat, s.heap.size ≤ z → va_A (w_Mod cs q M) s.heap.size z := fun z h => Or.inr h
  exact t_X4_undo hC q M Q hA hw s.heap [] hP hD va_S.rf ls hl
set_option maxHeartbeats 4000000 in
set_option maxRecDepth 100000 in
theorem t_X4_settles_20 {p : Program} {l : Launch} {e : Env} {s : State} {m : MethodId} {args : Array Value} {below : List Frame} {meth : Method} {c : Code} {D : va_G} {cs : Nat → ClassId} {A : Nat → Prop} (hC : MAt p s m args meth c RX4 cX4_settles 6 (some .int) wsX4_settles D cs) (q : Nat → Nat) (M : MS) (x2 : Int32) (x3 : Int32) (Q : Int32 → MS → Prop) (E53 : Int32 → Prop) (hA : ∀ q : Nat, s.heap.size ≤ q → A q) (hE53 : ∀ (x4 : Int32) , E53 x4 → ∀ (H : Heap) (locs : List Loc), va_P D vwCl (w_Mod cs q M) H → va_D A (w_Mod cs q M) → va_S A s.heap H locs → ∀ ls : Array Slot, lv_has ls 6 [(0, .ref (q 0)), (1, .ref (q 3)), (2, .int x2), (3, .int x3), (4, .int x4)] → W p l e ({ frames := 2, cells := 0, slots := 0, locals := 45 } : Room) s m args below meth c H locs 0 0 (MQ below (va_Qi (fun r (u : MS) => Q r u) (fun (u : MS) t => va_P D vwCl (w_Mod cs q u) t.heap ∧ va_D A (w_Mod cs q u)) A) args s 0 0 A) (F0 m 53 ls [])) : ∀ (n : Nat) (x4 : Int32) (x5 : Int32), wl_X4_settles_20 M x2 x3 Q E53 n x4 x5 → ∀ (H : Heap) (locs : List Loc), va_P D vwCl (w_Mod cs q M) H → va_D A (w_Mod cs q M) → va_S A s.heap H locs → ∀ ls : Array Slot, lv_has ls 6 [(0, .ref (q 0)), (1, .ref (q 3)), (2, .int x2), (3, .int x3), (4, .int x4), (5, .int x5)] → W p l e ({ frames := 2, cells := 0, slots := 0, locals := 45 } : Room) s m args below meth c H locs 0 0 (MQ below (va_Qi (fun r (u : MS) => Q r u) (fun (u : MS) t => va_P D vwCl (w_Mod cs q u) t.heap ∧ va_D A (w_Mod cs q u)) A) args s 0 0 A) (F0 m 20 ls []) := by
  obtain ⟨hx, hb, hr, hml, hown, hts, hlocks, hKK⟩ := id hC
  have hK := hKK.1
  intro n
  induction n with
  | zero =>
    intro x4 x5 hw
    exact False.elim hw
  | succ n ih =>
    intro x4 x5 hw H locs hP hD hS ls hl
    refine lv_iload hx hb dX4_settles_20 (lv_at hl 5 rfl) ?_
    refine lv_iload_n hx hb dX4_settles_22 rfl (lv_at hl 2 rfl) ?_
    refine lv_icmp_gt (tgt := 53) hx hb dX4_settles_23 (by decide) (fun c3 => ?_) (fun c3 => ?_)
    · have hw := hw.1 c3
      exact hE53 _ hw _ _ hP hD hS ls (lv_sub hl [0, 1, 2, 3, 4] rfl)
    · have hw := hw.2 c3
      refine lv_iload hx hb dX4_settles_26 (lv_at hl 4 rfl) ?_
      refine lv_if_ne (tgt := 40) hx hb dX4_settles_28 (by decide) (fun c4 => ?_) (fun c4 => ?_)
      · have hw := hw.2 c4
        refine lv_iconst (v := (1 : Int32)) hx hb dX4_settles_40 (by decide) ?_
        refine lv_goto (tgt := 45) hx hb dX4_settles_41 (by decide) ?_
        refine lv_istore (lv' := [(4, .int (1 : Int32)), (0, .ref (q 0)), (1, .ref (q 3)), (2, .int x2), (3, .int x3), (5, .int x5)]) hx hb dX4_settles_45 hl (by decide) rfl (fun ls hl => ?_)
        refine lv_iinc (v := x5 + 1) (lv' := [(5, .int (x5 + 1)), (4, .int (1 : Int32)), (0, .ref (q 0)), (1, .ref (q 3)), (2, .int x2), (3, .int x3)]) hx hb dX4_settles_47 hl (k := 5) rfl rfl (by decide) rfl (fun ls hl => ?_)
        refine lv_goto (tgt := 20) hx hb dX4_settles_50 (by decide) ?_
        exact ih _ _ hw H locs hP hD hS ls (lv_sub hl [2, 3, 4, 5, 1, 0] rfl)
      · have hw := hw.1 c4
        refine lv_aload_n hx hb dX4_settles_31 rfl (lv_at hl 1 rfl) ?_
        refine lv_iload hx hb dX4_settles_32 (lv_at hl 5 rfl) ?_
        have hPc := hP.sub (ws' := w_Row cs (q 3) 336 (M 3)) [3] rfl
        have hDc := hD.sub (ws' := w_Row cs (q 3) 336 (M 3)) [3] (by decide) rfl
        refine z_calli (va_runS (As := [.ref (q 3), .int x5]) (rest := []) ⟨hx, hb, hml, hown, hts⟩ (c_X4_waitsOn l D cs (q 3) H.size (M 3) x5 _ hw) (va_cwS 2 hts gX4_settles_X4_waitsOn rfl rfl rfl (by decide +kernel) ⟨Nat.le_of_ble_eq_true rfl, Nat.le_of_ble_eq_true rfl⟩) (PC_S hPc hDc hKK) rfl rfl hl.1 rfl (lv_room (Nat.le_of_ble_eq_true rfl)) dX4_settles_34 ⟨Nat.le_of_ble_eq_true rfl, Nat.le_of_ble_eq_true rfl⟩) (fun r5 hw => ?_)
        refine lv_if_le (tgt := 44) hx hb dX4_settles_37 (by decide) (fun c6 => ?_) (fun c6 => ?_)
        · have hw := hw.1 c6
          refine lv_iconst (v := (0 : Int32)) hx hb dX4_settles_44 (by decide) ?_
          refine lv_istore (lv' := [(4, .int (0 : Int32)), (0, .ref (q 0)), (1, .ref (q 3)), (2, .int x2), (3, .int x3), (5, .int x5)]) hx hb dX4_settles_45 hl (by decide) rfl (fun ls hl => ?_)
          refine lv_iinc (v := x5 + 1) (lv' := [(5, .int (x5 + 1)), (4, .int (0 : Int32)), (0, .ref (q 0)), (1, .ref (q 3)), (2, .int x2), (3, .int x3)]) hx hb dX4_settles_47 hl (k := 5) rfl rfl (by decide) rfl (fun ls hl => ?_)
          refine lv_goto (tgt := 20) hx hb dX4_settles_50 (by decide) ?_
          exact ih _ _ hw H locs hP hD hS ls (lv_sub hl [2, 3, 4, 5, 1, 0] rfl)
        · have hw := hw.2 c6
          refine lv_iconst (v := (1 : Int32)) hx hb dX4_settles_40 (by decide) ?_
          refine lv_goto (tgt := 45) hx hb dX4_settles_41 (by decide) ?_
          refine lv_istore (lv' := [(4, .int (1 : Int32)), (0, .ref (q 0)), (1, .ref (q 3)), (2, .int x2), (3, .int x3), (5, .int x5)]) hx hb dX4_settles_45 hl (by decide) rfl (fun ls hl => ?_)
          refine lv_iinc (v := x5 + 1) (lv' := [(5, .int (x5 + 1)), (4, .int (1 : Int32)), (0, .ref (q 0)), (1, .ref (q 3)), (2, .int x2), (3, .int x3)]) hx hb dX4_settles_47 hl (k := 5) rfl rfl (by decide) rfl (fun ls hl => ?_)
          refine lv_goto (tgt := 20) hx hb dX4_settles_50 (by decide) ?_
          exact ih _ _ hw H locs hP hD hS ls (lv_sub hl [2, 3, 4, 5, 1, 0] rfl)
set_option maxHeartbeats 4000000 in
set_option maxRecDepth 100000 in
theorem t_X4_settles_5 {p : Program} {l : Launch} {e : Env} {s : State} {m : MethodId} {args : Array Value} {below : List Frame} {meth : Method} {c : Code} {D : va_G} {cs : Nat → ClassId} {A : Nat → Prop} (hC : MAt p s m args meth c RX4 cX4_settles 6 (some .int) wsX4_settles D cs) (q : Nat → Nat) (x2 : Int32) (Q : Int32 → MS → Prop) (hA : ∀ q : Nat, s.heap.size ≤ q → A q) : ∀ (n : Nat) (M : MS) (x3 : Int32) (x4 : Int32), wl_X4_settles_5 x2 Q n M x3 x4 → ∀ (H : Heap) (locs : List Loc), va_P D vwCl (w_Mod cs q M) H → va_D A (w_Mod cs q M) → va_S A s.heap H locs → ∀ ls : Array Slot, lv_has ls 6 [(0, .ref (q 0)), (1, .ref (q 3)), (2, .int x2), (3, .int x3), (4, .int x4)] → W p l e ({ frames := 2, cells := 0, slots := 0, locals := 45 } : Room) s m args below meth c H locs 0 0 (MQ below (va_Qi (fun r (u : MS) => Q r u) (fun (u : MS) t => va_P D vwCl (w_Mod cs q u) t.heap ∧ va_D A (w_Mod cs q u)) A) args s 0 0 A) (F0 m 5 ls []) := by
  obtain ⟨hx, hb, hr, hml, hown, hts, hlocks, hKK⟩ := id hC
  have hK := hKK.1
  intro n
  induction n with
  | zero =>
    intro M x3 x4 hw
    exact False.elim hw
  | succ n ih =>
    intro M x3 x4 hw H locs hP hD hS ls hl
    refine lv_iload hx hb dX4_settles_5 (lv_at hl 4 rfl) ?_
    refine lv_if_eq (tgt := 69) hx hb dX4_settles_7 (by decide) (fun c1 => ?_) (fun c1 => ?_)
    · have hw := hw.1 c1
      refine lv_iload_n hx hb dX4_settles_69 rfl (lv_at hl 3 rfl) ?_
      exact W.iret (v := x3) hx hb hr (fun t ht hW => ⟨⟨x3, (M), rfl, hw, by rw [ht]; exact hP, hD⟩, hS.F ht⟩) hS.2.2 dX4_settles_70 hlocks
    · have hw := hw.2 c1
      refine lv_iconst (v := (0 : Int32)) hx hb dX4_settles_10 (by decide) ?_
      refine lv_istore (lv' := [(4, .int (0 : Int32)), (0, .ref (q 0)), (1, .ref (q 3)), (2, .int x2), (3, .int x3)]) hx hb dX4_settles_11 hl (by decide) rfl (fun ls hl => ?_)
      refine lv_aload_n hx hb dX4_settles_13 rfl (lv_at hl 2 rfl) ?_
      refine lv_iload_n hx hb dX4_settles_14 rfl (lv_at hl 3 rfl) ?_
      have hPc := hP.sub (ws' := w_Row cs (q 3) 336 (M 3)) [3] rfl
      have hDc := hD.sub (ws' := w_Row cs (q 3) 336 (M 3)) [3] (by decide) rfl
      refine z_calli (va_runS (As := [.ref (q 3), .int x2]) (rest := []) ⟨hx, hb, hml, hown, hts⟩ (c_X4_firstOfChain l D cs (q 3) H.size (M 3) x2 _ hw) (va_cwS 2 hts gX4_settles_X4_firstOfChain rfl rfl rfl (by decide +kernel) ⟨Nat.le_of_ble_eq_true rfl, Nat.le_of_ble_eq_true rfl⟩) (PC_S hPc hDc hKK) rfl rfl hl.1 rfl (lv_room (Nat.le_of_ble_eq_true rfl)) dX4_settles_15 ⟨Nat.le_of_ble_eq_true rfl, Nat.le_of_ble_eq_true rfl⟩) (fun r2 hw => ?_)
      refine lv_istore (lv' := [(5, .int r2), (4, .int (0 : Int32)), (0, .ref (q 0)), (1, .ref (q 3)), (2, .int x2), (3, .int x3)]) hx hb dX4_settles_18 hl (by decide) rfl (fun ls hl => ?_)
      obtain ⟨n10, hw⟩ := hw
      refine t_X4_settles_20 hC q _ _ _ _ _ hA ?_ n10 _ _ hw H locs hP hD hS ls (lv_sub hl [2, 3, 4, 5, 1, 0] rfl)
      · intro y7 hw H locs hP hD hS ls hl
        refine lv_iload hx hb dX4_settles_53 (lv_at hl 4 rfl) ?_
        refine lv_if_eq (tgt := 5) hx hb dX4_settles_55 (by decide) (fun c8 => ?_) (fun c8 => ?_)
        · have hw := hw.1 c8
          exact ih _ _ _ hw _ _ hP hD hS ls (lv_sub hl [0, 1, 2, 3, 4] rfl)
        · have hw := hw.2 c8
          refine lv_aload_n hx hb dX4_settles_58 rfl (lv_at hl 0 rfl) ?_
          refine lv_aload_n hx hb dX4_settles_59 rfl (lv_at hl 1 rfl) ?_
          have hFc := va_free (wc := w_Mod cs q M) hD hS hA [0, 1, 2, 3, 4, 5, 6, 7, 8] rfl
          refine va_callv (va_runV (As := [.ref (q 3)]) (rest := []) ⟨hx, hb, hml, hown, hts⟩ (c_X4_beat_t l D cs q H.size M _ hw) (cwV 1 hts gX4_settles_X4_beat rfl rfl rfl (by decide +kernel) ⟨Nat.le_of_ble_eq_true rfl, Nat.le_of_ble_eq_true rfl⟩) (PC_V hP hD hKK 0 4 rfl rfl) rfl rfl hl.1 rfl (lv_room (Nat.le_of_ble_eq_true rfl)) dX4_settles_60 ⟨Nat.le_of_ble_eq_true rfl, Nat.le_of_ble_eq_true rfl⟩) hS (fun q _ h => hFc q h) hFc (fun u9 t H locs ht hvm hw hB hz1 hk1 hS => ?_)
          obtain ⟨hP1, hD1⟩ := hB
          rw [ht] at hP1
          have hD : va_D A (w_Mod cs q u9) := hD1.weaken (fun k q _ h => hFc q.1 h)
          have hP : va_P D vwCl (w_Mod cs q u9) H := hP1
          refine lv_iinc (v := x3 + 1) (lv' := [(3, .int (x3 + 1)), (0, .ref (q 0)), (1, .ref (q 3)), (2, .int x2), (4, .int y7)]) hx hb dX4_settles_63 hl (k := 3) rfl rfl (by decide) rfl (fun ls hl => ?_)
          refine lv_goto (tgt := 5) hx hb dX4_settles_66 (by decide) ?_
          exact ih _ _ _ hw _ _ hP hD hS ls (lv_sub hl [1, 2, 3, 0, 4] rfl)
set_option maxHeartbeats 4000000 in
set_option maxRecDepth 100000 in
theorem t_X4_settles {p : Program} {l : Launch} {e : Env} {s : State} {m : MethodId} {args : Array Value} {below : List Frame} {meth : Method} {c : Code} {D : va_G} {cs : Nat → ClassId} {A : Nat → Prop} (hC : MAt p s m args meth c RX4 cX4_settles 6 (some .int) wsX4_settles D cs) (q : Nat → Nat) (M : MS) (x2 : Int32) (Q : Int32 → MS → Prop) (hA : ∀ q : Nat, s.heap.size ≤ q → A q) (hw : wp_X4_settles M x2 Q) (H : Heap) (locs : List Loc) (hP : va_P D vwCl (w_Mod cs q M) H) (hD : va_D A (w_Mod cs q M)) (hS : va_S A s.heap H locs) (ls : Array Slot) (hl : lv_has ls 6 [(0, .ref (q 0)), (1, .ref (q 3)), (2, .int x2)]) : W p l e ({ frames := 2, cells := 0, slots := 0, locals := 45 } : Room) s m args below meth c H locs 0 0 (MQ below (va_Qi (fun r (u : MS) => Q r u) (fun (u : MS) t => va_P D vwCl (w_Mod cs q u) t.heap ∧ va_D A (w_Mod cs q u)) A) args s 0 0 A) (F0 m 0 ls []) := by
  obtain ⟨hx, hb, hr, hml, hown, hts, hlocks, hKK⟩ := id hC
  have hK := hKK.1
  refine lv_iconst (v := (0 : Int32)) hx hb dX4_settles_0 (by decide) ?_
  refine lv_istore_n (lv' := [(3, .int (0 : Int32)), (0, .ref (q 0)), (1, .ref (q 3)), (2, .int x2)]) hx hb dX4_settles_1 rfl hl (by decide) rfl (fun ls hl => ?_)
  refine lv_iconst (v := (1 : Int32)) hx hb dX4_settles_2 (by decide) ?_
  refine lv_istore (lv' := [(4, .int (1 : Int32)), (3, .int (0 : Int32)), (0, .ref (q 0)), (1, .ref (q 3)), (2, .int x2)]) hx hb dX4_settles_3 hl (by decide) rfl (fun ls hl => ?_)
  obtain ⟨n11, hw⟩ := hw
  exact t_X4_settles_5 hC q _ _ hA n11 _ _ _ hw H locs hP hD hS ls (lv_sub hl [2, 3, 4, 1, 0] rfl)
set_option maxHeartbeats 4000000 in
set_option maxRecDepth 100000 in
theorem c_X4_settles (l : Launch) (D : va_G) (cs : Nat → ClassId) (q : Nat → Nat) (sz : Nat) (M : MS) (x2 : Int32) (Q : Int32 → MS → Prop) (hw : wp_X4_settles M x2 Q) : Met l yX4_settles wsX4_settles ({ frames := 2, cells := 0, slots := 0, locals := 45 } : Room) (va_Pc [.ref (q 0), .ref (q 3), .int x2] (PC D cs (w_Mod cs q M) sz)) (va_Qi (fun r (u : MS) => Q r u) (fun (u : MS) t => va_P D vwCl (w_Mod cs q u) t.heap ∧ va_D (va_A (w_Mod cs q M) sz) (w_Mod cs q u)) (va_A (w_Mod cs q M) sz)) 0 0 (va_A (w_Mod cs q M) sz) := by
  refine Met.ofW (cc := cX4_settles) (maxL := 6) (ret := (some .int)) (by decide) rfl ?_
  intro p e s m args below meth c s₁ B hml hv
  obtain ⟨rfl, hsz, hP, hKK, hD0⟩ := hv
  have hC : MAt p s m _ meth c RX4 cX4_settles 6 (some .int) wsX4_settles D cs := ⟨B.exec, B.bytes, B.returns, hml, findClass_of_methodNamed B.named, atoms_spec (ws := wsX4_settles) B.pre, B.notSynchronized, hKK⟩
  have hl := lv_entry ([.ref (q 0), .ref (q 3), .int x2]) (n := 6) (Nat.le_of_ble_eq_true rfl)
  rw [lg_entry_eq]
  generalize (lg_sl ([.ref (q 0), .ref (q 3), .int x2]) ++ List.replicate (6 - (lg_sl ([.ref (q 0), .ref (q 3), .int x2])).length) Slot.unset).toArray = ls at hl ⊢
  subst hsz
  have hD := hD0.self (sz := s.heap.size)
  have hA : ∀ z : Nat, s.heap.size ≤ z → va_A (w_Mod cs q M) s.heap.size z := fun z h => Or.inr h
  exact t_X4_settles hC q M x2 Q hA hw s.heap [] hP hD va_S.rf ls hl

theorem h_X4_X4_append : ∀ w ∈ u_ws RX4 TX4 11, w ∈ wsX4_append := fun _ h => List.mem_cons_of_mem _ (List.mem_append_right _ h)
set_option maxHeartbeats 4000000 in
set_option maxRecDepth 100000 in
theorem t_X4_append {p : Program} {l : Launch} {e : Env} {s : State} {m : MethodId} {args : Array Value} {below : List Frame} {meth : Method} {c : Code} {D : va_G} {cs : Nat → ClassId} {A : Nat → Prop} (hC : MAt p s m args meth c RX4 cX4_append 2 (some .int) wsX4_append D cs) (q : Nat → Nat) (M : MS) (x1 : Int32) (Q : Int32 → MS → Prop) (hA : ∀ q : Nat, s.heap.size ≤ q → A q) (hw : wp_X4_append M x1 Q) (H : Heap) (locs : List Loc) (hP : va_P D vwCl (w_Mod cs q M) H) (hD : va_D A (w_Mod cs q M)) (hS : va_S A s.heap H locs) (ls : Array Slot) (hl : lv_has ls 2 [(0, .ref (q 0)), (1, .int x1)]) : W p l e ({ frames := 1, cells := 0, slots := 0, locals := 25 } : Room) s m args below meth c H locs 0 0 (MQ below (va_Qi (fun r (u : MS) => Q r u) (fun (u : MS) t => va_P D vwCl (w_Mod cs q u) t.heap ∧ va_D A (w_Mod cs q u)) A) args s 0 0 A) (F0 m 0 ls []) := by
  obtain ⟨hx, hb, hr, hml, hown, hts, hlocks, hKK⟩ := id hC
  have hK := hKK.1
  refine lv_aload_n hx hb dX4_append_0 rfl (lv_at hl 0 rfl) ?_
  refine lv_iload_n hx hb dX4_append_1 rfl (lv_at hl 1 rfl) ?_
  refine lv_i2l (v := x1.toInt64) hx hb dX4_append_2 rfl ?_
  refine lv_lconst (v := (0 : Int64)) hx hb dX4_append_3 (by decide) ?_
  refine lv_ldc2 (v := (255 : Int64)) hx hb hown (z_w hts 1 (w := .constantLong RX4 71 (255)) rfl) dX4_append_4 ?_
  have hPc := hP.sub (ws' := ([] : va_W)) [] rfl
  have hDc := hD.sub (ws' := ([] : va_W)) [] (by decide) rfl
  refine z_calli (va_runS (As := [.long x1.toInt64, .long (0 : Int64), .long (255 : Int64)]) (rest := [.ref (q 0)]) ⟨hx, hb, hml, hown, hts⟩ (c_X4_in l D cs  H.size x1.toInt64 (0 : Int64) (255 : Int64) _ hw) (va_cwS 3 hts gX4_append_X4_in rfl rfl rfl (by decide +kernel) ⟨Nat.le_of_ble_eq_true rfl, Nat.le_of_ble_eq_true rfl⟩) (PC_S hPc hDc hKK) rfl rfl hl.1 rfl (lv_room (Nat.le_of_ble_eq_true rfl)) dX4_append_7 ⟨Nat.le_of_ble_eq_true rfl, Nat.le_of_ble_eq_true rfl⟩) (fun r1 hw => ?_)
  obtain ⟨b1, hw⟩ := hw
  refine lv_if_ne (tgt := 17) hx hb dX4_append_10 (by decide) (fun c2 => ?_) (fun c2 => ?_)
  · have hw := hw.2 c2
    refine lv_aload_n hx hb dX4_append_17 rfl (lv_at hl 0 rfl) ?_
    refine va_get (D := D) (ci := 4) (v := .int (M 0 1)) (C := RX4) (T := TX4) (N := 11) hx hb hts (h_X4_X4_append) hown hK hP 0 rfl rfl 2 (by decide) (z_w hts 2 rfl) (fun _ h9 => h9) rfl dX4_append_18 ?_
    refine lv_bipush (v := (100 : Int32)) hx hb dX4_append_21 (by decide) ?_
    refine lv_icmp_ne (tgt := 30) hx hb dX4_append_23 (by decide) (fun c3 => ?_) (fun c3 => ?_)
    · have hw := hw.2 c3
      refine lv_iconst (v := (0 : Int32)) hx hb dX4_append_30 (by decide) ?_
      have hFc := va_free (wc := w_Mod cs q M) hD hS hA [0, 1, 2, 3, 4, 5, 6, 7, 8] rfl
      refine va_calli (va_runV (As := [.int (0 : Int32)]) (rest := []) ⟨hx, hb, hml, hown, hts⟩ (c_X4_refused l D cs q H.size M (0 : Int32) _ hw) (cwV 1 hts gX4_append_X4_refused rfl rfl rfl (by decide +kernel) ⟨Nat.le_of_ble_eq_true rfl, Nat.le_of_ble_eq_true rfl⟩) (PC_V hP hD hKK 0 4 rfl rfl) rfl rfl hl.1 rfl (lv_room (Nat.le_of_ble_eq_true rfl)) dX4_append_31 ⟨Nat.le_of_ble_eq_true rfl, Nat.le_of_ble_eq_true rfl⟩) hS (fun q _ h => hFc q h) hFc (fun r4 u4 t H locs ht hvm hw hB hz1 hk1 hS => ?_)
      obtain ⟨hP1, hD1⟩ := hB
      rw [ht] at hP1
      obtain ⟨b4, hw⟩ := hw
      have hD : va_D A (w_Mod cs q u4) := hD1.weaken (fun k q _ h => hFc q.1 h)
      have hP : va_P D vwCl (w_Mod cs q u4) H := hP1
      refine lv_if_eq (tgt := 39) hx hb dX4_append_34 (by decide) (fun c5 => ?_) (fun c5 => ?_)
      · have hw := hw.1 c5
        refine lv_aload_n hx hb dX4_append_39 rfl (lv_at hl 0 rfl) ?_
        refine va_get (D := D) (ci := 4) (v := .ref (q 1)) (C := RX4) (T := TX4) (N := 11) hx hb hts (h_X4_X4_append) hown hK hP 0 rfl rfl 1 (by decide) (z_w hts 3 rfl) (fun _ h9 => h9) rfl dX4_append_40 ?_
        refine lv_aload_n hx hb dX4_append_43 rfl (lv_at hl 0 rfl) ?_
        refine va_get (D := D) (ci := 4) (v := .int (u4 0 1)) (C := RX4) (T := TX4) (N := 11) hx hb hts (h_X4_X4_append) hown hK hP 0 rfl rfl 2 (by decide) (z_w hts 2 rfl) (fun _ h9 => h9) rfl dX4_append_44 ?_
        refine lv_iload_n hx hb dX4_append_47 rfl (lv_at hl 1 rfl) ?_
        obtain ⟨h6, hw⟩ := hw
        refine va_iast hx hb hK hP hD hS 1 0 rfl rfl h6 dX4_append_48 (fun H locs hP hD hS => ?_)
        have hP : va_P D vwCl (w_Mod cs q (zr2 u4 1 (upd (u4 1) (u4 0 1).toNatClampNeg x1))) H := hP
        have hD : va_D A (w_Mod cs q (zr2 u4 1 (upd (u4 1) (u4 0 1).toNatClampNeg x1))) := hD
        refine lv_aload_n hx hb dX4_append_49 rfl (lv_at hl 0 rfl) ?_
        refine lv_dup hx hb dX4_append_50 rfl ?_
        refine va_get (D := D) (ci := 4) (v := .int (u4 0 1)) (C := RX4) (T := TX4) (N := 11) hx hb hts (h_X4_X4_append) hown hK hP 0 rfl rfl 2 (by decide) (z_w hts 2 rfl) (fun _ h9 => h9) rfl dX4_append_51 ?_
        refine lv_iconst (v := (1 : Int32)) hx hb dX4_append_54 (by decide) ?_
        refine lv_iadd hx hb dX4_append_55 ?_
        refine va_put (D := D) (ci := 4) (v := .int ((u4 0 1) + (1 : Int32))) (ty := .int) (C := RX4) (T := TX4) (N := 11) hx hb hts (h_X4_X4_append) tyX4 tyX4_ok nmX4 hown hK hP hD hS 0 rfl rfl 2 (by decide) (z_w hts 2 rfl) (fun _ h9 => h9) rfl (by decide +kernel) rfl rfl (Nat.le_of_ble_eq_true rfl) dX4_append_56 (fun H locs hP hD hS => ?_)
        have hP : va_P D vwCl (w_Mod cs q (zs2 (zr2 u4 1 (upd (u4 1) (u4 0 1).toNatClampNeg x1)) 0 1 ((u4 0 1) + (1 : Int32)))) H := hP
        have hD : va_D A (w_Mod cs q (zs2 (zr2 u4 1 (upd (u4 1) (u4 0 1).toNatClampNeg x1)) 0 1 ((u4 0 1) + (1 : Int32)))) := hD
        refine lv_aload_n hx hb dX4_append_59 rfl (lv_at hl 0 rfl) ?_
        refine va_get (D := D) (ci := 4) (v := .int ((u4 0 1) + (1 : Int32))) (C := RX4) (T := TX4) (N := 11) hx hb hts (h_X4_X4_append) hown hK hP 0 rfl rfl 2 (by decide) (z_w hts 2 rfl) (fun _ h9 => h9) rfl dX4_append_60 ?_
        exact W.iret (v := (u4 0 1) + (1 : Int32)) hx hb hr (fun t ht hW => ⟨⟨(u4 0 1) + (1 : Int32), (zs2 (zr2 u4 1 (upd (u4 1) (u4 0 1).toNatClampNeg x1)) 0 1 ((u4 0 1) + (1 : Int32))), rfl, hw, by rw [ht]; exact hP, hD⟩, hS.F ht⟩) hS.2.2 dX4_append_63 hlocks
      · have hw := hw.2 c5
        refine lv_iconst (v := (0 : Int32)) hx hb dX4_append_37 (by decide) ?_
        exact W.iret (v := (0 : Int32)) hx hb hr (fun t ht hW => ⟨⟨(0 : Int32), (u4), rfl, hw, by rw [ht]; exact hP, hD⟩, hS.F ht⟩) hS.2.2 dX4_append_38 hlocks
    · have hw := hw.1 c3
      refine lv_iconst (v := (2 : Int32)) hx hb dX4_append_26 (by decide) ?_
      refine lv_goto (tgt := 31) hx hb dX4_append_27 (by decide) ?_
      have hFc := va_free (wc := w_Mod cs q M) hD hS hA [0, 1, 2, 3, 4, 5, 6, 7, 8] rfl
      refine va_calli (va_runV (As := [.int (2 : Int32)]) (rest := []) ⟨hx, hb, hml, hown, hts⟩ (c_X4_refused l D cs q H.size M (2 : Int32) _ hw) (cwV 1 hts gX4_append_X4_refused rfl rfl rfl (by decide +kernel) ⟨Nat.le_of_ble_eq_true rfl, Nat.le_of_ble_eq_true rfl⟩) (PC_V hP hD hKK 0 4 rfl rfl) rfl rfl hl.1 rfl (lv_room (Nat.le_of_ble_eq_true rfl)) dX4_append_31 ⟨Nat.le_of_ble_eq_true rfl, Nat.le_of_ble_eq_true rfl⟩) hS (fun q _ h => hFc q h) hFc (fun r7 u7 t H locs ht hvm hw hB hz1 hk1 hS => ?_)
      obtain ⟨hP1, hD1⟩ := hB
      rw [ht] at hP1
      obtain ⟨b7, hw⟩ := hw
      have hD : va_D A (w_Mod cs q u7) := hD1.weaken (fun k q _ h => hFc q.1 h)
      have hP : va_P D vwCl (w_Mod cs q u7) H := hP1
      refine lv_if_eq (tgt := 39) hx hb dX4_append_34 (by decide) (fun c8 => ?_) (fun c8 => ?_)
      · have hw := hw.1 c8
        refine lv_aload_n hx hb dX4_append_39 rfl (lv_at hl 0 rfl) ?_
        refine va_get (D := D) (ci := 4) (v := .ref (q 1)) (C := RX4) (T := TX4) (N := 11) hx hb hts (h_X4_X4_append) hown hK hP 0 rfl rfl 1 (by decide) (z_w hts 3 rfl) (fun _ h9 => h9) rfl dX4_append_40 ?_
        refine lv_aload_n hx hb dX4_append_43 rfl (lv_at hl 0 rfl) ?_
        refine va_get (D := D) (ci := 4) (v := .int (u7 0 1)) (C := RX4) (T := TX4) (N := 11) hx hb hts (h_X4_X4_append) hown hK hP 0 rfl rfl 2 (by decide) (z_w hts 2 rfl) (fun _ h9 => h9) rfl dX4_append_44 ?_
        refine lv_iload_n hx hb dX4_append_47 rfl (lv_at hl 1 rfl) ?_
        obtain ⟨h9, hw⟩ := hw
        refine va_iast hx hb hK hP hD hS 1 0 rfl rfl h9 dX4_append_48 (fun H locs hP hD hS => ?_)
        have hP : va_P D vwCl (w_Mod cs q (zr2 u7 1 (upd (u7 1) (u7 0 1).toNatClampNeg x1))) H := hP
        have hD : va_D A (w_Mod cs q (zr2 u7 1 (upd (u7 1) (u7 0 1).toNatClampNeg x1))) := hD
        refine lv_aload_n hx hb dX4_append_49 rfl (lv_at hl 0 rfl) ?_
        refine lv_dup hx hb dX4_append_50 rfl ?_
        refine va_get (D := D) (ci := 4) (v := .int (u7 0 1)) (C := RX4) (T := TX4) (N := 11) hx hb hts (h_X4_X4_append) hown hK hP 0 rfl rfl 2 (by decide) (z_w hts 2 rfl) (fun _ h9 => h9) rfl dX4_append_51 ?_
        refine lv_iconst (v := (1 : Int32)) hx hb dX4_append_54 (by decide) ?_
        refine lv_iadd hx hb dX4_append_55 ?_
        refine va_put (D := D) (ci := 4) (v := .int ((u7 0 1) + (1 : Int32))) (ty := .int) (C := RX4) (T := TX4) (N := 11) hx hb hts (h_X4_X4_append) tyX4 tyX4_ok nmX4 hown hK hP hD hS 0 rfl rfl 2 (by decide) (z_w hts 2 rfl) (fun _ h9 => h9) rfl (by decide +kernel) rfl rfl (Nat.le_of_ble_eq_true rfl) dX4_append_56 (fun H locs hP hD hS => ?_)
        have hP : va_P D vwCl (w_Mod cs q (zs2 (zr2 u7 1 (upd (u7 1) (u7 0 1).toNatClampNeg x1)) 0 1 ((u7 0 1) + (1 : Int32)))) H := hP
        have hD : va_D A (w_Mod cs q (zs2 (zr2 u7 1 (upd (u7 1) (u7 0 1).toNatClampNeg x1)) 0 1 ((u7 0 1) + (1 : Int32)))) := hD
        refine lv_aload_n hx hb dX4_append_59 rfl (lv_at hl 0 rfl) ?_
        refine va_get (D := D) (ci := 4) (v := .int ((u7 0 1) + (1 : Int32))) (C := RX4) (T := TX4) (N := 11) hx hb hts (h_X4_X4_append) hown hK hP 0 rfl rfl 2 (by decide) (z_w hts 2 rfl) (fun _ h9 => h9) rfl dX4_append_60 ?_
        exact W.iret (v := (u7 0 1) + (1 : Int32)) hx hb hr (fun t ht hW => ⟨⟨(u7 0 1) + (1 : Int32), (zs2 (zr2 u7 1 (upd (u7 1) (u7 0 1).toNatClampNeg x1)) 0 1 ((u7 0 1) + (1 : Int32))), rfl, hw, by rw [ht]; exact hP, hD⟩, hS.F ht⟩) hS.2.2 dX4_append_63 hlocks
      · have hw := hw.2 c8
        refine lv_iconst (v := (0 : Int32)) hx hb dX4_append_37 (by decide) ?_
        exact W.iret (v := (0 : Int32)) hx hb hr (fun t ht hW => ⟨⟨(0 : Int32), (u7), rfl, hw, by rw [ht]; exact hP, hD⟩, hS.F ht⟩) hS.2.2 dX4_append_38 hlocks
  · have hw := hw.1 c2
    refine lv_iconst (v := (1 : Int32)) hx hb dX4_append_13 (by decide) ?_
    refine lv_goto (tgt := 31) hx hb dX4_append_14 (by decide) ?_
    have hFc := va_free (wc := w_Mod cs q M) hD hS hA [0, 1, 2, 3, 4, 5, 6, 7, 8] rfl
    refine va_calli (va_runV (As := [.int (1 : Int32)]) (rest := []) ⟨hx, hb, hml, hown, hts⟩ (c_X4_refused l D cs q H.size M (1 : Int32) _ hw) (cwV 1 hts gX4_append_X4_refused rfl rfl rfl (by decide +kernel) ⟨Nat.le_of_ble_eq_true rfl, Nat.le_of_ble_eq_true rfl⟩) (PC_V hP hD hKK 0 4 rfl rfl) rfl rfl hl.1 rfl (lv_room (Nat.le_of_ble_eq_true rfl)) dX4_append_31 ⟨Nat.le_of_ble_eq_true rfl, Nat.le_of_ble_eq_true rfl⟩) hS (fun q _ h => hFc q h) hFc (fun r10 u10 t H locs ht hvm hw hB hz1 hk1 hS => ?_)
    obtain ⟨hP1, hD1⟩ := hB
    rw [ht] at hP1
    obtain ⟨b10, hw⟩ := hw
    have hD : va_D A (w_Mod cs q u10) := hD1.weaken (fun k q _ h => hFc q.1 h)
    have hP : va_P D vwCl (w_Mod cs q u10) H := hP1
    refine lv_if_eq (tgt := 39) hx hb dX4_append_34 (by decide) (fun c11 => ?_) (fun c11 => ?_)
    · have hw := hw.1 c11
      refine lv_aload_n hx hb dX4_append_39 rfl (lv_at hl 0 rfl) ?_
      refine va_get (D := D) (ci := 4) (v := .ref (q 1)) (C := RX4) (T := TX4) (N := 11) hx hb hts (h_X4_X4_append) hown hK hP 0 rfl rfl 1 (by decide) (z_w hts 3 rfl) (fun _ h9 => h9) rfl dX4_append_40 ?_
      refine lv_aload_n hx hb dX4_append_43 rfl (lv_at hl 0 rfl) ?_
      refine va_get (D := D) (ci := 4) (v := .int (u10 0 1)) (C := RX4) (T := TX4) (N := 11) hx hb hts (h_X4_X4_append) hown hK hP 0 rfl rfl 2 (by decide) (z_w hts 2 rfl) (fun _ h9 => h9) rfl dX4_append_44 ?_
      refine lv_iload_n hx hb dX4_append_47 rfl (lv_at hl 1 rfl) ?_
      obtain ⟨h12, hw⟩ := hw
      refine va_iast hx hb hK hP hD hS 1 0 rfl rfl h12 dX4_append_48 (fun H locs hP hD hS => ?_)
      have hP : va_P D vwCl (w_Mod cs q (zr2 u10 1 (upd (u10 1) (u10 0 1).toNatClampNeg x1))) H := hP
      have hD : va_D A (w_Mod cs q (zr2 u10 1 (upd (u10 1) (u10 0 1).toNatClampNeg x1))) := hD
      refine lv_aload_n hx hb dX4_append_49 rfl (lv_at hl 0 rfl) ?_
      refine lv_dup hx hb dX4_append_50 rfl ?_
      refine va_get (D := D) (ci := 4) (v := .int (u10 0 1)) (C := RX4) (T := TX4) (N := 11) hx hb hts (h_X4_X4_append) hown hK hP 0 rfl rfl 2 (by decide) (z_w hts 2 rfl) (fun _ h9 => h9) rfl dX4_append_51 ?_
      refine lv_iconst (v := (1 : Int32)) hx hb dX4_append_54 (by decide) ?_
      refine lv_iadd hx hb dX4_append_55 ?_
      refine va_put (D := D) (ci := 4) (v := .int ((u10 0 1) + (1 : Int32))) (ty := .int) (C := RX4) (T := TX4) (N := 11) hx hb hts (h_X4_X4_append) tyX4 tyX4_ok nmX4 hown hK hP hD hS 0 rfl rfl 2 (by decide) (z_w hts 2 rfl) (fun _ h9 => h9) rfl (by decide +kernel) rfl rfl (Nat.le_of_ble_eq_true rfl) dX4_append_56 (fun H locs hP hD hS => ?_)
      have hP : va_P D vwCl (w_Mod cs q (zs2 (zr2 u10 1 (upd (u10 1) (u10 0 1).toNatClampNeg x1)) 0 1 ((u10 0 1) + (1 : Int32)))) H := hP
      have hD : va_D A (w_Mod cs q (zs2 (zr2 u10 1 (upd (u10 1) (u10 0 1).toNatClampNeg x1)) 0 1 ((u10 0 1) + (1 : Int32)))) := hD
      refine lv_aload_n hx hb dX4_append_59 rfl (lv_at hl 0 rfl) ?_
      refine va_get (D := D) (ci := 4) (v := .int ((u10 0 1) + (1 : Int32))) (C := RX4) (T := TX4) (N := 11) hx hb hts (h_X4_X4_append) hown hK hP 0 rfl rfl 2 (by decide) (z_w hts 2 rfl) (fun _ h9 => h9) rfl dX4_append_60 ?_
      exact W.iret (v := (u10 0 1) + (1 : Int32)) hx hb hr (fun t ht hW => ⟨⟨(u10 0 1) + (1 : Int32), (zs2 (zr2 u10 1 (upd (u10 1) (u10 0 1).toNatClampNeg x1)) 0 1 ((u10 0 1) + (1 : Int32))), rfl, hw, by rw [ht]; exact hP, hD⟩, hS.F ht⟩) hS.2.2 dX4_append_63 hlocks
    · have hw := hw.2 c11
      refine lv_iconst (v := (0 : Int32)) hx hb dX4_append_37 (by decide) ?_
      exact W.iret (v := (0 : Int32)) hx hb hr (fun t ht hW => ⟨⟨(0 : Int32), (u10), rfl, hw, by rw [ht]; exact hP, hD⟩, hS.F ht⟩) hS.2.2 dX4_append_38 hlocks
set_option maxHeartbeats 4000000 in
set_option maxRecDepth 100000 in
theorem c_X4_append (l : Launch) (D : va_G) (cs : Nat → ClassId) (q : Nat → Nat) (sz : Nat) (M : MS) (x1 : Int32) (Q : Int32 → MS → Prop) (hw : wp_X4_append M x1 Q) : Met l yX4_append wsX4_append ({ frames := 1, cells := 0, slots := 0, locals := 25 } : Room) (va_Pc [.ref (q 0), .int x1] (PC D cs (w_Mod cs q M) sz)) (va_Qi (fun r (u : MS) => Q r u) (fun (u : MS) t => va_P D vwCl (w_Mod cs q u) t.heap ∧ va_D (va_A (w_Mod cs q M) sz) (w_Mod cs q u)) (va_A (w_Mod cs q M) sz)) 0 0 (va_A (w_Mod cs q M) sz) := by
  refine Met.ofW (cc := cX4_append) (maxL := 2) (ret := (some .int)) (by decide) rfl ?_
  intro p e s m args below meth c s₁ B hml hv
  obtain ⟨rfl, hsz, hP, hKK, hD0⟩ := hv
  have hC : MAt p s m _ meth c RX4 cX4_append 2 (some .int) wsX4_append D cs := ⟨B.exec, B.bytes, B.returns, hml, findClass_of_methodNamed B.named, atoms_spec (ws := wsX4_append) B.pre, B.notSynchronized, hKK⟩
  have hl := lv_entry ([.ref (q 0), .int x1]) (n := 2) (Nat.le_of_ble_eq_true rfl)
  rw [lg_entry_eq]
  generalize (lg_sl ([.ref (q 0), .int x1]) ++ List.replicate (2 - (lg_sl ([.ref (q 0), .int x1])).length) Slot.unset).toArray = ls at hl ⊢
  subst hsz
  have hD := hD0.self (sz := s.heap.size)
  have hA : ∀ z : Nat, s.heap.size ≤ z → va_A (w_Mod cs q M) s.heap.size z := fun z h => Or.inr h
  exact t_X4_append hC q M x1 Q hA hw s.heap [] hP hD va_S.rf ls hl
theorem h_X4_X4_clearText : ∀ w ∈ u_ws RX4 TX4 11, w ∈ wsX4_clearText := fun _ h => List.mem_cons_of_mem _ (List.mem_append_right _ h)
set_option maxHeartbeats 4000000 in
set_option maxRecDepth 100000 in
theorem t_X4_clearText {p : Program} {l : Launch} {e : Env} {s : State} {m : MethodId} {args : Array Value} {below : List Frame} {meth : Method} {c : Code} {D : va_G} {cs : Nat → ClassId} {A : Nat → Prop} (hC : MAt p s m args meth c RX4 cX4_clearText 2 (some .int) wsX4_clearText D cs) (q : Nat → Nat) (M : MS) (Q : Int32 → MS → Prop) (hA : ∀ q : Nat, s.heap.size ≤ q → A q) (hw : wp_X4_clearText M Q) (H : Heap) (locs : List Loc) (hP : va_P D vwCl (w_Mod cs q M) H) (hD : va_D A (w_Mod cs q M)) (hS : va_S A s.heap H locs) (ls : Array Slot) (hl : lv_has ls 2 [(0, .ref (q 0))]) : W p l e ({ frames := 0, cells := 0, slots := 0, locals := 0 } : Room) s m args below meth c H locs 0 0 (MQ below (va_Qi (fun r (u : MS) => Q r u) (fun (u : MS) t => va_P D vwCl (w_Mod cs q u) t.heap ∧ va_D A (w_Mod cs q u)) A) args s 0 0 A) (F0 m 0 ls []) := by
  obtain ⟨hx, hb, hr, hml, hown, hts, hlocks, hKK⟩ := id hC
  have hK := hKK.1
  refine lv_aload_n hx hb dX4_clearText_0 rfl (lv_at hl 0 rfl) ?_
  refine va_get (D := D) (ci := 4) (v := .int (M 0 1)) (C := RX4) (T := TX4) (N := 11) hx hb hts (h_X4_X4_clearText) hown hK hP 0 rfl rfl 2 (by decide) (z_w hts 1 rfl) (fun _ h9 => h9) rfl dX4_clearText_1 ?_
  refine lv_istore_n (lv' := [(1, .int (M 0 1)), (0, .ref (q 0))]) hx hb dX4_clearText_4 rfl hl (by decide) rfl (fun ls hl => ?_)
  refine lv_aload_n hx hb dX4_clearText_5 rfl (lv_at hl 1 rfl) ?_
  refine lv_iconst (v := (0 : Int32)) hx hb dX4_clearText_6 (by decide) ?_
  refine va_put (D := D) (ci := 4) (v := .int (0 : Int32)) (ty := .int) (C := RX4) (T := TX4) (N := 11) hx hb hts (h_X4_X4_clearText) tyX4 tyX4_ok nmX4 hown hK hP hD hS 0 rfl rfl 2 (by decide) (z_w hts 1 rfl) (fun _ h9 => h9) rfl (by decide +kernel) rfl rfl (Nat.le_of_ble_eq_true rfl) dX4_clearText_7 (fun H locs hP hD hS => ?_)
  have hP : va_P D vwCl (w_Mod cs q (zs2 M 0 1 (0 : Int32))) H := hP
  have hD : va_D A (w_Mod cs q (zs2 M 0 1 (0 : Int32))) := hD
  refine lv_iload_n hx hb dX4_clearText_10 rfl (lv_at hl 0 rfl) ?_
  exact W.iret (v := M 0 1) hx hb hr (fun t ht hW => ⟨⟨M 0 1, (zs2 M 0 1 (0 : Int32)), rfl, hw, by rw [ht]; exact hP, hD⟩, hS.F ht⟩) hS.2.2 dX4_clearText_11 hlocks
set_option maxHeartbeats 4000000 in
set_option maxRecDepth 100000 in
theorem c_X4_clearText (l : Launch) (D : va_G) (cs : Nat → ClassId) (q : Nat → Nat) (sz : Nat) (M : MS) (Q : Int32 → MS → Prop) (hw : wp_X4_clearText M Q) : Met l yX4_clearText wsX4_clearText ({ frames := 0, cells := 0, slots := 0, locals := 0 } : Room) (va_Pc [.ref (q 0)] (PC D cs (w_Mod cs q M) sz)) (va_Qi (fun r (u : MS) => Q r u) (fun (u : MS) t => va_P D vwCl (w_Mod cs q u) t.heap ∧ va_D (va_A (w_Mod cs q M) sz) (w_Mod cs q u)) (va_A (w_Mod cs q M) sz)) 0 0 (va_A (w_Mod cs q M) sz) := by
  refine Met.ofW (cc := cX4_clearText) (maxL := 2) (ret := (some .int)) (by decide) rfl ?_
  intro p e s m args below meth c s₁ B hml hv
  obtain ⟨rfl, hsz, hP, hKK, hD0⟩ := hv
  have hC : MAt p s m _ meth c RX4 cX4_clearText 2 (some .int) wsX4_clearText D cs := ⟨B.exec, B.bytes, B.returns, hml, findClass_of_methodNamed B.named, atoms_spec (ws := wsX4_clearText) B.pre, B.notSynchronized, hKK⟩
  have hl := lv_entry ([.ref (q 0)]) (n := 2) (Nat.le_of_ble_eq_true rfl)
  rw [lg_entry_eq]
  generalize (lg_sl ([.ref (q 0)]) ++ List.replicate (2 - (lg_sl ([.ref (q 0)])).length) Slot.unset).toArray = ls at hl ⊢
  subst hsz
  have hD := hD0.self (sz := s.heap.size)
  have hA : ∀ z : Nat, s.heap.size ≤ z → va_A (w_Mod cs q M) s.heap.size z := fun z h => Or.inr h
  exact t_X4_clearText hC q M Q hA hw s.heap [] hP hD va_S.rf ls hl
theorem h_X4_X4_wrong : ∀ w ∈ u_ws RX4 TX4 11, w ∈ wsX4_wrong := fun _ h => List.mem_cons_of_mem _ (List.mem_append_right _ h)
set_option maxHeartbeats 4000000 in
set_option maxRecDepth 100000 in
theorem t_X4_wrong_187 {p : Program} {l : Launch} {e : Env} {s : State} {m : MethodId} {args : Array Value} {below : List Frame} {meth : Method} {c : Code} {D : va_G} {cs : Nat → ClassId} {A : Nat → Prop} (hC : MAt p s m args meth c RX4 cX4_wrong 9 (some .int) wsX4_wrong D cs) (q : Nat → Nat) (M : MS) (x1 : Int32) (x2 : Int32) (x3 : Int32) (x4 : Int32) (x7 : Int32) (Q : Int32 → Prop) (E9 : Int32 → Int32 → Int32 → Int32 → Prop) (hE9 : ∀ (x1 : Int32) (x2 : Int32) (x3 : Int32) (x4 : Int32) , E9 x1 x2 x3 x4 → ∀ ls : Array Slot, lv_has ls 9 [(0, .ref (q 0)), (1, .int x1), (2, .int x2), (3, .int x3), (4, .int x4)] → W p l e ({ frames := 1, cells := 0, slots := 0, locals := 25 } : Room) s m args below meth c s.heap [] 0 0 (MQ below (vp_Si Q) args s 0 0 (fun _ => False)) (F0 m 9 ls [])) (hw : wj_X4_wrong_187 M x1 x2 x3 x4 x7 Q E9) (hP : va_P D vwCl (w_Mod cs q M) s.heap) (hD : va_D A (w_Mod cs q M)) (ls : Array Slot) (hl : lv_has ls 9 [(0, .ref (q 0)), (1, .int x1), (2, .int x2), (3, .int x3), (4, .int x4), (7, .int x7)]) : W p l e ({ frames := 1, cells := 0, slots := 0, locals := 25 } : Room) s m args below meth c s.heap [] 0 0 (MQ below (vp_Si Q) args s 0 0 (fun _ => False)) (F0 m 187 ls []) := by
  obtain ⟨hx, hb, hr, hml, hown, hts, hlocks, hKK⟩ := id hC
  have hK := hKK.1
  refine lv_iload hx hb dX4_wrong_187 (lv_at hl 5 rfl) ?_
  refine lv_if_eq (tgt := 198) hx hb dX4_wrong_189 (by decide) (fun c14 => ?_) (fun c14 => ?_)
  · have hw := hw.1 c14
    refine lv_iconst (v := (0 : Int32)) hx hb dX4_wrong_198 (by decide) ?_
    refine lv_istore_n (lv' := [(3, .int (0 : Int32)), (0, .ref (q 0)), (1, .int x1), (2, .int x2), (4, .int x4), (7, .int x7)]) hx hb dX4_wrong_199 rfl hl (by decide) rfl (fun ls hl => ?_)
    refine lv_iinc (v := x4 + 1) (lv' := [(4, .int (x4 + 1)), (3, .int (0 : Int32)), (0, .ref (q 0)), (1, .int x1), (2, .int x2), (7, .int x7)]) hx hb dX4_wrong_200 hl (k := 4) rfl rfl (by decide) rfl (fun ls hl => ?_)
    refine lv_goto (tgt := 9) hx hb dX4_wrong_203 (by decide) ?_
    exact hE9 _ _ _ _ hw ls (lv_sub hl [2, 3, 4, 1, 0] rfl)
  · have hw := hw.2 c14
    refine lv_iload_n hx hb dX4_wrong_192 rfl (lv_at hl 3 rfl) ?_
    refine lv_iconst (v := (1 : Int32)) hx hb dX4_wrong_193 (by decide) ?_
    refine lv_iadd hx hb dX4_wrong_194 ?_
    refine lv_goto (tgt := 199) hx hb dX4_wrong_195 (by decide) ?_
    refine lv_istore_n (lv' := [(3, .int (x3 + (1 : Int32))), (0, .ref (q 0)), (1, .int x1), (2, .int x2), (4, .int x4), (7, .int x7)]) hx hb dX4_wrong_199 rfl hl (by decide) rfl (fun ls hl => ?_)
    refine lv_iinc (v := x4 + 1) (lv' := [(4, .int (x4 + 1)), (3, .int (x3 + (1 : Int32))), (0, .ref (q 0)), (1, .int x1), (2, .int x2), (7, .int x7)]) hx hb dX4_wrong_200 hl (k := 4) rfl rfl (by decide) rfl (fun ls hl => ?_)
    refine lv_goto (tgt := 9) hx hb dX4_wrong_203 (by decide) ?_
    exact hE9 _ _ _ _ hw ls (lv_sub hl [2, 3, 4, 1, 0] rfl)
set_option maxHeartbeats 4000000 in
set_option maxRecDepth 100000 in
theorem t_X4_wrong_165 {p : Program} {l : Launch} {e : Env} {s : State} {m : MethodId} {args : Array Value} {below : List Frame} {meth : Method} {c : Code} {D : va_G} {cs : Nat → ClassId} {A : Nat → Prop} (hC : MAt p s m args meth c RX4 cX4_wrong 9 (some .int) wsX4_wrong D cs) (q : Nat → Nat) (M : MS) (x1 : Int32) (x2 : Int32) (x3 : Int32) (x4 : Int32) (x6 : Int32) (x7 : Int32) (x8 : Int32) (Q : Int32 → Prop) (E9 : Int32 → Int32 → Int32 → Int32 → Prop) (hE9 : ∀ (x1 : Int32) (x2 : Int32) (x3 : Int32) (x4 : Int32) , E9 x1 x2 x3 x4 → ∀ ls : Array Slot, lv_has ls 9 [(0, .ref (q 0)), (1, .int x1), (2, .int x2), (3, .int x3), (4, .int x4)] → W p l e ({ frames := 1, cells := 0, slots := 0, locals := 25 } : Room) s m args below meth c s.heap [] 0 0 (MQ below (vp_Si Q) args s 0 0 (fun _ => False)) (F0 m 9 ls [])) (hw : wj_X4_wrong_165 M x1 x2 x3 x4 x6 x7 x8 Q E9) (hP : va_P D vwCl (w_Mod cs q M) s.heap) (hD : va_D A (w_Mod cs q M)) (ls : Array Slot) (hl : lv_has ls 9 [(0, .ref (q 0)), (1, .int x1), (2, .int x2), (3, .int x3), (4, .int x4), (6, .int x6), (7, .int x7), (8, .int x8)]) : W p l e ({ frames := 1, cells := 0, slots := 0, locals := 25 } : Room) s m args below meth c s.heap [] 0 0 (MQ below (vp_Si Q) args s 0 0 (fun _ => False)) (F0 m 165 ls []) := by
  obtain ⟨hx, hb, hr, hml, hown, hts, hlocks, hKK⟩ := id hC
  have hK := hKK.1
  refine lv_iload hx hb dX4_wrong_165 (lv_at hl 7 rfl) ?_
  refine lv_if_eq (tgt := 174) hx hb dX4_wrong_167 (by decide) (fun c12 => ?_) (fun c12 => ?_)
  · have hw := hw.1 c12
    refine lv_iload hx hb dX4_wrong_174 (lv_at hl 5 rfl) ?_
    refine lv_if_eq (tgt := 185) hx hb dX4_wrong_176 (by decide) (fun c13 => ?_) (fun c13 => ?_)
    · have hw := hw.1 c13
      refine lv_iload_n hx hb dX4_wrong_185 rfl (lv_at hl 2 rfl) ?_
      refine lv_istore_n (lv' := [(2, .int x2), (0, .ref (q 0)), (1, .int x1), (3, .int x3), (4, .int x4), (6, .int x6), (7, .int x7), (8, .int x8)]) hx hb dX4_wrong_186 rfl hl (by decide) rfl (fun ls hl => ?_)
      refine t_X4_wrong_187 hC q _ _ _ _ _ _ _ _  ?_ hw hP hD ls (lv_sub hl [1, 2, 0, 3, 4, 6] rfl)
      · intro y15 y16 y17 y18 hw ls hl
        exact hE9 _ _ _ _ hw ls (lv_sub hl [0, 1, 2, 3, 4] rfl)
    · have hw := hw.2 c13
      refine lv_iload_n hx hb dX4_wrong_179 rfl (lv_at hl 2 rfl) ?_
      refine lv_iconst (v := (1 : Int32)) hx hb dX4_wrong_180 (by decide) ?_
      refine lv_iadd hx hb dX4_wrong_181 ?_
      refine lv_goto (tgt := 186) hx hb dX4_wrong_182 (by decide) ?_
      refine lv_istore_n (lv' := [(2, .int (x2 + (1 : Int32))), (0, .ref (q 0)), (1, .int x1), (3, .int x3), (4, .int x4), (6, .int x6), (7, .int x7), (8, .int x8)]) hx hb dX4_wrong_186 rfl hl (by decide) rfl (fun ls hl => ?_)
      refine t_X4_wrong_187 hC q _ _ _ _ _ _ _ _  ?_ hw hP hD ls (lv_sub hl [1, 2, 0, 3, 4, 6] rfl)
      · intro y19 y20 y21 y22 hw ls hl
        exact hE9 _ _ _ _ hw ls (lv_sub hl [0, 1, 2, 3, 4] rfl)
  · have hw := hw.2 c12
    refine lv_iconst (v := (0 : Int32)) hx hb dX4_wrong_170 (by decide) ?_
    refine lv_goto (tgt := 186) hx hb dX4_wrong_171 (by decide) ?_
    refine lv_istore_n (lv' := [(2, .int (0 : Int32)), (0, .ref (q 0)), (1, .int x1), (3, .int x3), (4, .int x4), (6, .int x6), (7, .int x7), (8, .int x8)]) hx hb dX4_wrong_186 rfl hl (by decide) rfl (fun ls hl => ?_)
    refine t_X4_wrong_187 hC q _ _ _ _ _ _ _ _  ?_ hw hP hD ls (lv_sub hl [1, 2, 0, 3, 4, 6] rfl)
    · intro y23 y24 y25 y26 hw ls hl
      exact hE9 _ _ _ _ hw ls (lv_sub hl [0, 1, 2, 3, 4] rfl)
set_option maxHeartbeats 4000000 in
set_option maxRecDepth 100000 in
theorem t_X4_wrong_152 {p : Program} {l : Launch} {e : Env} {s : State} {m : MethodId} {args : Array Value} {below : List Frame} {meth : Method} {c : Code} {D : va_G} {cs : Nat → ClassId} {A : Nat → Prop} (hC : MAt p s m args meth c RX4 cX4_wrong 9 (some .int) wsX4_wrong D cs) (q : Nat → Nat) (M : MS) (x1 : Int32) (x2 : Int32) (x3 : Int32) (x4 : Int32) (x6 : Int32) (x7 : Int32) (x8 : Int32) (Q : Int32 → Prop) (E9 : Int32 → Int32 → Int32 → Int32 → Prop) (hE9 : ∀ (x1 : Int32) (x2 : Int32) (x3 : Int32) (x4 : Int32) , E9 x1 x2 x3 x4 → ∀ ls : Array Slot, lv_has ls 9 [(0, .ref (q 0)), (1, .int x1), (2, .int x2), (3, .int x3), (4, .int x4)] → W p l e ({ frames := 1, cells := 0, slots := 0, locals := 25 } : Room) s m args below meth c s.heap [] 0 0 (MQ below (vp_Si Q) args s 0 0 (fun _ => False)) (F0 m 9 ls [])) (hw : wj_X4_wrong_152 M x1 x2 x3 x4 x6 x7 x8 Q E9) (hP : va_P D vwCl (w_Mod cs q M) s.heap) (hD : va_D A (w_Mod cs q M)) (ls : Array Slot) (hl : lv_has ls 9 [(0, .ref (q 0)), (1, .int x1), (2, .int x2), (3, .int x3), (4, .int x4), (6, .int x6), (7, .int x7), (8, .int x8)]) : W p l e ({ frames := 1, cells := 0, slots := 0, locals := 25 } : Room) s m args below meth c s.heap [] 0 0 (MQ below (vp_Si Q) args s 0 0 (fun _ => False)) (F0 m 152 ls []) := by
  obtain ⟨hx, hb, hr, hml, hown, hts, hlocks, hKK⟩ := id hC
  have hK := hKK.1
  refine lv_iload_n hx hb dX4_wrong_152 rfl (lv_at hl 1 rfl) ?_
  refine lv_iload hx hb dX4_wrong_153 (lv_at hl 7 rfl) ?_
  refine lv_if_eq (tgt := 162) hx hb dX4_wrong_155 (by decide) (fun c11 => ?_) (fun c11 => ?_)
  · have hw := hw.1 c11
    refine lv_iconst (v := (0 : Int32)) hx hb dX4_wrong_162 (by decide) ?_
    refine lv_iadd hx hb dX4_wrong_163 ?_
    refine lv_istore_n (lv' := [(1, .int (x1 + (0 : Int32))), (0, .ref (q 0)), (2, .int x2), (3, .int x3), (4, .int x4), (6, .int x6), (7, .int x7), (8, .int x8)]) hx hb dX4_wrong_164 rfl hl (by decide) rfl (fun ls hl => ?_)
    refine t_X4_wrong_165 hC q _ _ _ _ _ _ _ _ _ _  ?_ hw hP hD ls (lv_sub hl [1, 0, 2, 3, 4, 5, 6, 7] rfl)
    · intro y27 y28 y29 y30 hw ls hl
      exact hE9 _ _ _ _ hw ls (lv_sub hl [0, 1, 2, 3, 4] rfl)
  · have hw := hw.2 c11
    refine lv_iconst (v := (1 : Int32)) hx hb dX4_wrong_158 (by decide) ?_
    refine lv_goto (tgt := 163) hx hb dX4_wrong_159 (by decide) ?_
    refine lv_iadd hx hb dX4_wrong_163 ?_
    refine lv_istore_n (lv' := [(1, .int (x1 + (1 : Int32))), (0, .ref (q 0)), (2, .int x2), (3, .int x3), (4, .int x4), (6, .int x6), (7, .int x7), (8, .int x8)]) hx hb dX4_wrong_164 rfl hl (by decide) rfl (fun ls hl => ?_)
    refine t_X4_wrong_165 hC q _ _ _ _ _ _ _ _ _ _  ?_ hw hP hD ls (lv_sub hl [1, 0, 2, 3, 4, 5, 6, 7] rfl)
    · intro y31 y32 y33 y34 hw ls hl
      exact hE9 _ _ _ _ hw ls (lv_sub hl [0, 1, 2, 3, 4] rfl)
set_option maxHeartbeats 4000000 in
set_option maxRecDepth 100000 in
theorem t_X4_wrong_134 {p : Program} {l : Launch} {e : Env} {s : State} {m : MethodId} {args : Array Value} {below : List Frame} {meth : Method} {c : Code} {D : va_G} {cs : Nat → ClassId} {A : Nat → Prop} (hC : MAt p s m args meth c RX4 cX4_wrong 9 (some .int) wsX4_wrong D cs) (q : Nat → Nat) (M : MS) (x1 : Int32) (x2 : Int32) (x3 : Int32) (x4 : Int32) (x6 : Int32) (x7 : Int32) (x8 : Int32) (Q : Int32 → Prop) (E9 : Int32 → Int32 → Int32 → Int32 → Prop) (hE9 : ∀ (x1 : Int32) (x2 : Int32) (x3 : Int32) (x4 : Int32) , E9 x1 x2 x3 x4 → ∀ ls : Array Slot, lv_has ls 9 [(0, .ref (q 0)), (1, .int x1), (2, .int x2), (3, .int x3), (4, .int x4)] → W p l e ({ frames := 1, cells := 0, slots := 0, locals := 25 } : Room) s m args below meth c s.heap [] 0 0 (MQ below (vp_Si Q) args s 0 0 (fun _ => False)) (F0 m 9 ls [])) (hw : wj_X4_wrong_134 M x1 x2 x3 x4 x6 x7 x8 Q E9) (hP : va_P D vwCl (w_Mod cs q M) s.heap) (hD : va_D A (w_Mod cs q M)) (ls : Array Slot) (hl : lv_has ls 9 [(0, .ref (q 0)), (1, .int x1), (2, .int x2), (3, .int x3), (4, .int x4), (6, .int x6), (7, .int x7), (8, .int x8)]) : W p l e ({ frames := 1, cells := 0, slots := 0, locals := 25 } : Room) s m args below meth c s.heap [] 0 0 (MQ below (vp_Si Q) args s 0 0 (fun _ => False)) (F0 m 134 ls []) := by
  obtain ⟨hx, hb, hr, hml, hown, hts, hlocks, hKK⟩ := id hC
  have hK := hKK.1
  refine lv_iload hx hb dX4_wrong_134 (lv_at hl 5 rfl) ?_
  refine lv_if_ne (tgt := 152) hx hb dX4_wrong_136 (by decide) (fun c10 => ?_) (fun c10 => ?_)
  · have hw := hw.2 c10
    refine t_X4_wrong_152 hC q _ _ _ _ _ _ _ _ _ _  ?_ hw hP hD ls (lv_sub hl [0, 1, 2, 3, 4, 5, 6, 7] rfl)
    · intro y35 y36 y37 y38 hw ls hl
      exact hE9 _ _ _ _ hw ls (lv_sub hl [0, 1, 2, 3, 4] rfl)
  · have hw := hw.1 c10
    refine lv_iload hx hb dX4_wrong_139 (lv_at hl 6 rfl) ?_
    refine lv_if_ne (tgt := 152) hx hb dX4_wrong_141 (by decide) (fun c39 => ?_) (fun c39 => ?_)
    · have hw := hw.2 c39
      refine t_X4_wrong_152 hC q _ _ _ _ _ _ _ _ _ _  ?_ hw hP hD ls (lv_sub hl [0, 1, 2, 3, 4, 5, 6, 7] rfl)
      · intro y40 y41 y42 y43 hw ls hl
        exact hE9 _ _ _ _ hw ls (lv_sub hl [0, 1, 2, 3, 4] rfl)
    · have hw := hw.1 c39
      refine lv_iload hx hb dX4_wrong_144 (lv_at hl 7 rfl) ?_
      refine lv_if_ne (tgt := 152) hx hb dX4_wrong_146 (by decide) (fun c44 => ?_) (fun c44 => ?_)
      · have hw := hw.2 c44
        refine t_X4_wrong_152 hC q _ _ _ _ _ _ _ _ _ _  ?_ hw hP hD ls (lv_sub hl [0, 1, 2, 3, 4, 5, 6, 7] rfl)
        · intro y45 y46 y47 y48 hw ls hl
          exact hE9 _ _ _ _ hw ls (lv_sub hl [0, 1, 2, 3, 4] rfl)
      · have hw := hw.1 c44
        refine lv_iload hx hb dX4_wrong_149 (lv_at hl 4 rfl) ?_
        exact W.iret (v := x4) hx hb hr (fun t ht hW => ⟨x4, rfl, hw, ht⟩) (fun q h => nomatch h) dX4_wrong_151 hlocks
set_option maxHeartbeats 4000000 in
set_option maxRecDepth 100000 in
theorem t_X4_wrong_103 {p : Program} {l : Launch} {e : Env} {s : State} {m : MethodId} {args : Array Value} {below : List Frame} {meth : Method} {c : Code} {D : va_G} {cs : Nat → ClassId} {A : Nat → Prop} (hC : MAt p s m args meth c RX4 cX4_wrong 9 (some .int) wsX4_wrong D cs) (q : Nat → Nat) (M : MS) (x1 : Int32) (x2 : Int32) (x3 : Int32) (x4 : Int32) (x5 : Int32) (x6 : Int32) (x7 : Int32) (Q : Int32 → Prop) (E9 : Int32 → Int32 → Int32 → Int32 → Prop) (hE9 : ∀ (x1 : Int32) (x2 : Int32) (x3 : Int32) (x4 : Int32) , E9 x1 x2 x3 x4 → ∀ ls : Array Slot, lv_has ls 9 [(0, .ref (q 0)), (1, .int x1), (2, .int x2), (3, .int x3), (4, .int x4)] → W p l e ({ frames := 1, cells := 0, slots := 0, locals := 25 } : Room) s m args below meth c s.heap [] 0 0 (MQ below (vp_Si Q) args s 0 0 (fun _ => False)) (F0 m 9 ls [])) (hw : wj_X4_wrong_103 M x1 x2 x3 x4 x5 x6 x7 Q E9) (hP : va_P D vwCl (w_Mod cs q M) s.heap) (hD : va_D A (w_Mod cs q M)) (ls : Array Slot) (hl : lv_has ls 9 [(0, .ref (q 0)), (1, .int x1), (2, .int x2), (3, .int x3), (4, .int x4), (5, .int x5), (6, .int x6), (7, .int x7)]) : W p l e ({ frames := 1, cells := 0, slots := 0, locals := 25 } : Room) s m args below meth c s.heap [] 0 0 (MQ below (vp_Si Q) args s 0 0 (fun _ => False)) (F0 m 103 ls []) := by
  obtain ⟨hx, hb, hr, hml, hown, hts, hlocks, hKK⟩ := id hC
  have hK := hKK.1
  refine lv_iload hx hb dX4_wrong_103 (lv_at hl 5 rfl) ?_
  refine lv_bipush (v := (47 : Int32)) hx hb dX4_wrong_105 (by decide) ?_
  refine lv_icmp_eq (tgt := 117) hx hb dX4_wrong_107 (by decide) (fun c8 => ?_) (fun c8 => ?_)
  · have hw := hw.1 c8
    refine lv_iload_n hx hb dX4_wrong_117 rfl (lv_at hl 2 rfl) ?_
    refine lv_if_le (tgt := 131) hx hb dX4_wrong_118 (by decide) (fun c9 => ?_) (fun c9 => ?_)
    · have hw := hw.1 c9
      refine lv_iconst (v := (0 : Int32)) hx hb dX4_wrong_131 (by decide) ?_
      refine lv_istore (lv' := [(8, .int (0 : Int32)), (0, .ref (q 0)), (1, .int x1), (2, .int x2), (3, .int x3), (4, .int x4), (5, .int x5), (6, .int x6), (7, .int x7)]) hx hb dX4_wrong_132 hl (by decide) rfl (fun ls hl => ?_)
      refine t_X4_wrong_134 hC q _ _ _ _ _ _ _ _ _ _  ?_ hw hP hD ls (lv_sub hl [1, 2, 3, 4, 5, 7, 8, 0] rfl)
      · intro y49 y50 y51 y52 hw ls hl
        exact hE9 _ _ _ _ hw ls (lv_sub hl [0, 1, 2, 3, 4] rfl)
    · have hw := hw.2 c9
      refine lv_iload_n hx hb dX4_wrong_121 rfl (lv_at hl 1 rfl) ?_
      refine lv_bipush (v := (6 : Int32)) hx hb dX4_wrong_122 (by decide) ?_
      refine lv_icmp_ge (tgt := 131) hx hb dX4_wrong_124 (by decide) (fun c53 => ?_) (fun c53 => ?_)
      · have hw := hw.1 c53
        refine lv_iconst (v := (0 : Int32)) hx hb dX4_wrong_131 (by decide) ?_
        refine lv_istore (lv' := [(8, .int (0 : Int32)), (0, .ref (q 0)), (1, .int x1), (2, .int x2), (3, .int x3), (4, .int x4), (5, .int x5), (6, .int x6), (7, .int x7)]) hx hb dX4_wrong_132 hl (by decide) rfl (fun ls hl => ?_)
        refine t_X4_wrong_134 hC q _ _ _ _ _ _ _ _ _ _  ?_ hw hP hD ls (lv_sub hl [1, 2, 3, 4, 5, 7, 8, 0] rfl)
        · intro y54 y55 y56 y57 hw ls hl
          exact hE9 _ _ _ _ hw ls (lv_sub hl [0, 1, 2, 3, 4] rfl)
      · have hw := hw.2 c53
        refine lv_iconst (v := (1 : Int32)) hx hb dX4_wrong_127 (by decide) ?_
        refine lv_goto (tgt := 132) hx hb dX4_wrong_128 (by decide) ?_
        refine lv_istore (lv' := [(8, .int (1 : Int32)), (0, .ref (q 0)), (1, .int x1), (2, .int x2), (3, .int x3), (4, .int x4), (5, .int x5), (6, .int x6), (7, .int x7)]) hx hb dX4_wrong_132 hl (by decide) rfl (fun ls hl => ?_)
        refine t_X4_wrong_134 hC q _ _ _ _ _ _ _ _ _ _  ?_ hw hP hD ls (lv_sub hl [1, 2, 3, 4, 5, 7, 8, 0] rfl)
        · intro y58 y59 y60 y61 hw ls hl
          exact hE9 _ _ _ _ hw ls (lv_sub hl [0, 1, 2, 3, 4] rfl)
  · have hw := hw.2 c8
    refine lv_iload hx hb dX4_wrong_110 (lv_at hl 5 rfl) ?_
    refine lv_bipush (v := (62 : Int32)) hx hb dX4_wrong_112 (by decide) ?_
    refine lv_icmp_ne (tgt := 131) hx hb dX4_wrong_114 (by decide) (fun c62 => ?_) (fun c62 => ?_)
    · have hw := hw.2 c62
      refine lv_iconst (v := (0 : Int32)) hx hb dX4_wrong_131 (by decide) ?_
      refine lv_istore (lv' := [(8, .int (0 : Int32)), (0, .ref (q 0)), (1, .int x1), (2, .int x2), (3, .int x3), (4, .int x4), (5, .int x5), (6, .int x6), (7, .int x7)]) hx hb dX4_wrong_132 hl (by decide) rfl (fun ls hl => ?_)
      refine t_X4_wrong_134 hC q _ _ _ _ _ _ _ _ _ _  ?_ hw hP hD ls (lv_sub hl [1, 2, 3, 4, 5, 7, 8, 0] rfl)
      · intro y63 y64 y65 y66 hw ls hl
        exact hE9 _ _ _ _ hw ls (lv_sub hl [0, 1, 2, 3, 4] rfl)
    · have hw := hw.1 c62
      refine lv_iload_n hx hb dX4_wrong_117 rfl (lv_at hl 2 rfl) ?_
      refine lv_if_le (tgt := 131) hx hb dX4_wrong_118 (by decide) (fun c67 => ?_) (fun c67 => ?_)
      · have hw := hw.1 c67
        refine lv_iconst (v := (0 : Int32)) hx hb dX4_wrong_131 (by decide) ?_
        refine lv_istore (lv' := [(8, .int (0 : Int32)), (0, .ref (q 0)), (1, .int x1), (2, .int x2), (3, .int x3), (4, .int x4), (5, .int x5), (6, .int x6), (7, .int x7)]) hx hb dX4_wrong_132 hl (by decide) rfl (fun ls hl => ?_)
        refine t_X4_wrong_134 hC q _ _ _ _ _ _ _ _ _ _  ?_ hw hP hD ls (lv_sub hl [1, 2, 3, 4, 5, 7, 8, 0] rfl)
        · intro y68 y69 y70 y71 hw ls hl
          exact hE9 _ _ _ _ hw ls (lv_sub hl [0, 1, 2, 3, 4] rfl)
      · have hw := hw.2 c67
        refine lv_iload_n hx hb dX4_wrong_121 rfl (lv_at hl 1 rfl) ?_
        refine lv_bipush (v := (6 : Int32)) hx hb dX4_wrong_122 (by decide) ?_
        refine lv_icmp_ge (tgt := 131) hx hb dX4_wrong_124 (by decide) (fun c72 => ?_) (fun c72 => ?_)
        · have hw := hw.1 c72
          refine lv_iconst (v := (0 : Int32)) hx hb dX4_wrong_131 (by decide) ?_
          refine lv_istore (lv' := [(8, .int (0 : Int32)), (0, .ref (q 0)), (1, .int x1), (2, .int x2), (3, .int x3), (4, .int x4), (5, .int x5), (6, .int x6), (7, .int x7)]) hx hb dX4_wrong_132 hl (by decide) rfl (fun ls hl => ?_)
          refine t_X4_wrong_134 hC q _ _ _ _ _ _ _ _ _ _  ?_ hw hP hD ls (lv_sub hl [1, 2, 3, 4, 5, 7, 8, 0] rfl)
          · intro y73 y74 y75 y76 hw ls hl
            exact hE9 _ _ _ _ hw ls (lv_sub hl [0, 1, 2, 3, 4] rfl)
        · have hw := hw.2 c72
          refine lv_iconst (v := (1 : Int32)) hx hb dX4_wrong_127 (by decide) ?_
          refine lv_goto (tgt := 132) hx hb dX4_wrong_128 (by decide) ?_
          refine lv_istore (lv' := [(8, .int (1 : Int32)), (0, .ref (q 0)), (1, .int x1), (2, .int x2), (3, .int x3), (4, .int x4), (5, .int x5), (6, .int x6), (7, .int x7)]) hx hb dX4_wrong_132 hl (by decide) rfl (fun ls hl => ?_)
          refine t_X4_wrong_134 hC q _ _ _ _ _ _ _ _ _ _  ?_ hw hP hD ls (lv_sub hl [1, 2, 3, 4, 5, 7, 8, 0] rfl)
          · intro y77 y78 y79 y80 hw ls hl
            exact hE9 _ _ _ _ hw ls (lv_sub hl [0, 1, 2, 3, 4] rfl)
set_option maxHeartbeats 4000000 in
set_option maxRecDepth 100000 in
theorem t_X4_wrong_55 {p : Program} {l : Launch} {e : Env} {s : State} {m : MethodId} {args : Array Value} {below : List Frame} {meth : Method} {c : Code} {D : va_G} {cs : Nat → ClassId} {A : Nat → Prop} (hC : MAt p s m args meth c RX4 cX4_wrong 9 (some .int) wsX4_wrong D cs) (q : Nat → Nat) (M : MS) (x1 : Int32) (x2 : Int32) (x3 : Int32) (x4 : Int32) (x5 : Int32) (x6 : Int32) (Q : Int32 → Prop) (E9 : Int32 → Int32 → Int32 → Int32 → Prop) (hE9 : ∀ (x1 : Int32) (x2 : Int32) (x3 : Int32) (x4 : Int32) , E9 x1 x2 x3 x4 → ∀ ls : Array Slot, lv_has ls 9 [(0, .ref (q 0)), (1, .int x1), (2, .int x2), (3, .int x3), (4, .int x4)] → W p l e ({ frames := 1, cells := 0, slots := 0, locals := 25 } : Room) s m args below meth c s.heap [] 0 0 (MQ below (vp_Si Q) args s 0 0 (fun _ => False)) (F0 m 9 ls [])) (hw : wj_X4_wrong_55 M x1 x2 x3 x4 x5 x6 Q E9) (hP : va_P D vwCl (w_Mod cs q M) s.heap) (hD : va_D A (w_Mod cs q M)) (ls : Array Slot) (hl : lv_has ls 9 [(0, .ref (q 0)), (1, .int x1), (2, .int x2), (3, .int x3), (4, .int x4), (5, .int x5), (6, .int x6)]) : W p l e ({ frames := 1, cells := 0, slots := 0, locals := 25 } : Room) s m args below meth c s.heap [] 0 0 (MQ below (vp_Si Q) args s 0 0 (fun _ => False)) (F0 m 55 ls []) := by
  obtain ⟨hx, hb, hr, hml, hown, hts, hlocks, hKK⟩ := id hC
  have hK := hKK.1
  refine lv_iload hx hb dX4_wrong_55 (lv_at hl 5 rfl) ?_
  refine lv_bipush (v := (43 : Int32)) hx hb dX4_wrong_57 (by decide) ?_
  refine lv_icmp_eq (tgt := 69) hx hb dX4_wrong_59 (by decide) (fun c6 => ?_) (fun c6 => ?_)
  · have hw := hw.1 c6
    refine lv_iload_n hx hb dX4_wrong_69 rfl (lv_at hl 2 rfl) ?_
    refine lv_if_le (tgt := 100) hx hb dX4_wrong_70 (by decide) (fun c7 => ?_) (fun c7 => ?_)
    · have hw := hw.1 c7
      refine lv_iconst (v := (0 : Int32)) hx hb dX4_wrong_100 (by decide) ?_
      refine lv_istore (lv' := [(7, .int (0 : Int32)), (0, .ref (q 0)), (1, .int x1), (2, .int x2), (3, .int x3), (4, .int x4), (5, .int x5), (6, .int x6)]) hx hb dX4_wrong_101 hl (by decide) rfl (fun ls hl => ?_)
      refine t_X4_wrong_103 hC q _ _ _ _ _ _ _ _ _ _  ?_ hw hP hD ls (lv_sub hl [1, 2, 3, 4, 5, 6, 7, 0] rfl)
      · intro y81 y82 y83 y84 hw ls hl
        exact hE9 _ _ _ _ hw ls (lv_sub hl [0, 1, 2, 3, 4] rfl)
    · have hw := hw.2 c7
      refine lv_iload_n hx hb dX4_wrong_73 rfl (lv_at hl 3 rfl) ?_
      refine lv_iconst (v := (5 : Int32)) hx hb dX4_wrong_74 (by decide) ?_
      refine lv_icmp_ge (tgt := 100) hx hb dX4_wrong_75 (by decide) (fun c85 => ?_) (fun c85 => ?_)
      · have hw := hw.1 c85
        refine lv_iconst (v := (0 : Int32)) hx hb dX4_wrong_100 (by decide) ?_
        refine lv_istore (lv' := [(7, .int (0 : Int32)), (0, .ref (q 0)), (1, .int x1), (2, .int x2), (3, .int x3), (4, .int x4), (5, .int x5), (6, .int x6)]) hx hb dX4_wrong_101 hl (by decide) rfl (fun ls hl => ?_)
        refine t_X4_wrong_103 hC q _ _ _ _ _ _ _ _ _ _  ?_ hw hP hD ls (lv_sub hl [1, 2, 3, 4, 5, 6, 7, 0] rfl)
        · intro y86 y87 y88 y89 hw ls hl
          exact hE9 _ _ _ _ hw ls (lv_sub hl [0, 1, 2, 3, 4] rfl)
      · have hw := hw.2 c85
        refine lv_iload_n hx hb dX4_wrong_78 rfl (lv_at hl 3 rfl) ?_
        refine lv_if_eq (tgt := 96) hx hb dX4_wrong_79 (by decide) (fun c90 => ?_) (fun c90 => ?_)
        · have hw := hw.1 c90
          refine lv_iconst (v := (1 : Int32)) hx hb dX4_wrong_96 (by decide) ?_
          refine lv_goto (tgt := 101) hx hb dX4_wrong_97 (by decide) ?_
          refine lv_istore (lv' := [(7, .int (1 : Int32)), (0, .ref (q 0)), (1, .int x1), (2, .int x2), (3, .int x3), (4, .int x4), (5, .int x5), (6, .int x6)]) hx hb dX4_wrong_101 hl (by decide) rfl (fun ls hl => ?_)
          refine t_X4_wrong_103 hC q _ _ _ _ _ _ _ _ _ _  ?_ hw hP hD ls (lv_sub hl [1, 2, 3, 4, 5, 6, 7, 0] rfl)
          · intro y91 y92 y93 y94 hw ls hl
            exact hE9 _ _ _ _ hw ls (lv_sub hl [0, 1, 2, 3, 4] rfl)
        · have hw := hw.2 c90
          refine lv_aload_n hx hb dX4_wrong_82 rfl (lv_at hl 0 rfl) ?_
          refine va_get (D := D) (ci := 4) (v := .ref (q 1)) (C := RX4) (T := TX4) (N := 11) hx hb hts (h_X4_X4_wrong) hown hK hP 0 rfl rfl 1 (by decide) (z_w hts 2 rfl) (fun _ h9 => h9) rfl dX4_wrong_83 ?_
          refine lv_iload hx hb dX4_wrong_86 (lv_at hl 4 rfl) ?_
          refine lv_iconst (v := (1 : Int32)) hx hb dX4_wrong_88 (by decide) ?_
          refine lv_isub hx hb dX4_wrong_89 ?_
          obtain ⟨h95, hw⟩ := hw
          refine va_iald hx hb hK hP 1 0 rfl rfl h95 dX4_wrong_90 ?_
          refine lv_iload hx hb dX4_wrong_91 (lv_at hl 5 rfl) ?_
          refine lv_icmp_ne (tgt := 100) hx hb dX4_wrong_93 (by decide) (fun c96 => ?_) (fun c96 => ?_)
          · have hw := hw.2 c96
            refine lv_iconst (v := (0 : Int32)) hx hb dX4_wrong_100 (by decide) ?_
            refine lv_istore (lv' := [(7, .int (0 : Int32)), (0, .ref (q 0)), (1, .int x1), (2, .int x2), (3, .int x3), (4, .int x4), (5, .int x5), (6, .int x6)]) hx hb dX4_wrong_101 hl (by decide) rfl (fun ls hl => ?_)
            refine t_X4_wrong_103 hC q _ _ _ _ _ _ _ _ _ _  ?_ hw hP hD ls (lv_sub hl [1, 2, 3, 4, 5, 6, 7, 0] rfl)
            · intro y97 y98 y99 y100 hw ls hl
              exact hE9 _ _ _ _ hw ls (lv_sub hl [0, 1, 2, 3, 4] rfl)
          · have hw := hw.1 c96
            refine lv_iconst (v := (1 : Int32)) hx hb dX4_wrong_96 (by decide) ?_
            refine lv_goto (tgt := 101) hx hb dX4_wrong_97 (by decide) ?_
            refine lv_istore (lv' := [(7, .int (1 : Int32)), (0, .ref (q 0)), (1, .int x1), (2, .int x2), (3, .int x3), (4, .int x4), (5, .int x5), (6, .int x6)]) hx hb dX4_wrong_101 hl (by decide) rfl (fun ls hl => ?_)
            refine t_X4_wrong_103 hC q _ _ _ _ _ _ _ _ _ _  ?_ hw hP hD ls (lv_sub hl [1, 2, 3, 4, 5, 6, 7, 0] rfl)
            · intro y101 y102 y103 y104 hw ls hl
              exact hE9 _ _ _ _ hw ls (lv_sub hl [0, 1, 2, 3, 4] rfl)
  · have hw := hw.2 c6
    refine lv_iload hx hb dX4_wrong_62 (lv_at hl 5 rfl) ?_
    refine lv_bipush (v := (45 : Int32)) hx hb dX4_wrong_64 (by decide) ?_
    refine lv_icmp_ne (tgt := 100) hx hb dX4_wrong_66 (by decide) (fun c105 => ?_) (fun c105 => ?_)
    · have hw := hw.2 c105
      refine lv_iconst (v := (0 : Int32)) hx hb dX4_wrong_100 (by decide) ?_
      refine lv_istore (lv' := [(7, .int (0 : Int32)), (0, .ref (q 0)), (1, .int x1), (2, .int x2), (3, .int x3), (4, .int x4), (5, .int x5), (6, .int x6)]) hx hb dX4_wrong_101 hl (by decide) rfl (fun ls hl => ?_)
      refine t_X4_wrong_103 hC q _ _ _ _ _ _ _ _ _ _  ?_ hw hP hD ls (lv_sub hl [1, 2, 3, 4, 5, 6, 7, 0] rfl)
      · intro y106 y107 y108 y109 hw ls hl
        exact hE9 _ _ _ _ hw ls (lv_sub hl [0, 1, 2, 3, 4] rfl)
    · have hw := hw.1 c105
      refine lv_iload_n hx hb dX4_wrong_69 rfl (lv_at hl 2 rfl) ?_
      refine lv_if_le (tgt := 100) hx hb dX4_wrong_70 (by decide) (fun c110 => ?_) (fun c110 => ?_)
      · have hw := hw.1 c110
        refine lv_iconst (v := (0 : Int32)) hx hb dX4_wrong_100 (by decide) ?_
        refine lv_istore (lv' := [(7, .int (0 : Int32)), (0, .ref (q 0)), (1, .int x1), (2, .int x2), (3, .int x3), (4, .int x4), (5, .int x5), (6, .int x6)]) hx hb dX4_wrong_101 hl (by decide) rfl (fun ls hl => ?_)
        refine t_X4_wrong_103 hC q _ _ _ _ _ _ _ _ _ _  ?_ hw hP hD ls (lv_sub hl [1, 2, 3, 4, 5, 6, 7, 0] rfl)
        · intro y111 y112 y113 y114 hw ls hl
          exact hE9 _ _ _ _ hw ls (lv_sub hl [0, 1, 2, 3, 4] rfl)
      · have hw := hw.2 c110
        refine lv_iload_n hx hb dX4_wrong_73 rfl (lv_at hl 3 rfl) ?_
        refine lv_iconst (v := (5 : Int32)) hx hb dX4_wrong_74 (by decide) ?_
        refine lv_icmp_ge (tgt := 100) hx hb dX4_wrong_75 (by decide) (fun c115 => ?_) (fun c115 => ?_)
        · have hw := hw.1 c115
          refine lv_iconst (v := (0 : Int32)) hx hb dX4_wrong_100 (by decide) ?_
          refine lv_istore (lv' := [(7, .int (0 : Int32)), (0, .ref (q 0)), (1, .int x1), (2, .int x2), (3, .int x3), (4, .int x4), (5, .int x5), (6, .int x6)]) hx hb dX4_wrong_101 hl (by decide) rfl (fun ls hl => ?_)
          refine t_X4_wrong_103 hC q _ _ _ _ _ _ _ _ _ _  ?_ hw hP hD ls (lv_sub hl [1, 2, 3, 4, 5, 6, 7, 0] rfl)
          · intro y116 y117 y118 y119 hw ls hl
            exact hE9 _ _ _ _ hw ls (lv_sub hl [0, 1, 2, 3, 4] rfl)
        · have hw := hw.2 c115
          refine lv_iload_n hx hb dX4_wrong_78 rfl (lv_at hl 3 rfl) ?_
          refine lv_if_eq (tgt := 96) hx hb dX4_wrong_79 (by decide) (fun c120 => ?_) (fun c120 => ?_)
          · have hw := hw.1 c120
            refine lv_iconst (v := (1 : Int32)) hx hb dX4_wrong_96 (by decide) ?_
            refine lv_goto (tgt := 101) hx hb dX4_wrong_97 (by decide) ?_
            refine lv_istore (lv' := [(7, .int (1 : Int32)), (0, .ref (q 0)), (1, .int x1), (2, .int x2), (3, .int x3), (4, .int x4), (5, .int x5), (6, .int x6)]) hx hb dX4_wrong_101 hl (by decide) rfl (fun ls hl => ?_)
            refine t_X4_wrong_103 hC q _ _ _ _ _ _ _ _ _ _  ?_ hw hP hD ls (lv_sub hl [1, 2, 3, 4, 5, 6, 7, 0] rfl)
            · intro y121 y122 y123 y124 hw ls hl
              exact hE9 _ _ _ _ hw ls (lv_sub hl [0, 1, 2, 3, 4] rfl)
          · have hw := hw.2 c120
            refine lv_aload_n hx hb dX4_wrong_82 rfl (lv_at hl 0 rfl) ?_
            refine va_get (D := D) (ci := 4) (v := .ref (q 1)) (C := RX4) (T := TX4) (N := 11) hx hb hts (h_X4_X4_wrong) hown hK hP 0 rfl rfl 1 (by decide) (z_w hts 2 rfl) (fun _ h9 => h9) rfl dX4_wrong_83 ?_
            refine lv_iload hx hb dX4_wrong_86 (lv_at hl 4 rfl) ?_
            refine lv_iconst (v := (1 : Int32)) hx hb dX4_wrong_88 (by decide) ?_
            refine lv_isub hx hb dX4_wrong_89 ?_
            obtain ⟨h125, hw⟩ := hw
            refine va_iald hx hb hK hP 1 0 rfl rfl h125 dX4_wrong_90 ?_
            refine lv_iload hx hb dX4_wrong_91 (lv_at hl 5 rfl) ?_
            refine lv_icmp_ne (tgt := 100) hx hb dX4_wrong_93 (by decide) (fun c126 => ?_) (fun c126 => ?_)
            · have hw := hw.2 c126
              refine lv_iconst (v := (0 : Int32)) hx hb dX4_wrong_100 (by decide) ?_
              refine lv_istore (lv' := [(7, .int (0 : Int32)), (0, .ref (q 0)), (1, .int x1), (2, .int x2), (3, .int x3), (4, .int x4), (5, .int x5), (6, .int x6)]) hx hb dX4_wrong_101 hl (by decide) rfl (fun ls hl => ?_)
              refine t_X4_wrong_103 hC q _ _ _ _ _ _ _ _ _ _  ?_ hw hP hD ls (lv_sub hl [1, 2, 3, 4, 5, 6, 7, 0] rfl)
              · intro y127 y128 y129 y130 hw ls hl
                exact hE9 _ _ _ _ hw ls (lv_sub hl [0, 1, 2, 3, 4] rfl)
            · have hw := hw.1 c126
              refine lv_iconst (v := (1 : Int32)) hx hb dX4_wrong_96 (by decide) ?_
              refine lv_goto (tgt := 101) hx hb dX4_wrong_97 (by decide) ?_
              refine lv_istore (lv' := [(7, .int (1 : Int32)), (0, .ref (q 0)), (1, .int x1), (2, .int x2), (3, .int x3), (4, .int x4), (5, .int x5), (6, .int x6)]) hx hb dX4_wrong_101 hl (by decide) rfl (fun ls hl => ?_)
              refine t_X4_wrong_103 hC q _ _ _ _ _ _ _ _ _ _  ?_ hw hP hD ls (lv_sub hl [1, 2, 3, 4, 5, 6, 7, 0] rfl)
              · intro y131 y132 y133 y134 hw ls hl
                exact hE9 _ _ _ _ hw ls (lv_sub hl [0, 1, 2, 3, 4] rfl)
set_option maxHeartbeats 4000000 in
set_option maxRecDepth 100000 in
theorem t_X4_wrong_9 {p : Program} {l : Launch} {e : Env} {s : State} {m : MethodId} {args : Array Value} {below : List Frame} {meth : Method} {c : Code} {D : va_G} {cs : Nat → ClassId} {A : Nat → Prop} (hC : MAt p s m args meth c RX4 cX4_wrong 9 (some .int) wsX4_wrong D cs) (q : Nat → Nat) (M : MS) (Q : Int32 → Prop) (hP : va_P D vwCl (w_Mod cs q M) s.heap) (hD : va_D A (w_Mod cs q M)) : ∀ (n : Nat) (x1 : Int32) (x2 : Int32) (x3 : Int32) (x4 : Int32), wl_X4_wrong_9 M Q n x1 x2 x3 x4 → ∀ ls : Array Slot, lv_has ls 9 [(0, .ref (q 0)), (1, .int x1), (2, .int x2), (3, .int x3), (4, .int x4)] → W p l e ({ frames := 1, cells := 0, slots := 0, locals := 25 } : Room) s m args below meth c s.heap [] 0 0 (MQ below (vp_Si Q) args s 0 0 (fun _ => False)) (F0 m 9 ls []) := by
  obtain ⟨hx, hb, hr, hml, hown, hts, hlocks, hKK⟩ := id hC
  have hK := hKK.1
  intro n
  induction n with
  | zero =>
    intro x1 x2 x3 x4 hw
    exact False.elim hw
  | succ n ih =>
    intro x1 x2 x3 x4 hw ls hl
    refine lv_iload hx hb dX4_wrong_9 (lv_at hl 4 rfl) ?_
    refine lv_aload_n hx hb dX4_wrong_11 rfl (lv_at hl 0 rfl) ?_
    refine va_get (D := D) (ci := 4) (v := .int (M 0 1)) (C := RX4) (T := TX4) (N := 11) hx hb hts (h_X4_X4_wrong) hown hK hP 0 rfl rfl 2 (by decide) (z_w hts 1 rfl) (fun _ h9 => h9) rfl dX4_wrong_12 ?_
    refine lv_icmp_ge (tgt := 206) hx hb dX4_wrong_15 (by decide) (fun c1 => ?_) (fun c1 => ?_)
    · have hw := hw.1 c1
      refine lv_iload_n hx hb dX4_wrong_206 rfl (lv_at hl 2 rfl) ?_
      refine lv_if_ne (tgt := 217) hx hb dX4_wrong_207 (by decide) (fun c2 => ?_) (fun c2 => ?_)
      · have hw := hw.2 c2
        refine lv_iconst (v := (-1 : Int32)) hx hb dX4_wrong_217 (by decide) ?_
        exact W.iret (v := (-1 : Int32)) hx hb hr (fun t ht hW => ⟨(-1 : Int32), rfl, hw, ht⟩) (fun q h => nomatch h) dX4_wrong_218 hlocks
      · have hw := hw.1 c2
        refine lv_aload_n hx hb dX4_wrong_210 rfl (lv_at hl 0 rfl) ?_
        refine va_get (D := D) (ci := 4) (v := .int (M 0 1)) (C := RX4) (T := TX4) (N := 11) hx hb hts (h_X4_X4_wrong) hown hK hP 0 rfl rfl 2 (by decide) (z_w hts 1 rfl) (fun _ h9 => h9) rfl dX4_wrong_211 ?_
        refine lv_goto (tgt := 218) hx hb dX4_wrong_214 (by decide) ?_
        exact W.iret (v := M 0 1) hx hb hr (fun t ht hW => ⟨M 0 1, rfl, hw, ht⟩) (fun q h => nomatch h) dX4_wrong_218 hlocks
    · have hw := hw.2 c1
      refine lv_aload_n hx hb dX4_wrong_18 rfl (lv_at hl 0 rfl) ?_
      refine va_get (D := D) (ci := 4) (v := .ref (q 1)) (C := RX4) (T := TX4) (N := 11) hx hb hts (h_X4_X4_wrong) hown hK hP 0 rfl rfl 1 (by decide) (z_w hts 2 rfl) (fun _ h9 => h9) rfl dX4_wrong_19 ?_
      refine lv_iload hx hb dX4_wrong_22 (lv_at hl 4 rfl) ?_
      obtain ⟨h3, hw⟩ := hw
      refine va_iald hx hb hK hP 1 0 rfl rfl h3 dX4_wrong_24 ?_
      refine lv_istore (lv' := [(5, .int (M 1 x4.toNatClampNeg)), (0, .ref (q 0)), (1, .int x1), (2, .int x2), (3, .int x3), (4, .int x4)]) hx hb dX4_wrong_25 hl (by decide) rfl (fun ls hl => ?_)
      refine lv_iload hx hb dX4_wrong_27 (lv_at hl 0 rfl) ?_
      refine lv_i2l (v := (M 1 x4.toNatClampNeg).toInt64) hx hb dX4_wrong_29 rfl ?_
      refine lv_ldc2 (v := (48 : Int64)) hx hb hown (z_w hts 3 (w := .constantLong RX4 80 (48)) rfl) dX4_wrong_30 ?_
      refine lv_ldc2 (v := (50 : Int64)) hx hb hown (z_w hts 4 (w := .constantLong RX4 82 (50)) rfl) dX4_wrong_33 ?_
      have hPc := hP.sub (ws' := ([] : va_W)) [] rfl
      have hDc := hD.sub (ws' := ([] : va_W)) [] (by decide) rfl
      refine z_calli (va_runS (As := [.long ((M 1 x4.toNatClampNeg).toInt64), .long (48 : Int64), .long (50 : Int64)]) (rest := []) ⟨hx, hb, hml, hown, hts⟩ (c_X4_in l D cs  s.heap.size ((M 1 x4.toNatClampNeg).toInt64) (48 : Int64) (50 : Int64) _ hw) (va_cwS 3 hts gX4_wrong_X4_in rfl rfl rfl (by decide +kernel) ⟨Nat.le_of_ble_eq_true rfl, Nat.le_of_ble_eq_true rfl⟩) (PC_S hPc hDc hKK) rfl rfl hl.1 rfl (lv_room (Nat.le_of_ble_eq_true rfl)) dX4_wrong_36 ⟨Nat.le_of_ble_eq_true rfl, Nat.le_of_ble_eq_true rfl⟩) (fun r4 hw => ?_)
      obtain ⟨b4, hw⟩ := hw
      refine lv_if_eq (tgt := 52) hx hb dX4_wrong_39 (by decide) (fun c5 => ?_) (fun c5 => ?_)
      · have hw := hw.1 c5
        refine lv_iconst (v := (0 : Int32)) hx hb dX4_wrong_52 (by decide) ?_
        refine lv_istore (lv' := [(6, .int (0 : Int32)), (5, .int (M 1 x4.toNatClampNeg)), (0, .ref (q 0)), (1, .int x1), (2, .int x2), (3, .int x3), (4, .int x4)]) hx hb dX4_wrong_53 hl (by decide) rfl (fun ls hl => ?_)
        refine t_X4_wrong_55 hC q _ _ _ _ _ _ _ _ _  ?_ hw hP hD ls (lv_sub hl [2, 3, 4, 5, 6, 1, 0] rfl)
        · intro y135 y136 y137 y138 hw ls hl
          exact ih _ _ _ _ hw ls (lv_sub hl [0, 1, 2, 3, 4] rfl)
      · have hw := hw.2 c5
        refine lv_iload_n hx hb dX4_wrong_42 rfl (lv_at hl 3 rfl) ?_
        refine lv_bipush (v := (9 : Int32)) hx hb dX4_wrong_43 (by decide) ?_
        refine lv_icmp_ge (tgt := 52) hx hb dX4_wrong_45 (by decide) (fun c139 => ?_) (fun c139 => ?_)
        · have hw := hw.1 c139
          refine lv_iconst (v := (0 : Int32)) hx hb dX4_wrong_52 (by decide) ?_
          refine lv_istore (lv' := [(6, .int (0 : Int32)), (5, .int (M 1 x4.toNatClampNeg)), (0, .ref (q 0)), (1, .int x1), (2, .int x2), (3, .int x3), (4, .int x4)]) hx hb dX4_wrong_53 hl (by decide) rfl (fun ls hl => ?_)
          refine t_X4_wrong_55 hC q _ _ _ _ _ _ _ _ _  ?_ hw hP hD ls (lv_sub hl [2, 3, 4, 5, 6, 1, 0] rfl)
          · intro y140 y141 y142 y143 hw ls hl
            exact ih _ _ _ _ hw ls (lv_sub hl [0, 1, 2, 3, 4] rfl)
        · have hw := hw.2 c139
          refine lv_iconst (v := (1 : Int32)) hx hb dX4_wrong_48 (by decide) ?_
          refine lv_goto (tgt := 53) hx hb dX4_wrong_49 (by decide) ?_
          refine lv_istore (lv' := [(6, .int (1 : Int32)), (5, .int (M 1 x4.toNatClampNeg)), (0, .ref (q 0)), (1, .int x1), (2, .int x2), (3, .int x3), (4, .int x4)]) hx hb dX4_wrong_53 hl (by decide) rfl (fun ls hl => ?_)
          refine t_X4_wrong_55 hC q _ _ _ _ _ _ _ _ _  ?_ hw hP hD ls (lv_sub hl [2, 3, 4, 5, 6, 1, 0] rfl)
          · intro y144 y145 y146 y147 hw ls hl
            exact ih _ _ _ _ hw ls (lv_sub hl [0, 1, 2, 3, 4] rfl)
set_option maxHeartbeats 4000000 in
set_option maxRecDepth 100000 in
theorem t_X4_wrong {p : Program} {l : Launch} {e : Env} {s : State} {m : MethodId} {args : Array Value} {below : List Frame} {meth : Method} {c : Code} {D : va_G} {cs : Nat → ClassId} {A : Nat → Prop} (hC : MAt p s m args meth c RX4 cX4_wrong 9 (some .int) wsX4_wrong D cs) (q : Nat → Nat) (M : MS) (Q : Int32 → Prop) (hw : wp_X4_wrong M Q) (hP : va_P D vwCl (w_Mod cs q M) s.heap) (hD : va_D A (w_Mod cs q M)) (ls : Array Slot) (hl : lv_has ls 9 [(0, .ref (q 0))]) : W p l e ({ frames := 1, cells := 0, slots := 0, locals := 25 } : Room) s m args below meth c s.heap [] 0 0 (MQ below (vp_Si Q) args s 0 0 (fun _ => False)) (F0 m 0 ls []) := by
  obtain ⟨hx, hb, hr, hml, hown, hts, hlocks, hKK⟩ := id hC
  have hK := hKK.1
  refine lv_iconst (v := (1 : Int32)) hx hb dX4_wrong_0 (by decide) ?_
  refine lv_istore_n (lv' := [(1, .int (1 : Int32)), (0, .ref (q 0))]) hx hb dX4_wrong_1 rfl hl (by decide) rfl (fun ls hl => ?_)
  refine lv_iconst (v := (0 : Int32)) hx hb dX4_wrong_2 (by decide) ?_
  refine lv_istore_n (lv' := [(2, .int (0 : Int32)), (1, .int (1 : Int32)), (0, .ref (q 0))]) hx hb dX4_wrong_3 rfl hl (by decide) rfl (fun ls hl => ?_)
  refine lv_iconst (v := (0 : Int32)) hx hb dX4_wrong_4 (by decide) ?_
  refine lv_istore_n (lv' := [(3, .int (0 : Int32)), (2, .int (0 : Int32)), (1, .int (1 : Int32)), (0, .ref (q 0))]) hx hb dX4_wrong_5 rfl hl (by decide) rfl (fun ls hl => ?_)
  refine lv_iconst (v := (0 : Int32)) hx hb dX4_wrong_6 (by decide) ?_
  refine lv_istore (lv' := [(4, .int (0 : Int32)), (3, .int (0 : Int32)), (2, .int (0 : Int32)), (1, .int (1 : Int32)), (0, .ref (q 0))]) hx hb dX4_wrong_7 hl (by decide) rfl (fun ls hl => ?_)
  obtain ⟨n148, hw⟩ := hw
  exact t_X4_wrong_9 hC q _ _ hP hD n148 _ _ _ _ hw ls (lv_sub hl [4, 3, 2, 1, 0] rfl)
set_option maxHeartbeats 4000000 in
set_option maxRecDepth 100000 in
theorem c_X4_wrong (l : Launch) (D : va_G) (cs : Nat → ClassId) (q : Nat → Nat) (sz : Nat) (M : MS) (Q : Int32 → Prop) (hw : wp_X4_wrong M Q) : Met l yX4_wrong wsX4_wrong ({ frames := 1, cells := 0, slots := 0, locals := 25 } : Room) (va_Pc [.ref (q 0)] (PC D cs (w_Mod cs q M) sz)) (vp_Si Q) 0 0 (fun _ => False) := by
  refine Met.ofW (cc := cX4_wrong) (maxL := 9) (ret := (some .int)) (by decide) rfl ?_
  intro p e s m args below meth c s₁ B hml hv
  obtain ⟨rfl, hsz, hP, hKK, hD0⟩ := hv
  have hC : MAt p s m _ meth c RX4 cX4_wrong 9 (some .int) wsX4_wrong D cs := ⟨B.exec, B.bytes, B.returns, hml, findClass_of_methodNamed B.named, atoms_spec (ws := wsX4_wrong) B.pre, B.notSynchronized, hKK⟩
  have hl := lv_entry ([.ref (q 0)]) (n := 9) (Nat.le_of_ble_eq_true rfl)
  rw [lg_entry_eq]
  generalize (lg_sl ([.ref (q 0)]) ++ List.replicate (9 - (lg_sl ([.ref (q 0)])).length) Slot.unset).toArray = ls at hl ⊢
  exact t_X4_wrong hC q M Q hw hP hD0 ls hl
set_option maxHeartbeats 4000000 in
set_option maxRecDepth 100000 in
theorem t_X4_errorPosition {p : Program} {l : Launch} {e : Env} {s : State} {m : MethodId} {args : Array Value} {below : List Frame} {meth : Method} {c : Code} {D : va_G} {cs : Nat → ClassId} {A : Nat → Prop} (hC : MAt p s m args meth c RX4 cX4_errorPosition 1 (some .int) wsX4_errorPosition D cs) (q : Nat → Nat) (M : MS) (Q : Int32 → Prop) (hw : wp_X4_errorPosition M Q) (hP : va_P D vwCl (w_Mod cs q M) s.heap) (hD : va_D A (w_Mod cs q M)) (ls : Array Slot) (hl : lv_has ls 1 [(0, .ref (q 0))]) : W p l e ({ frames := 2, cells := 0, slots := 0, locals := 53 } : Room) s m args below meth c s.heap [] 0 0 (MQ below (vp_Si Q) args s 0 0 (fun _ => False)) (F0 m 0 ls []) := by
  obtain ⟨hx, hb, hr, hml, hown, hts, hlocks, hKK⟩ := id hC
  have hK := hKK.1
  refine lv_aload_n hx hb dX4_errorPosition_0 rfl (lv_at hl 0 rfl) ?_
  refine z_calli (va_runV (As := []) (rest := []) ⟨hx, hb, hml, hown, hts⟩ (c_X4_wrong l D cs q s.heap.size M _ hw) (cwV 0 hts gX4_errorPosition_X4_wrong rfl rfl rfl (by decide +kernel) ⟨Nat.le_of_ble_eq_true rfl, Nat.le_of_ble_eq_true rfl⟩) (PC_V hP hD hKK 0 4 rfl rfl) rfl rfl hl.1 rfl (lv_room (Nat.le_of_ble_eq_true rfl)) dX4_errorPosition_1 ⟨Nat.le_of_ble_eq_true rfl, Nat.le_of_ble_eq_true rfl⟩) (fun r1 hw => ?_)
  exact W.iret (v := r1) hx hb hr (fun t ht hW => ⟨r1, rfl, hw, ht⟩) (fun q h => nomatch h) dX4_errorPosition_4 hlocks
set_option maxHeartbeats 4000000 in
set_option maxRecDepth 100000 in
theorem c_X4_errorPosition (l : Launch) (D : va_G) (cs : Nat → ClassId) (q : Nat → Nat) (sz : Nat) (M : MS) (Q : Int32 → Prop) (hw : wp_X4_errorPosition M Q) : Met l yX4_errorPosition wsX4_errorPosition ({ frames := 2, cells := 0, slots := 0, locals := 53 } : Room) (va_Pc [.ref (q 0)] (PC D cs (w_Mod cs q M) sz)) (vp_Si Q) 0 0 (fun _ => False) := by
  refine Met.ofW (cc := cX4_errorPosition) (maxL := 1) (ret := (some .int)) (by decide) rfl ?_
  intro p e s m args below meth c s₁ B hml hv
  obtain ⟨rfl, hsz, hP, hKK, hD0⟩ := hv
  have hC : MAt p s m _ meth c RX4 cX4_errorPosition 1 (some .int) wsX4_errorPosition D cs := ⟨B.exec, B.bytes, B.returns, hml, findClass_of_methodNamed B.named, atoms_spec (ws := wsX4_errorPosition) B.pre, B.notSynchronized, hKK⟩
  have hl := lv_entry ([.ref (q 0)]) (n := 1) (Nat.le_of_ble_eq_true rfl)
  rw [lg_entry_eq]
  generalize (lg_sl ([.ref (q 0)]) ++ List.replicate (1 - (lg_sl ([.ref (q 0)])).length) Slot.unset).toArray = ls at hl ⊢
  exact t_X4_errorPosition hC q M Q hw hP hD0 ls hl
theorem h_X4_X4_load : ∀ w ∈ u_ws RX4 TX4 11, w ∈ wsX4_load := fun _ h => List.mem_cons_of_mem _ (List.mem_append_right _ h)
set_option maxHeartbeats 4000000 in
set_option maxRecDepth 100000 in
theorem t_X4_load_38 {p : Program} {l : Launch} {e : Env} {s : State} {m : MethodId} {args : Array Value} {below : List Frame} {meth : Method} {c : Code} {D : va_G} {cs : Nat → ClassId} {A : Nat → Prop} (hC : MAt p s m args meth c RX4 cX4_load 3 (some .int) wsX4_load D cs) (q : Nat → Nat) (Q : Int32 → MS → Prop) (hA : ∀ q : Nat, s.heap.size ≤ q → A q) : ∀ (n : Nat) (M : MS) (x1 : Int32), wl_X4_load_38 Q n M x1 → ∀ (H : Heap) (locs : List Loc), va_P D vwCl (w_Mod cs q M) H → va_D A (w_Mod cs q M) → va_S A s.heap H locs → ∀ ls : Array Slot, lv_has ls 3 [(0, .ref (q 0)), (1, .int x1)] → W p l e ({ frames := 2, cells := 0, slots := 0, locals := 53 } : Room) s m args below meth c H locs 0 0 (MQ below (va_Qi (fun r (u : MS) => Q r u) (fun (u : MS) t => va_P D vwCl (w_Mod cs q u) t.heap ∧ va_D A (w_Mod cs q u)) A) args s 0 0 A) (F0 m 38 ls []) := by
  obtain ⟨hx, hb, hr, hml, hown, hts, hlocks, hKK⟩ := id hC
  have hK := hKK.1
  intro n
  induction n with
  | zero =>
    intro M x1 hw
    exact False.elim hw
  | succ n ih =>
    intro M x1 hw H locs hP hD hS ls hl
    refine lv_iload_n hx hb dX4_load_38 rfl (lv_at hl 1 rfl) ?_
    refine lv_aload_n hx hb dX4_load_39 rfl (lv_at hl 0 rfl) ?_
    refine va_get (D := D) (ci := 4) (v := .int (M 0 1)) (C := RX4) (T := TX4) (N := 11) hx hb hts (h_X4_X4_load) hown hK hP 0 rfl rfl 2 (by decide) (z_w hts 2 rfl) (fun _ h9 => h9) rfl dX4_load_40 ?_
    refine lv_icmp_ge (tgt := 193) hx hb dX4_load_43 (by decide) (fun c7 => ?_) (fun c7 => ?_)
    · have hw := hw.1 c7
      refine lv_aload_n hx hb dX4_load_193 rfl (lv_at hl 0 rfl) ?_
      refine lv_iconst (v := (0 : Int32)) hx hb dX4_load_194 (by decide) ?_
      refine va_put (D := D) (ci := 4) (v := .int (0 : Int32)) (ty := .int) (C := RX4) (T := TX4) (N := 11) hx hb hts (h_X4_X4_load) tyX4 tyX4_ok nmX4 hown hK hP hD hS 0 rfl rfl 6 (by decide) (z_w hts 6 rfl) (fun _ h9 => h9) rfl (by decide +kernel) rfl rfl (Nat.le_of_ble_eq_true rfl) dX4_load_195 (fun H locs hP hD hS => ?_)
      have hP : va_P D vwCl (w_Mod cs q (zs2 M 0 2 (0 : Int32))) H := hP
      have hD : va_D A (w_Mod cs q (zs2 M 0 2 (0 : Int32))) := hD
      refine lv_aload_n hx hb dX4_load_198 rfl (lv_at hl 0 rfl) ?_
      refine va_get (D := D) (ci := 4) (v := .ref (q 6)) (C := RX4) (T := TX4) (N := 11) hx hb hts (h_X4_X4_load) hown hK hP 0 rfl rfl 8 (by decide) (z_w hts 7 rfl) (fun _ h9 => h9) rfl dX4_load_199 ?_
      refine lv_iconst (v := (0 : Int32)) hx hb dX4_load_202 (by decide) ?_
      refine lv_iconst (v := (0 : Int32)) hx hb dX4_load_203 (by decide) ?_
      obtain ⟨M8, eM8⟩ : ∃ z : MS, z = (zs2 M 0 2 (0 : Int32)) := ⟨_, rfl⟩
      have hw := hw M8 eM8
      rw [← eM8] at hP hD
      refine va_zast hx hb hK hP hD hS 6 1 rfl rfl (show vp_in (0 : Int32) 2 by unfold vp_in; decide) dX4_load_204 (fun H locs hP hD hS => ?_)
      have hP : va_P D vwCl (w_Mod cs q (zr2 M8 6 (upd (M8 6) (0 : Int32).toNatClampNeg (vp_nar .boolean (0 : Int32))))) H := hP
      have hD : va_D A (w_Mod cs q (zr2 M8 6 (upd (M8 6) (0 : Int32).toNatClampNeg (vp_nar .boolean (0 : Int32))))) := hD
      refine lv_aload_n hx hb dX4_load_205 rfl (lv_at hl 0 rfl) ?_
      refine va_get (D := D) (ci := 4) (v := .ref (q 6)) (C := RX4) (T := TX4) (N := 11) hx hb hts (h_X4_X4_load) hown hK hP 0 rfl rfl 8 (by decide) (z_w hts 7 rfl) (fun _ h9 => h9) rfl dX4_load_206 ?_
      refine lv_iconst (v := (1 : Int32)) hx hb dX4_load_209 (by decide) ?_
      refine lv_iconst (v := (0 : Int32)) hx hb dX4_load_210 (by decide) ?_
      obtain ⟨M9, eM9⟩ : ∃ z : MS, z = (zr2 M8 6 (upd (M8 6) (0 : Int32).toNatClampNeg (vp_nar .boolean (0 : Int32)))) := ⟨_, rfl⟩
      have hw := hw M9 eM9
      rw [← eM9] at hP hD
      refine va_zast hx hb hK hP hD hS 6 1 rfl rfl (show vp_in (1 : Int32) 2 by unfold vp_in; decide) dX4_load_211 (fun H locs hP hD hS => ?_)
      have hP : va_P D vwCl (w_Mod cs q (zr2 M9 6 (upd (M9 6) (1 : Int32).toNatClampNeg (vp_nar .boolean (0 : Int32))))) H := hP
      have hD : va_D A (w_Mod cs q (zr2 M9 6 (upd (M9 6) (1 : Int32).toNatClampNeg (vp_nar .boolean (0 : Int32))))) := hD
      refine lv_aload_n hx hb dX4_load_212 rfl (lv_at hl 0 rfl) ?_
      refine va_get (D := D) (ci := 4) (v := .ref (q 2)) (C := RX4) (T := TX4) (N := 11) hx hb hts (h_X4_X4_load) hown hK hP 0 rfl rfl 3 (by decide) (z_w hts 1 rfl) (fun _ h9 => h9) rfl dX4_load_213 ?_
      refine lv_iconst (v := (0 : Int32)) hx hb dX4_load_216 (by decide) ?_
      refine va_iald hx hb hK hP 2 0 rfl rfl (show vp_in (0 : Int32) 336 by unfold vp_in; decide) dX4_load_217 ?_
      exact W.iret (v := M9 2 (0 : Int32).toNatClampNeg) hx hb hr (fun t ht hW => ⟨⟨M9 2 (0 : Int32).toNatClampNeg, (zr2 M9 6 (upd (M9 6) (1 : Int32).toNatClampNeg (vp_nar .boolean (0 : Int32)))), rfl, hw, by rw [ht]; exact hP, hD⟩, hS.F ht⟩) hS.2.2 dX4_load_218 hlocks
    · have hw := hw.2 c7
      refine lv_aload_n hx hb dX4_load_46 rfl (lv_at hl 0 rfl) ?_
      refine va_get (D := D) (ci := 4) (v := .ref (q 2)) (C := RX4) (T := TX4) (N := 11) hx hb hts (h_X4_X4_load) hown hK hP 0 rfl rfl 3 (by decide) (z_w hts 1 rfl) (fun _ h9 => h9) rfl dX4_load_47 ?_
      refine lv_iconst (v := (0 : Int32)) hx hb dX4_load_50 (by decide) ?_
      refine va_iald hx hb hK hP 2 0 rfl rfl (show vp_in (0 : Int32) 336 by unfold vp_in; decide) dX4_load_51 ?_
      refine lv_iconst (v := (1 : Int32)) hx hb dX4_load_52 (by decide) ?_
      refine lv_isub hx hb dX4_load_53 ?_
      refine lv_topi (fun y10 ey10 => ?_)
      have hw := hw y10 ey10
      refine lv_istore_n (lv' := [(2, .int y10), (0, .ref (q 0)), (1, .int x1)]) hx hb dX4_load_54 rfl hl (by decide) rfl (fun ls hl => ?_)
      refine lv_aload_n hx hb dX4_load_55 rfl (lv_at hl 1 rfl) ?_
      refine va_get (D := D) (ci := 4) (v := .ref (q 1)) (C := RX4) (T := TX4) (N := 11) hx hb hts (h_X4_X4_load) hown hK hP 0 rfl rfl 1 (by decide) (z_w hts 3 rfl) (fun _ h9 => h9) rfl dX4_load_56 ?_
      refine lv_iload_n hx hb dX4_load_59 rfl (lv_at hl 2 rfl) ?_
      obtain ⟨h11, hw⟩ := hw
      refine va_iald hx hb hK hP 1 0 rfl rfl h11 dX4_load_60 ?_
      refine lv_i2l (v := (M 1 x1.toNatClampNeg).toInt64) hx hb dX4_load_61 rfl ?_
      refine lv_ldc2 (v := (48 : Int64)) hx hb hown (z_w hts 4 (w := .constantLong RX4 80 (48)) rfl) dX4_load_62 ?_
      refine lv_ldc2 (v := (50 : Int64)) hx hb hown (z_w hts 5 (w := .constantLong RX4 82 (50)) rfl) dX4_load_65 ?_
      have hPc := hP.sub (ws' := ([] : va_W)) [] rfl
      have hDc := hD.sub (ws' := ([] : va_W)) [] (by decide) rfl
      refine z_calli (va_runS (As := [.long ((M 1 x1.toNatClampNeg).toInt64), .long (48 : Int64), .long (50 : Int64)]) (rest := []) ⟨hx, hb, hml, hown, hts⟩ (c_X4_in l D cs  H.size ((M 1 x1.toNatClampNeg).toInt64) (48 : Int64) (50 : Int64) _ hw) (va_cwS 3 hts gX4_load_X4_in rfl rfl rfl (by decide +kernel) ⟨Nat.le_of_ble_eq_true rfl, Nat.le_of_ble_eq_true rfl⟩) (PC_S hPc hDc hKK) rfl rfl hl.1 rfl (lv_room (Nat.le_of_ble_eq_true rfl)) dX4_load_68 ⟨Nat.le_of_ble_eq_true rfl, Nat.le_of_ble_eq_true rfl⟩) (fun r12 hw => ?_)
      obtain ⟨b12, hw⟩ := hw
      refine lv_if_eq (tgt := 94) hx hb dX4_load_71 (by decide) (fun c13 => ?_) (fun c13 => ?_)
      · have hw := hw.1 c13
        refine lv_aload_n hx hb dX4_load_94 rfl (lv_at hl 1 rfl) ?_
        refine va_get (D := D) (ci := 4) (v := .ref (q 1)) (C := RX4) (T := TX4) (N := 11) hx hb hts (h_X4_X4_load) hown hK hP 0 rfl rfl 1 (by decide) (z_w hts 3 rfl) (fun _ h9 => h9) rfl dX4_load_95 ?_
        refine lv_iload_n hx hb dX4_load_98 rfl (lv_at hl 2 rfl) ?_
        obtain ⟨h14, hw⟩ := hw
        refine va_iald hx hb hK hP 1 0 rfl rfl h14 dX4_load_99 ?_
        refine lv_bipush (v := (43 : Int32)) hx hb dX4_load_100 (by decide) ?_
        refine lv_icmp_eq (tgt := 116) hx hb dX4_load_102 (by decide) (fun c15 => ?_) (fun c15 => ?_)
        · have hw := hw.1 c15
          refine lv_aload_n hx hb dX4_load_116 rfl (lv_at hl 1 rfl) ?_
          refine va_get (D := D) (ci := 4) (v := .ref (q 2)) (C := RX4) (T := TX4) (N := 11) hx hb hts (h_X4_X4_load) hown hK hP 0 rfl rfl 3 (by decide) (z_w hts 1 rfl) (fun _ h9 => h9) rfl dX4_load_117 ?_
          refine lv_iload_n hx hb dX4_load_120 rfl (lv_at hl 0 rfl) ?_
          have hPc := hP.sub (ws' := ([] : va_W)) [] rfl
          have hDc := hD.sub (ws' := ([] : va_W)) [] (by decide) rfl
          refine z_calli (va_runS (As := [.int y10]) (rest := [.ref (q 2)]) ⟨hx, hb, hml, hown, hts⟩ (c_X4_at l D cs  H.size y10 _ hw) (va_cwS 1 hts gX4_load_X4_at rfl rfl rfl (by decide +kernel) ⟨Nat.le_of_ble_eq_true rfl, Nat.le_of_ble_eq_true rfl⟩) (PC_S hPc hDc hKK) rfl rfl hl.1 rfl (lv_room (Nat.le_of_ble_eq_true rfl)) dX4_load_121 ⟨Nat.le_of_ble_eq_true rfl, Nat.le_of_ble_eq_true rfl⟩) (fun r16 hw => ?_)
          refine lv_bipush (v := (13 : Int32)) hx hb dX4_load_124 (by decide) ?_
          refine lv_iadd hx hb dX4_load_126 ?_
          refine lv_dup2_11 hx hb dX4_load_127 rfl rfl ?_
          obtain ⟨h17, hw⟩ := hw
          refine va_iald hx hb hK hP 2 0 rfl rfl h17 dX4_load_128 ?_
          refine lv_aload_n hx hb dX4_load_129 rfl (lv_at hl 1 rfl) ?_
          refine va_get (D := D) (ci := 4) (v := .ref (q 1)) (C := RX4) (T := TX4) (N := 11) hx hb hts (h_X4_X4_load) hown hK hP 0 rfl rfl 1 (by decide) (z_w hts 3 rfl) (fun _ h9 => h9) rfl dX4_load_130 ?_
          refine lv_iload_n hx hb dX4_load_133 rfl (lv_at hl 2 rfl) ?_
          obtain ⟨h18, hw⟩ := hw
          refine va_iald hx hb hK hP 1 0 rfl rfl h18 dX4_load_134 ?_
          refine lv_bipush (v := (43 : Int32)) hx hb dX4_load_135 (by decide) ?_
          refine lv_icmp_ne (tgt := 144) hx hb dX4_load_137 (by decide) (fun c19 => ?_) (fun c19 => ?_)
          · have hw := hw.2 c19
            refine lv_iconst (v := (-1 : Int32)) hx hb dX4_load_144 (by decide) ?_
            refine lv_iadd hx hb dX4_load_145 ?_
            obtain ⟨h20, hw⟩ := hw
            refine va_iast hx hb hK hP hD hS 2 0 rfl rfl h20 dX4_load_146 (fun H locs hP hD hS => ?_)
            have hP : va_P D vwCl (w_Mod cs q (zr2 M 2 (upd (M 2) (r16 + (13 : Int32)).toNatClampNeg ((M 2 (r16 + (13 : Int32)).toNatClampNeg) + (-1 : Int32))))) H := hP
            have hD : va_D A (w_Mod cs q (zr2 M 2 (upd (M 2) (r16 + (13 : Int32)).toNatClampNeg ((M 2 (r16 + (13 : Int32)).toNatClampNeg) + (-1 : Int32))))) := hD
            refine lv_goto (tgt := 187) hx hb dX4_load_147 (by decide) ?_
            refine lv_iinc (v := x1 + 1) (lv' := [(1, .int (x1 + 1)), (2, .int y10), (0, .ref (q 0))]) hx hb dX4_load_187 hl (k := 2) rfl rfl (by decide) rfl (fun ls hl => ?_)
            refine lv_goto (tgt := 38) hx hb dX4_load_190 (by decide) ?_
            exact ih _ _ hw _ _ hP hD hS ls (lv_sub hl [2, 0] rfl)
          · have hw := hw.1 c19
            refine lv_iconst (v := (1 : Int32)) hx hb dX4_load_140 (by decide) ?_
            refine lv_goto (tgt := 145) hx hb dX4_load_141 (by decide) ?_
            refine lv_iadd hx hb dX4_load_145 ?_
            obtain ⟨h21, hw⟩ := hw
            refine va_iast hx hb hK hP hD hS 2 0 rfl rfl h21 dX4_load_146 (fun H locs hP hD hS => ?_)
            have hP : va_P D vwCl (w_Mod cs q (zr2 M 2 (upd (M 2) (r16 + (13 : Int32)).toNatClampNeg ((M 2 (r16 + (13 : Int32)).toNatClampNeg) + (1 : Int32))))) H := hP
            have hD : va_D A (w_Mod cs q (zr2 M 2 (upd (M 2) (r16 + (13 : Int32)).toNatClampNeg ((M 2 (r16 + (13 : Int32)).toNatClampNeg) + (1 : Int32))))) := hD
            refine lv_goto (tgt := 187) hx hb dX4_load_147 (by decide) ?_
            refine lv_iinc (v := x1 + 1) (lv' := [(1, .int (x1 + 1)), (2, .int y10), (0, .ref (q 0))]) hx hb dX4_load_187 hl (k := 2) rfl rfl (by decide) rfl (fun ls hl => ?_)
            refine lv_goto (tgt := 38) hx hb dX4_load_190 (by decide) ?_
            exact ih _ _ hw _ _ hP hD hS ls (lv_sub hl [2, 0] rfl)
        · have hw := hw.2 c15
          refine lv_aload_n hx hb dX4_load_105 rfl (lv_at hl 1 rfl) ?_
          refine va_get (D := D) (ci := 4) (v := .ref (q 1)) (C := RX4) (T := TX4) (N := 11) hx hb hts (h_X4_X4_load) hown hK hP 0 rfl rfl 1 (by decide) (z_w hts 3 rfl) (fun _ h9 => h9) rfl dX4_load_106 ?_
          refine lv_iload_n hx hb dX4_load_109 rfl (lv_at hl 2 rfl) ?_
          obtain ⟨h22, hw⟩ := hw
          refine va_iald hx hb hK hP 1 0 rfl rfl h22 dX4_load_110 ?_
          refine lv_bipush (v := (45 : Int32)) hx hb dX4_load_111 (by decide) ?_
          refine lv_icmp_ne (tgt := 150) hx hb dX4_load_113 (by decide) (fun c23 => ?_) (fun c23 => ?_)
          · have hw := hw.2 c23
            refine lv_aload_n hx hb dX4_load_150 rfl (lv_at hl 1 rfl) ?_
            refine va_get (D := D) (ci := 4) (v := .ref (q 2)) (C := RX4) (T := TX4) (N := 11) hx hb hts (h_X4_X4_load) hown hK hP 0 rfl rfl 3 (by decide) (z_w hts 1 rfl) (fun _ h9 => h9) rfl dX4_load_151 ?_
            refine lv_iload_n hx hb dX4_load_154 rfl (lv_at hl 0 rfl) ?_
            have hPc := hP.sub (ws' := ([] : va_W)) [] rfl
            have hDc := hD.sub (ws' := ([] : va_W)) [] (by decide) rfl
            refine z_calli (va_runS (As := [.int y10]) (rest := [.ref (q 2)]) ⟨hx, hb, hml, hown, hts⟩ (c_X4_at l D cs  H.size y10 _ hw) (va_cwS 1 hts gX4_load_X4_at rfl rfl rfl (by decide +kernel) ⟨Nat.le_of_ble_eq_true rfl, Nat.le_of_ble_eq_true rfl⟩) (PC_S hPc hDc hKK) rfl rfl hl.1 rfl (lv_room (Nat.le_of_ble_eq_true rfl)) dX4_load_155 ⟨Nat.le_of_ble_eq_true rfl, Nat.le_of_ble_eq_true rfl⟩) (fun r24 hw => ?_)
            refine lv_iconst (v := (1 : Int32)) hx hb dX4_load_158 (by decide) ?_
            refine lv_iadd hx hb dX4_load_159 ?_
            refine lv_aload_n hx hb dX4_load_160 rfl (lv_at hl 1 rfl) ?_
            refine va_get (D := D) (ci := 4) (v := .ref (q 1)) (C := RX4) (T := TX4) (N := 11) hx hb hts (h_X4_X4_load) hown hK hP 0 rfl rfl 1 (by decide) (z_w hts 3 rfl) (fun _ h9 => h9) rfl dX4_load_161 ?_
            refine lv_iload_n hx hb dX4_load_164 rfl (lv_at hl 2 rfl) ?_
            obtain ⟨h25, hw⟩ := hw
            refine va_iald hx hb hK hP 1 0 rfl rfl h25 dX4_load_165 ?_
            refine lv_bipush (v := (62 : Int32)) hx hb dX4_load_166 (by decide) ?_
            refine lv_icmp_ne (tgt := 175) hx hb dX4_load_168 (by decide) (fun c26 => ?_) (fun c26 => ?_)
            · have hw := hw.2 c26
              refine lv_iconst (v := (0 : Int32)) hx hb dX4_load_175 (by decide) ?_
              obtain ⟨h27, hw⟩ := hw
              refine va_iast hx hb hK hP hD hS 2 0 rfl rfl h27 dX4_load_176 (fun H locs hP hD hS => ?_)
              have hP : va_P D vwCl (w_Mod cs q (zr2 M 2 (upd (M 2) (r24 + (1 : Int32)).toNatClampNeg (0 : Int32)))) H := hP
              have hD : va_D A (w_Mod cs q (zr2 M 2 (upd (M 2) (r24 + (1 : Int32)).toNatClampNeg (0 : Int32)))) := hD
              refine lv_aload_n hx hb dX4_load_177 rfl (lv_at hl 1 rfl) ?_
              refine va_get (D := D) (ci := 4) (v := .ref (q 2)) (C := RX4) (T := TX4) (N := 11) hx hb hts (h_X4_X4_load) hown hK hP 0 rfl rfl 3 (by decide) (z_w hts 1 rfl) (fun _ h9 => h9) rfl dX4_load_178 ?_
              refine lv_iconst (v := (0 : Int32)) hx hb dX4_load_181 (by decide) ?_
              refine lv_dup2_11 hx hb dX4_load_182 rfl rfl ?_
              refine va_iald hx hb hK hP 2 0 rfl rfl (show vp_in (0 : Int32) 336 by unfold vp_in; decide) dX4_load_183 ?_
              refine lv_iconst (v := (1 : Int32)) hx hb dX4_load_184 (by decide) ?_
              refine lv_iadd hx hb dX4_load_185 ?_
              obtain ⟨M28, eM28⟩ : ∃ z : MS, z = (zr2 M 2 (upd (M 2) (r24 + (1 : Int32)).toNatClampNeg (0 : Int32))) := ⟨_, rfl⟩
              have hw := hw M28 eM28
              rw [← eM28] at hP hD
              refine va_iast hx hb hK hP hD hS 2 0 rfl rfl (show vp_in (0 : Int32) 336 by unfold vp_in; decide) dX4_load_186 (fun H locs hP hD hS => ?_)
              have hP : va_P D vwCl (w_Mod cs q (zr2 M28 2 (upd (M28 2) (0 : Int32).toNatClampNeg ((upd (M 2) (r24 + (1 : Int32)).toNatClampNeg (0 : Int32) (0 : Int32).toNatClampNeg) + (1 : Int32))))) H := hP
              have hD : va_D A (w_Mod cs q (zr2 M28 2 (upd (M28 2) (0 : Int32).toNatClampNeg ((upd (M 2) (r24 + (1 : Int32)).toNatClampNeg (0 : Int32) (0 : Int32).toNatClampNeg) + (1 : Int32))))) := hD
              refine lv_iinc (v := x1 + 1) (lv' := [(1, .int (x1 + 1)), (2, .int y10), (0, .ref (q 0))]) hx hb dX4_load_187 hl (k := 2) rfl rfl (by decide) rfl (fun ls hl => ?_)
              refine lv_goto (tgt := 38) hx hb dX4_load_190 (by decide) ?_
              exact ih _ _ hw _ _ hP hD hS ls (lv_sub hl [2, 0] rfl)
            · have hw := hw.1 c26
              refine lv_iconst (v := (1 : Int32)) hx hb dX4_load_171 (by decide) ?_
              refine lv_goto (tgt := 176) hx hb dX4_load_172 (by decide) ?_
              obtain ⟨h29, hw⟩ := hw
              refine va_iast hx hb hK hP hD hS 2 0 rfl rfl h29 dX4_load_176 (fun H locs hP hD hS => ?_)
              have hP : va_P D vwCl (w_Mod cs q (zr2 M 2 (upd (M 2) (r24 + (1 : Int32)).toNatClampNeg (1 : Int32)))) H := hP
              have hD : va_D A (w_Mod cs q (zr2 M 2 (upd (M 2) (r24 + (1 : Int32)).toNatClampNeg (1 : Int32)))) := hD
              refine lv_aload_n hx hb dX4_load_177 rfl (lv_at hl 1 rfl) ?_
              refine va_get (D := D) (ci := 4) (v := .ref (q 2)) (C := RX4) (T := TX4) (N := 11) hx hb hts (h_X4_X4_load) hown hK hP 0 rfl rfl 3 (by decide) (z_w hts 1 rfl) (fun _ h9 => h9) rfl dX4_load_178 ?_
              refine lv_iconst (v := (0 : Int32)) hx hb dX4_load_181 (by decide) ?_
              refine lv_dup2_11 hx hb dX4_load_182 rfl rfl ?_
              refine va_iald hx hb hK hP 2 0 rfl rfl (show vp_in (0 : Int32) 336 by unfold vp_in; decide) dX4_load_183 ?_
              refine lv_iconst (v := (1 : Int32)) hx hb dX4_load_184 (by decide) ?_
              refine lv_iadd hx hb dX4_load_185 ?_
              obtain ⟨M30, eM30⟩ : ∃ z : MS, z = (zr2 M 2 (upd (M 2) (r24 + (1 : Int32)).toNatClampNeg (1 : Int32))) := ⟨_, rfl⟩
              have hw := hw M30 eM30
              rw [← eM30] at hP hD
              refine va_iast hx hb hK hP hD hS 2 0 rfl rfl (show vp_in (0 : Int32) 336 by unfold vp_in; decide) dX4_load_186 (fun H locs hP hD hS => ?_)
              have hP : va_P D vwCl (w_Mod cs q (zr2 M30 2 (upd (M30 2) (0 : Int32).toNatClampNeg ((upd (M 2) (r24 + (1 : Int32)).toNatClampNeg (1 : Int32) (0 : Int32).toNatClampNeg) + (1 : Int32))))) H := hP
              have hD : va_D A (w_Mod cs q (zr2 M30 2 (upd (M30 2) (0 : Int32).toNatClampNeg ((upd (M 2) (r24 + (1 : Int32)).toNatClampNeg (1 : Int32) (0 : Int32).toNatClampNeg) + (1 : Int32))))) := hD
              refine lv_iinc (v := x1 + 1) (lv' := [(1, .int (x1 + 1)), (2, .int y10), (0, .ref (q 0))]) hx hb dX4_load_187 hl (k := 2) rfl rfl (by decide) rfl (fun ls hl => ?_)
              refine lv_goto (tgt := 38) hx hb dX4_load_190 (by decide) ?_
              exact ih _ _ hw _ _ hP hD hS ls (lv_sub hl [2, 0] rfl)
          · have hw := hw.1 c23
            refine lv_aload_n hx hb dX4_load_116 rfl (lv_at hl 1 rfl) ?_
            refine va_get (D := D) (ci := 4) (v := .ref (q 2)) (C := RX4) (T := TX4) (N := 11) hx hb hts (h_X4_X4_load) hown hK hP 0 rfl rfl 3 (by decide) (z_w hts 1 rfl) (fun _ h9 => h9) rfl dX4_load_117 ?_
            refine lv_iload_n hx hb dX4_load_120 rfl (lv_at hl 0 rfl) ?_
            have hPc := hP.sub (ws' := ([] : va_W)) [] rfl
            have hDc := hD.sub (ws' := ([] : va_W)) [] (by decide) rfl
            refine z_calli (va_runS (As := [.int y10]) (rest := [.ref (q 2)]) ⟨hx, hb, hml, hown, hts⟩ (c_X4_at l D cs  H.size y10 _ hw) (va_cwS 1 hts gX4_load_X4_at rfl rfl rfl (by decide +kernel) ⟨Nat.le_of_ble_eq_true rfl, Nat.le_of_ble_eq_true rfl⟩) (PC_S hPc hDc hKK) rfl rfl hl.1 rfl (lv_room (Nat.le_of_ble_eq_true rfl)) dX4_load_121 ⟨Nat.le_of_ble_eq_true rfl, Nat.le_of_ble_eq_true rfl⟩) (fun r31 hw => ?_)
            refine lv_bipush (v := (13 : Int32)) hx hb dX4_load_124 (by decide) ?_
            refine lv_iadd hx hb dX4_load_126 ?_
            refine lv_dup2_11 hx hb dX4_load_127 rfl rfl ?_
            obtain ⟨h32, hw⟩ := hw
            refine va_iald hx hb hK hP 2 0 rfl rfl h32 dX4_load_128 ?_
            refine lv_aload_n hx hb dX4_load_129 rfl (lv_at hl 1 rfl) ?_
            refine va_get (D := D) (ci := 4) (v := .ref (q 1)) (C := RX4) (T := TX4) (N := 11) hx hb hts (h_X4_X4_load) hown hK hP 0 rfl rfl 1 (by decide) (z_w hts 3 rfl) (fun _ h9 => h9) rfl dX4_load_130 ?_
            refine lv_iload_n hx hb dX4_load_133 rfl (lv_at hl 2 rfl) ?_
            obtain ⟨h33, hw⟩ := hw
            refine va_iald hx hb hK hP 1 0 rfl rfl h33 dX4_load_134 ?_
            refine lv_bipush (v := (43 : Int32)) hx hb dX4_load_135 (by decide) ?_
            refine lv_icmp_ne (tgt := 144) hx hb dX4_load_137 (by decide) (fun c34 => ?_) (fun c34 => ?_)
            · have hw := hw.2 c34
              refine lv_iconst (v := (-1 : Int32)) hx hb dX4_load_144 (by decide) ?_
              refine lv_iadd hx hb dX4_load_145 ?_
              obtain ⟨h35, hw⟩ := hw
              refine va_iast hx hb hK hP hD hS 2 0 rfl rfl h35 dX4_load_146 (fun H locs hP hD hS => ?_)
              have hP : va_P D vwCl (w_Mod cs q (zr2 M 2 (upd (M 2) (r31 + (13 : Int32)).toNatClampNeg ((M 2 (r31 + (13 : Int32)).toNatClampNeg) + (-1 : Int32))))) H := hP
              have hD : va_D A (w_Mod cs q (zr2 M 2 (upd (M 2) (r31 + (13 : Int32)).toNatClampNeg ((M 2 (r31 + (13 : Int32)).toNatClampNeg) + (-1 : Int32))))) := hD
              refine lv_goto (tgt := 187) hx hb dX4_load_147 (by decide) ?_
              refine lv_iinc (v := x1 + 1) (lv' := [(1, .int (x1 + 1)), (2, .int y10), (0, .ref (q 0))]) hx hb dX4_load_187 hl (k := 2) rfl rfl (by decide) rfl (fun ls hl => ?_)
              refine lv_goto (tgt := 38) hx hb dX4_load_190 (by decide) ?_
              exact ih _ _ hw _ _ hP hD hS ls (lv_sub hl [2, 0] rfl)
            · have hw := hw.1 c34
              refine lv_iconst (v := (1 : Int32)) hx hb dX4_load_140 (by decide) ?_
              refine lv_goto (tgt := 145) hx hb dX4_load_141 (by decide) ?_
              refine lv_iadd hx hb dX4_load_145 ?_
              obtain ⟨h36, hw⟩ := hw
              refine va_iast hx hb hK hP hD hS 2 0 rfl rfl h36 dX4_load_146 (fun H locs hP hD hS => ?_)
              have hP : va_P D vwCl (w_Mod cs q (zr2 M 2 (upd (M 2) (r31 + (13 : Int32)).toNatClampNeg ((M 2 (r31 + (13 : Int32)).toNatClampNeg) + (1 : Int32))))) H := hP
              have hD : va_D A (w_Mod cs q (zr2 M 2 (upd (M 2) (r31 + (13 : Int32)).toNatClampNeg ((M 2 (r31 + (13 : Int32)).toNatClampNeg) + (1 : Int32))))) := hD
              refine lv_goto (tgt := 187) hx hb dX4_load_147 (by decide) ?_
              refine lv_iinc (v := x1 + 1) (lv' := [(1, .int (x1 + 1)), (2, .int y10), (0, .ref (q 0))]) hx hb dX4_load_187 hl (k := 2) rfl rfl (by decide) rfl (fun ls hl => ?_)
              refine lv_goto (tgt := 38) hx hb dX4_load_190 (by decide) ?_
              exact ih _ _ hw _ _ hP hD hS ls (lv_sub hl [2, 0] rfl)
      · have hw := hw.2 c13
        refine lv_aload_n hx hb dX4_load_74 rfl (lv_at hl 1 rfl) ?_
        refine va_get (D := D) (ci := 4) (v := .ref (q 2)) (C := RX4) (T := TX4) (N := 11) hx hb hts (h_X4_X4_load) hown hK hP 0 rfl rfl 3 (by decide) (z_w hts 1 rfl) (fun _ h9 => h9) rfl dX4_load_75 ?_
        refine lv_iload_n hx hb dX4_load_78 rfl (lv_at hl 0 rfl) ?_
        refine lv_aload_n hx hb dX4_load_79 rfl (lv_at hl 1 rfl) ?_
        refine va_get (D := D) (ci := 4) (v := .ref (q 1)) (C := RX4) (T := TX4) (N := 11) hx hb hts (h_X4_X4_load) hown hK hP 0 rfl rfl 1 (by decide) (z_w hts 3 rfl) (fun _ h9 => h9) rfl dX4_load_80 ?_
        refine lv_iload_n hx hb dX4_load_83 rfl (lv_at hl 2 rfl) ?_
        obtain ⟨h37, hw⟩ := hw
        refine va_iald hx hb hK hP 1 0 rfl rfl h37 dX4_load_84 ?_
        refine lv_bipush (v := (48 : Int32)) hx hb dX4_load_85 (by decide) ?_
        refine lv_isub hx hb dX4_load_87 ?_
        have hPc := hP.sub (ws' := w_Row cs (q 2) 336 (M 2)) [2] rfl
        have hDc := hD.sub (ws' := w_Row cs (q 2) 336 (M 2)) [2] (by decide) rfl
        have hFc := va_free (wc := w_Row cs (q 2) 336 (M 2)) hD hS hA [2] rfl
        refine va_callv (va_runS (As := [.ref (q 2), .int y10, .int ((M 1 x1.toNatClampNeg) - (48 : Int32))]) (rest := []) ⟨hx, hb, hml, hown, hts⟩ (c_X4_shift l D cs (q 2) H.size (M 2) y10 ((M 1 x1.toNatClampNeg) - (48 : Int32)) _ hw) (va_cwS 3 hts gX4_load_X4_shift rfl rfl rfl (by decide +kernel) ⟨Nat.le_of_ble_eq_true rfl, Nat.le_of_ble_eq_true rfl⟩) (PC_S hPc hDc hKK) rfl rfl hl.1 rfl (lv_room (Nat.le_of_ble_eq_true rfl)) dX4_load_88 ⟨Nat.le_of_ble_eq_true rfl, Nat.le_of_ble_eq_true rfl⟩) hS (fun q _ h => hFc q h) hFc (fun u38 t H locs ht hvm hw hB hz1 hk1 hS => ?_)
        obtain ⟨hP1, hD1⟩ := hB
        rw [ht] at hP1
        obtain ⟨hP, hD⟩ := va_join (wr := ([0, 1, 3, 4, 5, 6, 7, 8].filterMap (fun i => (w_Mod cs q M)[i]?))) (w1 := w_Row cs (q 2) 336 u38) hP hD [2] [0, 1, 3, 4, 5, 6, 7, 8] rfl rfl (by decide) (by decide) hk1 hFc hP1 hD1
        have hP : va_P D vwCl (w_Mod cs q (zr2 M 2 u38)) H := hP.sub (ws' := w_Mod cs q (zr2 M 2 u38)) [0, 1, 8, 2, 3, 4, 5, 6, 7] rfl
        have hD : va_D A (w_Mod cs q (zr2 M 2 u38)) := hD.sub (ws' := w_Mod cs q (zr2 M 2 u38)) [0, 1, 8, 2, 3, 4, 5, 6, 7] (by decide) rfl
        refine lv_goto (tgt := 187) hx hb dX4_load_91 (by decide) ?_
        refine lv_iinc (v := x1 + 1) (lv' := [(1, .int (x1 + 1)), (2, .int y10), (0, .ref (q 0))]) hx hb dX4_load_187 hl (k := 2) rfl rfl (by decide) rfl (fun ls hl => ?_)
        refine lv_goto (tgt := 38) hx hb dX4_load_190 (by decide) ?_
        exact ih _ _ hw _ _ hP hD hS ls (lv_sub hl [2, 0] rfl)
set_option maxHeartbeats 4000000 in
set_option maxRecDepth 100000 in
theorem t_X4_load {p : Program} {l : Launch} {e : Env} {s : State} {m : MethodId} {args : Array Value} {below : List Frame} {meth : Method} {c : Code} {D : va_G} {cs : Nat → ClassId} {A : Nat → Prop} (hC : MAt p s m args meth c RX4 cX4_load 3 (some .int) wsX4_load D cs) (q : Nat → Nat) (M : MS) (Q : Int32 → MS → Prop) (hA : ∀ q : Nat, s.heap.size ≤ q → A q) (hw : wp_X4_load M Q) (H : Heap) (locs : List Loc) (hP : va_P D vwCl (w_Mod cs q M) H) (hD : va_D A (w_Mod cs q M)) (hS : va_S A s.heap H locs) (ls : Array Slot) (hl : lv_has ls 3 [(0, .ref (q 0))]) : W p l e ({ frames := 2, cells := 0, slots := 0, locals := 53 } : Room) s m args below meth c H locs 0 0 (MQ below (va_Qi (fun r (u : MS) => Q r u) (fun (u : MS) t => va_P D vwCl (w_Mod cs q u) t.heap ∧ va_D A (w_Mod cs q u)) A) args s 0 0 A) (F0 m 0 ls []) := by
  obtain ⟨hx, hb, hr, hml, hown, hts, hlocks, hKK⟩ := id hC
  have hK := hKK.1
  refine lv_aload_n hx hb dX4_load_0 rfl (lv_at hl 0 rfl) ?_
  refine lv_aload_n hx hb dX4_load_1 rfl (lv_at hl 0 rfl) ?_
  refine z_calli (va_runV (As := []) (rest := [.ref (q 0)]) ⟨hx, hb, hml, hown, hts⟩ (c_X4_wrong l D cs q H.size M _ hw) (cwV 0 hts gX4_load_X4_wrong rfl rfl rfl (by decide +kernel) ⟨Nat.le_of_ble_eq_true rfl, Nat.le_of_ble_eq_true rfl⟩) (PC_V hP hD hKK 0 4 rfl rfl) rfl rfl hl.1 rfl (lv_room (Nat.le_of_ble_eq_true rfl)) dX4_load_2 ⟨Nat.le_of_ble_eq_true rfl, Nat.le_of_ble_eq_true rfl⟩) (fun r1 hw => ?_)
  refine lv_iconst (v := (-1 : Int32)) hx hb dX4_load_5 (by decide) ?_
  refine lv_icmp_ne (tgt := 13) hx hb dX4_load_6 (by decide) (fun c2 => ?_) (fun c2 => ?_)
  · have hw := hw.2 c2
    refine lv_iconst (v := (1 : Int32)) hx hb dX4_load_13 (by decide) ?_
    have hFc := va_free (wc := w_Mod cs q M) hD hS hA [0, 1, 2, 3, 4, 5, 6, 7, 8] rfl
    refine va_calli (va_runV (As := [.int (1 : Int32)]) (rest := []) ⟨hx, hb, hml, hown, hts⟩ (c_X4_refused l D cs q H.size M (1 : Int32) _ hw) (cwV 1 hts gX4_load_X4_refused rfl rfl rfl (by decide +kernel) ⟨Nat.le_of_ble_eq_true rfl, Nat.le_of_ble_eq_true rfl⟩) (PC_V hP hD hKK 0 4 rfl rfl) rfl rfl hl.1 rfl (lv_room (Nat.le_of_ble_eq_true rfl)) dX4_load_14 ⟨Nat.le_of_ble_eq_true rfl, Nat.le_of_ble_eq_true rfl⟩) hS (fun q _ h => hFc q h) hFc (fun r3 u3 t H locs ht hvm hw hB hz1 hk1 hS => ?_)
    obtain ⟨hP1, hD1⟩ := hB
    rw [ht] at hP1
    obtain ⟨b3, hw⟩ := hw
    have hD : va_D A (w_Mod cs q u3) := hD1.weaken (fun k q _ h => hFc q.1 h)
    have hP : va_P D vwCl (w_Mod cs q u3) H := hP1
    refine lv_if_eq (tgt := 22) hx hb dX4_load_17 (by decide) (fun c4 => ?_) (fun c4 => ?_)
    · have hw := hw.1 c4
      refine lv_aload_n hx hb dX4_load_22 rfl (lv_at hl 0 rfl) ?_
      refine va_get (D := D) (ci := 4) (v := .ref (q 2)) (C := RX4) (T := TX4) (N := 11) hx hb hts (h_X4_X4_load) hown hK hP 0 rfl rfl 3 (by decide) (z_w hts 1 rfl) (fun _ h9 => h9) rfl dX4_load_23 ?_
      have hPc := hP.sub (ws' := w_Row cs (q 2) 336 (u3 2)) [2] rfl
      have hDc := hD.sub (ws' := w_Row cs (q 2) 336 (u3 2)) [2] (by decide) rfl
      have hFc := va_free (wc := w_Row cs (q 2) 336 (u3 2)) hD hS hA [2] rfl
      refine va_callv (va_runS (As := [.ref (q 2)]) (rest := []) ⟨hx, hb, hml, hown, hts⟩ (c_X4_begin l D cs (q 2) H.size (u3 2) _ hw) (va_cwS 1 hts gX4_load_X4_begin rfl rfl rfl (by decide +kernel) ⟨Nat.le_of_ble_eq_true rfl, Nat.le_of_ble_eq_true rfl⟩) (PC_S hPc hDc hKK) rfl rfl hl.1 rfl (lv_room (Nat.le_of_ble_eq_true rfl)) dX4_load_26 ⟨Nat.le_of_ble_eq_true rfl, Nat.le_of_ble_eq_true rfl⟩) hS (fun q _ h => hFc q h) hFc (fun u5 t H locs ht hvm hw hB hz1 hk1 hS => ?_)
      obtain ⟨hP1, hD1⟩ := hB
      rw [ht] at hP1
      obtain ⟨hP, hD⟩ := va_join (wr := ([0, 1, 3, 4, 5, 6, 7, 8].filterMap (fun i => (w_Mod cs q u3)[i]?))) (w1 := w_Row cs (q 2) 336 u5) hP hD [2] [0, 1, 3, 4, 5, 6, 7, 8] rfl rfl (by decide) (by decide) hk1 hFc hP1 hD1
      have hP : va_P D vwCl (w_Mod cs q (zr2 u3 2 u5)) H := hP.sub (ws' := w_Mod cs q (zr2 u3 2 u5)) [0, 1, 8, 2, 3, 4, 5, 6, 7] rfl
      have hD : va_D A (w_Mod cs q (zr2 u3 2 u5)) := hD.sub (ws' := w_Mod cs q (zr2 u3 2 u5)) [0, 1, 8, 2, 3, 4, 5, 6, 7] (by decide) rfl
      refine lv_aload_n hx hb dX4_load_29 rfl (lv_at hl 0 rfl) ?_
      refine va_get (D := D) (ci := 4) (v := .ref (q 2)) (C := RX4) (T := TX4) (N := 11) hx hb hts (h_X4_X4_load) hown hK hP 0 rfl rfl 3 (by decide) (z_w hts 1 rfl) (fun _ h9 => h9) rfl dX4_load_30 ?_
      refine lv_iconst (v := (0 : Int32)) hx hb dX4_load_33 (by decide) ?_
      refine lv_iconst (v := (1 : Int32)) hx hb dX4_load_34 (by decide) ?_
      obtain ⟨M6, eM6⟩ : ∃ z : MS, z = (zr2 u3 2 u5) := ⟨_, rfl⟩
      have hw := hw M6 eM6
      rw [← eM6] at hP hD
      refine va_iast hx hb hK hP hD hS 2 0 rfl rfl (show vp_in (0 : Int32) 336 by unfold vp_in; decide) dX4_load_35 (fun H locs hP hD hS => ?_)
      have hP : va_P D vwCl (w_Mod cs q (zr2 M6 2 (upd (M6 2) (0 : Int32).toNatClampNeg (1 : Int32)))) H := hP
      have hD : va_D A (w_Mod cs q (zr2 M6 2 (upd (M6 2) (0 : Int32).toNatClampNeg (1 : Int32)))) := hD
      refine lv_iconst (v := (0 : Int32)) hx hb dX4_load_36 (by decide) ?_
      refine lv_istore_n (lv' := [(1, .int (0 : Int32)), (0, .ref (q 0))]) hx hb dX4_load_37 rfl hl (by decide) rfl (fun ls hl => ?_)
      obtain ⟨n39, hw⟩ := hw
      exact t_X4_load_38 hC q _ hA n39 _ _ hw H locs hP hD hS ls (lv_sub hl [1, 0] rfl)
    · have hw := hw.2 c4
      refine lv_iconst (v := (0 : Int32)) hx hb dX4_load_20 (by decide) ?_
      exact W.iret (v := (0 : Int32)) hx hb hr (fun t ht hW => ⟨⟨(0 : Int32), (u3), rfl, hw, by rw [ht]; exact hP, hD⟩, hS.F ht⟩) hS.2.2 dX4_load_21 hlocks
  · have hw := hw.1 c2
    refine lv_iconst (v := (0 : Int32)) hx hb dX4_load_9 (by decide) ?_
    refine lv_goto (tgt := 14) hx hb dX4_load_10 (by decide) ?_
    have hFc := va_free (wc := w_Mod cs q M) hD hS hA [0, 1, 2, 3, 4, 5, 6, 7, 8] rfl
    refine va_calli (va_runV (As := [.int (0 : Int32)]) (rest := []) ⟨hx, hb, hml, hown, hts⟩ (c_X4_refused l D cs q H.size M (0 : Int32) _ hw) (cwV 1 hts gX4_load_X4_refused rfl rfl rfl (by decide +kernel) ⟨Nat.le_of_ble_eq_true rfl, Nat.le_of_ble_eq_true rfl⟩) (PC_V hP hD hKK 0 4 rfl rfl) rfl rfl hl.1 rfl (lv_room (Nat.le_of_ble_eq_true rfl)) dX4_load_14 ⟨Nat.le_of_ble_eq_true rfl, Nat.le_of_ble_eq_true rfl⟩) hS (fun q _ h => hFc q h) hFc (fun r40 u40 t H locs ht hvm hw hB hz1 hk1 hS => ?_)
    obtain ⟨hP1, hD1⟩ := hB
    rw [ht] at hP1
    obtain ⟨b40, hw⟩ := hw
    have hD : va_D A (w_Mod cs q u40) := hD1.weaken (fun k q _ h => hFc q.1 h)
    have hP : va_P D vwCl (w_Mod cs q u40) H := hP1
    refine lv_if_eq (tgt := 22) hx hb dX4_load_17 (by decide) (fun c41 => ?_) (fun c41 => ?_)
    · have hw := hw.1 c41
      refine lv_aload_n hx hb dX4_load_22 rfl (lv_at hl 0 rfl) ?_
      refine va_get (D := D) (ci := 4) (v := .ref (q 2)) (C := RX4) (T := TX4) (N := 11) hx hb hts (h_X4_X4_load) hown hK hP 0 rfl rfl 3 (by decide) (z_w hts 1 rfl) (fun _ h9 => h9) rfl dX4_load_23 ?_
      have hPc := hP.sub (ws' := w_Row cs (q 2) 336 (u40 2)) [2] rfl
      have hDc := hD.sub (ws' := w_Row cs (q 2) 336 (u40 2)) [2] (by decide) rfl
      have hFc := va_free (wc := w_Row cs (q 2) 336 (u40 2)) hD hS hA [2] rfl
      refine va_callv (va_runS (As := [.ref (q 2)]) (rest := []) ⟨hx, hb, hml, hown, hts⟩ (c_X4_begin l D cs (q 2) H.size (u40 2) _ hw) (va_cwS 1 hts gX4_load_X4_begin rfl rfl rfl (by decide +kernel) ⟨Nat.le_of_ble_eq_true rfl, Nat.le_of_ble_eq_true rfl⟩) (PC_S hPc hDc hKK) rfl rfl hl.1 rfl (lv_room (Nat.le_of_ble_eq_true rfl)) dX4_load_26 ⟨Nat.le_of_ble_eq_true rfl, Nat.le_of_ble_eq_true rfl⟩) hS (fun q _ h => hFc q h) hFc (fun u42 t H locs ht hvm hw hB hz1 hk1 hS => ?_)
      obtain ⟨hP1, hD1⟩ := hB
      rw [ht] at hP1
      obtain ⟨hP, hD⟩ := va_join (wr := ([0, 1, 3, 4, 5, 6, 7, 8].filterMap (fun i => (w_Mod cs q u40)[i]?))) (w1 := w_Row cs (q 2) 336 u42) hP hD [2] [0, 1, 3, 4, 5, 6, 7, 8] rfl rfl (by decide) (by decide) hk1 hFc hP1 hD1
      have hP : va_P D vwCl (w_Mod cs q (zr2 u40 2 u42)) H := hP.sub (ws' := w_Mod cs q (zr2 u40 2 u42)) [0, 1, 8, 2, 3, 4, 5, 6, 7] rfl
      have hD : va_D A (w_Mod cs q (zr2 u40 2 u42)) := hD.sub (ws' := w_Mod cs q (zr2 u40 2 u42)) [0, 1, 8, 2, 3, 4, 5, 6, 7] (by decide) rfl
      refine lv_aload_n hx hb dX4_load_29 rfl (lv_at hl 0 rfl) ?_
      refine va_get (D := D) (ci := 4) (v := .ref (q 2)) (C := RX4) (T := TX4) (N := 11) hx hb hts (h_X4_X4_load) hown hK hP 0 rfl rfl 3 (by decide) (z_w hts 1 rfl) (fun _ h9 => h9) rfl dX4_load_30 ?_
      refine lv_iconst (v := (0 : Int32)) hx hb dX4_load_33 (by decide) ?_
      refine lv_iconst (v := (1 : Int32)) hx hb dX4_load_34 (by decide) ?_
      obtain ⟨M43, eM43⟩ : ∃ z : MS, z = (zr2 u40 2 u42) := ⟨_, rfl⟩
      have hw := hw M43 eM43
      rw [← eM43] at hP hD
      refine va_iast hx hb hK hP hD hS 2 0 rfl rfl (show vp_in (0 : Int32) 336 by unfold vp_in; decide) dX4_load_35 (fun H locs hP hD hS => ?_)
      have hP : va_P D vwCl (w_Mod cs q (zr2 M43 2 (upd (M43 2) (0 : Int32).toNatClampNeg (1 : Int32)))) H := hP
      have hD : va_D A (w_Mod cs q (zr2 M43 2 (upd (M43 2) (0 : Int32).toNatClampNeg (1 : Int32)))) := hD
      refine lv_iconst (v := (0 : Int32)) hx hb dX4_load_36 (by decide) ?_
      refine lv_istore_n (lv' := [(1, .int (0 : Int32)), (0, .ref (q 0))]) hx hb dX4_load_37 rfl hl (by decide) rfl (fun ls hl => ?_)
      obtain ⟨n44, hw⟩ := hw
      exact t_X4_load_38 hC q _ hA n44 _ _ hw H locs hP hD hS ls (lv_sub hl [1, 0] rfl)
    · have hw := hw.2 c41
      refine lv_iconst (v := (0 : Int32)) hx hb dX4_load_20 (by decide) ?_
      exact W.iret (v := (0 : Int32)) hx hb hr (fun t ht hW => ⟨⟨(0 : Int32), (u40), rfl, hw, by rw [ht]; exact hP, hD⟩, hS.F ht⟩) hS.2.2 dX4_load_21 hlocks
set_option maxHeartbeats 4000000 in
set_option maxRecDepth 100000 in
theorem c_X4_load (l : Launch) (D : va_G) (cs : Nat → ClassId) (q : Nat → Nat) (sz : Nat) (M : MS) (Q : Int32 → MS → Prop) (hw : wp_X4_load M Q) : Met l yX4_load wsX4_load ({ frames := 2, cells := 0, slots := 0, locals := 53 } : Room) (va_Pc [.ref (q 0)] (PC D cs (w_Mod cs q M) sz)) (va_Qi (fun r (u : MS) => Q r u) (fun (u : MS) t => va_P D vwCl (w_Mod cs q u) t.heap ∧ va_D (va_A (w_Mod cs q M) sz) (w_Mod cs q u)) (va_A (w_Mod cs q M) sz)) 0 0 (va_A (w_Mod cs q M) sz) := by
  refine Met.ofW (cc := cX4_load) (maxL := 3) (ret := (some .int)) (by decide) rfl ?_
  intro p e s m args below meth c s₁ B hml hv
  obtain ⟨rfl, hsz, hP, hKK, hD0⟩ := hv
  have hC : MAt p s m _ meth c RX4 cX4_load 3 (some .int) wsX4_load D cs := ⟨B.exec, B.bytes, B.returns, hml, findClass_of_methodNamed B.named, atoms_spec (ws := wsX4_load) B.pre, B.notSynchronized, hKK⟩
  have hl := lv_entry ([.ref (q 0)]) (n := 3) (Nat.le_of_ble_eq_true rfl)
  rw [lg_entry_eq]
  generalize (lg_sl ([.ref (q 0)]) ++ List.replicate (3 - (lg_sl ([.ref (q 0)])).length) Slot.unset).toArray = ls at hl ⊢
  subst hsz
  have hD := hD0.self (sz := s.heap.size)
  have hA : ∀ z : Nat, s.heap.size ≤ z → va_A (w_Mod cs q M) s.heap.size z := fun z h => Or.inr h
  exact t_X4_load hC q M Q hA hw s.heap [] hP hD va_S.rf ls hl
theorem h_X4_X4_about : ∀ w ∈ u_ws RX4 TX4 11, w ∈ wsX4_about := fun _ h => List.mem_cons_of_mem _ (List.mem_append_right _ h)
set_option maxHeartbeats 4000000 in
set_option maxRecDepth 100000 in
theorem t_X4_about {p : Program} {l : Launch} {e : Env} {s : State} {m : MethodId} {args : Array Value} {below : List Frame} {meth : Method} {c : Code} {D : va_G} {cs : Nat → ClassId} {A : Nat → Prop} (hC : MAt p s m args meth c RX4 cX4_about 2 (some .int) wsX4_about D cs) (q : Nat → Nat) (M : MS) (x1 : Int32) (Q : Int32 → MS → Prop) (hA : ∀ q : Nat, s.heap.size ≤ q → A q) (hw : wp_X4_about M x1 Q) (H : Heap) (locs : List Loc) (hP : va_P D vwCl (w_Mod cs q M) H) (hD : va_D A (w_Mod cs q M)) (hS : va_S A s.heap H locs) (ls : Array Slot) (hl : lv_has ls 2 [(0, .ref (q 0)), (1, .int x1)]) : W p l e ({ frames := 3, cells := 0, slots := 0, locals := 67 } : Room) s m args below meth c H locs 0 0 (MQ below (va_Qi (fun r (u : MS) => Q r u) (fun (u : MS) t => va_P D vwCl (w_Mod cs q u) t.heap ∧ va_D A (w_Mod cs q u)) A) args s 0 0 A) (F0 m 0 ls []) := by
  obtain ⟨hx, hb, hr, hml, hown, hts, hlocks, hKK⟩ := id hC
  have hK := hKK.1
  refine lv_aload_n hx hb dX4_about_0 rfl (lv_at hl 0 rfl) ?_
  refine lv_iload_n hx hb dX4_about_1 rfl (lv_at hl 1 rfl) ?_
  refine lv_i2l (v := x1.toInt64) hx hb dX4_about_2 rfl ?_
  refine lv_lconst (v := (0 : Int64)) hx hb dX4_about_3 (by decide) ?_
  refine lv_ldc2 (v := (6 : Int64)) hx hb hown (z_w hts 1 (w := .constantLong RX4 95 (6)) rfl) dX4_about_4 ?_
  have hPc := hP.sub (ws' := ([] : va_W)) [] rfl
  have hDc := hD.sub (ws' := ([] : va_W)) [] (by decide) rfl
  refine z_calli (va_runS (As := [.long x1.toInt64, .long (0 : Int64), .long (6 : Int64)]) (rest := [.ref (q 0)]) ⟨hx, hb, hml, hown, hts⟩ (c_X4_in l D cs  H.size x1.toInt64 (0 : Int64) (6 : Int64) _ hw) (va_cwS 3 hts gX4_about_X4_in rfl rfl rfl (by decide +kernel) ⟨Nat.le_of_ble_eq_true rfl, Nat.le_of_ble_eq_true rfl⟩) (PC_S hPc hDc hKK) rfl rfl hl.1 rfl (lv_room (Nat.le_of_ble_eq_true rfl)) dX4_about_7 ⟨Nat.le_of_ble_eq_true rfl, Nat.le_of_ble_eq_true rfl⟩) (fun r1 hw => ?_)
  obtain ⟨b1, hw⟩ := hw
  refine lv_if_eq (tgt := 17) hx hb dX4_about_10 (by decide) (fun c2 => ?_) (fun c2 => ?_)
  · have hw := hw.1 c2
    refine lv_iconst (v := (1 : Int32)) hx hb dX4_about_17 (by decide) ?_
    have hFc := va_free (wc := w_Mod cs q M) hD hS hA [0, 1, 2, 3, 4, 5, 6, 7, 8] rfl
    refine va_calli (va_runV (As := [.int (1 : Int32)]) (rest := []) ⟨hx, hb, hml, hown, hts⟩ (c_X4_refused l D cs q H.size M (1 : Int32) _ hw) (cwV 1 hts gX4_about_X4_refused rfl rfl rfl (by decide +kernel) ⟨Nat.le_of_ble_eq_true rfl, Nat.le_of_ble_eq_true rfl⟩) (PC_V hP hD hKK 0 4 rfl rfl) rfl rfl hl.1 rfl (lv_room (Nat.le_of_ble_eq_true rfl)) dX4_about_18 ⟨Nat.le_of_ble_eq_true rfl, Nat.le_of_ble_eq_true rfl⟩) hS (fun q _ h => hFc q h) hFc (fun r3 u3 t H locs ht hvm hw hB hz1 hk1 hS => ?_)
    obtain ⟨hP1, hD1⟩ := hB
    rw [ht] at hP1
    obtain ⟨b3, hw⟩ := hw
    have hD : va_D A (w_Mod cs q u3) := hD1.weaken (fun k q _ h => hFc q.1 h)
    have hP : va_P D vwCl (w_Mod cs q u3) H := hP1
    refine lv_if_eq (tgt := 26) hx hb dX4_about_21 (by decide) (fun c4 => ?_) (fun c4 => ?_)
    · have hw := hw.1 c4
      refine lv_iload_n hx hb dX4_about_26 rfl (lv_at hl 1 rfl) ?_
      refine lv_iconst (v := (4 : Int32)) hx hb dX4_about_27 (by decide) ?_
      refine lv_icmp_ge (tgt := 40) hx hb dX4_about_28 (by decide) (fun c5 => ?_) (fun c5 => ?_)
      · have hw := hw.1 c5
        refine lv_iload_n hx hb dX4_about_40 rfl (lv_at hl 1 rfl) ?_
        refine lv_iconst (v := (4 : Int32)) hx hb dX4_about_41 (by decide) ?_
        refine lv_icmp_ne (tgt := 55) hx hb dX4_about_42 (by decide) (fun c6 => ?_) (fun c6 => ?_)
        · have hw := hw.2 c6
          refine lv_iload_n hx hb dX4_about_55 rfl (lv_at hl 1 rfl) ?_
          refine lv_iconst (v := (5 : Int32)) hx hb dX4_about_56 (by decide) ?_
          refine lv_icmp_ne (tgt := 70) hx hb dX4_about_57 (by decide) (fun c7 => ?_) (fun c7 => ?_)
          · have hw := hw.2 c7
            refine lv_aload_n hx hb dX4_about_70 rfl (lv_at hl 0 rfl) ?_
            refine va_get (D := D) (ci := 4) (v := .ref (q 2)) (C := RX4) (T := TX4) (N := 11) hx hb hts (h_X4_X4_about) hown hK hP 0 rfl rfl 3 (by decide) (z_w hts 2 rfl) (fun _ h9 => h9) rfl dX4_about_71 ?_
            have hPc := hP.sub (ws' := w_Row cs (q 2) 336 (u3 2)) [2] rfl
            have hDc := hD.sub (ws' := w_Row cs (q 2) 336 (u3 2)) [2] (by decide) rfl
            refine z_calli (va_runS (As := [.ref (q 2)]) (rest := []) ⟨hx, hb, hml, hown, hts⟩ (c_X4_doublesOn l D cs (q 2) H.size (u3 2) _ hw) (va_cwS 1 hts gX4_about_X4_doublesOn rfl rfl rfl (by decide +kernel) ⟨Nat.le_of_ble_eq_true rfl, Nat.le_of_ble_eq_true rfl⟩) (PC_S hPc hDc hKK) rfl rfl hl.1 rfl (lv_room (Nat.le_of_ble_eq_true rfl)) dX4_about_74 ⟨Nat.le_of_ble_eq_true rfl, Nat.le_of_ble_eq_true rfl⟩) (fun r8 hw => ?_)
            exact W.iret (v := r8) hx hb hr (fun t ht hW => ⟨⟨r8, (u3), rfl, hw, by rw [ht]; exact hP, hD⟩, hS.F ht⟩) hS.2.2 dX4_about_77 hlocks
          · have hw := hw.1 c7
            refine lv_aload_n hx hb dX4_about_60 rfl (lv_at hl 0 rfl) ?_
            refine va_get (D := D) (ci := 4) (v := .ref (q 2)) (C := RX4) (T := TX4) (N := 11) hx hb hts (h_X4_X4_about) hown hK hP 0 rfl rfl 3 (by decide) (z_w hts 2 rfl) (fun _ h9 => h9) rfl dX4_about_61 ?_
            have hPc := hP.sub (ws' := w_Row cs (q 2) 336 (u3 2)) [2] rfl
            have hDc := hD.sub (ws' := w_Row cs (q 2) 336 (u3 2)) [2] (by decide) rfl
            refine z_calli (va_runS (As := [.ref (q 2)]) (rest := []) ⟨hx, hb, hml, hown, hts⟩ (c_X4_waitsInAll l D cs (q 2) H.size (u3 2) _ hw) (va_cwS 1 hts gX4_about_X4_waitsInAll rfl rfl rfl (by decide +kernel) ⟨Nat.le_of_ble_eq_true rfl, Nat.le_of_ble_eq_true rfl⟩) (PC_S hPc hDc hKK) rfl rfl hl.1 rfl (lv_room (Nat.le_of_ble_eq_true rfl)) dX4_about_64 ⟨Nat.le_of_ble_eq_true rfl, Nat.le_of_ble_eq_true rfl⟩) (fun r9 hw => ?_)
            refine lv_goto (tgt := 77) hx hb dX4_about_67 (by decide) ?_
            exact W.iret (v := r9) hx hb hr (fun t ht hW => ⟨⟨r9, (u3), rfl, hw, by rw [ht]; exact hP, hD⟩, hS.F ht⟩) hS.2.2 dX4_about_77 hlocks
        · have hw := hw.1 c6
          refine lv_aload_n hx hb dX4_about_45 rfl (lv_at hl 0 rfl) ?_
          refine va_get (D := D) (ci := 4) (v := .ref (q 2)) (C := RX4) (T := TX4) (N := 11) hx hb hts (h_X4_X4_about) hown hK hP 0 rfl rfl 3 (by decide) (z_w hts 2 rfl) (fun _ h9 => h9) rfl dX4_about_46 ?_
          have hPc := hP.sub (ws' := w_Row cs (q 2) 336 (u3 2)) [2] rfl
          have hDc := hD.sub (ws' := w_Row cs (q 2) 336 (u3 2)) [2] (by decide) rfl
          refine z_calli (va_runS (As := [.ref (q 2)]) (rest := []) ⟨hx, hb, hml, hown, hts⟩ (c_X4_settledOn l D cs (q 2) H.size (u3 2) _ hw) (va_cwS 1 hts gX4_about_X4_settledOn rfl rfl rfl (by decide +kernel) ⟨Nat.le_of_ble_eq_true rfl, Nat.le_of_ble_eq_true rfl⟩) (PC_S hPc hDc hKK) rfl rfl hl.1 rfl (lv_room (Nat.le_of_ble_eq_true rfl)) dX4_about_49 ⟨Nat.le_of_ble_eq_true rfl, Nat.le_of_ble_eq_true rfl⟩) (fun r10 hw => ?_)
          refine lv_goto (tgt := 77) hx hb dX4_about_52 (by decide) ?_
          exact W.iret (v := r10) hx hb hr (fun t ht hW => ⟨⟨r10, (u3), rfl, hw, by rw [ht]; exact hP, hD⟩, hS.F ht⟩) hS.2.2 dX4_about_77 hlocks
      · have hw := hw.2 c5
        refine lv_aload_n hx hb dX4_about_31 rfl (lv_at hl 0 rfl) ?_
        refine va_get (D := D) (ci := 4) (v := .ref (q 2)) (C := RX4) (T := TX4) (N := 11) hx hb hts (h_X4_X4_about) hown hK hP 0 rfl rfl 3 (by decide) (z_w hts 2 rfl) (fun _ h9 => h9) rfl dX4_about_32 ?_
        refine lv_iload_n hx hb dX4_about_35 rfl (lv_at hl 1 rfl) ?_
        obtain ⟨h11, hw⟩ := hw
        refine va_iald hx hb hK hP 2 0 rfl rfl h11 dX4_about_36 ?_
        refine lv_goto (tgt := 77) hx hb dX4_about_37 (by decide) ?_
        exact W.iret (v := u3 2 x1.toNatClampNeg) hx hb hr (fun t ht hW => ⟨⟨u3 2 x1.toNatClampNeg, (u3), rfl, hw, by rw [ht]; exact hP, hD⟩, hS.F ht⟩) hS.2.2 dX4_about_77 hlocks
    · have hw := hw.2 c4
      refine lv_iconst (v := (0 : Int32)) hx hb dX4_about_24 (by decide) ?_
      exact W.iret (v := (0 : Int32)) hx hb hr (fun t ht hW => ⟨⟨(0 : Int32), (u3), rfl, hw, by rw [ht]; exact hP, hD⟩, hS.F ht⟩) hS.2.2 dX4_about_25 hlocks
  · have hw := hw.2 c2
    refine lv_iconst (v := (0 : Int32)) hx hb dX4_about_13 (by decide) ?_
    refine lv_goto (tgt := 18) hx hb dX4_about_14 (by decide) ?_
    have hFc := va_free (wc := w_Mod cs q M) hD hS hA [0, 1, 2, 3, 4, 5, 6, 7, 8] rfl
    refine va_calli (va_runV (As := [.int (0 : Int32)]) (rest := []) ⟨hx, hb, hml, hown, hts⟩ (c_X4_refused l D cs q H.size M (0 : Int32) _ hw) (cwV 1 hts gX4_about_X4_refused rfl rfl rfl (by decide +kernel) ⟨Nat.le_of_ble_eq_true rfl, Nat.le_of_ble_eq_true rfl⟩) (PC_V hP hD hKK 0 4 rfl rfl) rfl rfl hl.1 rfl (lv_room (Nat.le_of_ble_eq_true rfl)) dX4_about_18 ⟨Nat.le_of_ble_eq_true rfl, Nat.le_of_ble_eq_true rfl⟩) hS (fun q _ h => hFc q h) hFc (fun r12 u12 t H locs ht hvm hw hB hz1 hk1 hS => ?_)
    obtain ⟨hP1, hD1⟩ := hB
    rw [ht] at hP1
    obtain ⟨b12, hw⟩ := hw
    have hD : va_D A (w_Mod cs q u12) := hD1.weaken (fun k q _ h => hFc q.1 h)
    have hP : va_P D vwCl (w_Mod cs q u12) H := hP1
    refine lv_if_eq (tgt := 26) hx hb dX4_about_21 (by decide) (fun c13 => ?_) (fun c13 => ?_)
    · have hw := hw.1 c13
      refine lv_iload_n hx hb dX4_about_26 rfl (lv_at hl 1 rfl) ?_
      refine lv_iconst (v := (4 : Int32)) hx hb dX4_about_27 (by decide) ?_
      refine lv_icmp_ge (tgt := 40) hx hb dX4_about_28 (by decide) (fun c14 => ?_) (fun c14 => ?_)
      · have hw := hw.1 c14
        refine lv_iload_n hx hb dX4_about_40 rfl (lv_at hl 1 rfl) ?_
        refine lv_iconst (v := (4 : Int32)) hx hb dX4_about_41 (by decide) ?_
        refine lv_icmp_ne (tgt := 55) hx hb dX4_about_42 (by decide) (fun c15 => ?_) (fun c15 => ?_)
        · have hw := hw.2 c15
          refine lv_iload_n hx hb dX4_about_55 rfl (lv_at hl 1 rfl) ?_
          refine lv_iconst (v := (5 : Int32)) hx hb dX4_about_56 (by decide) ?_
          refine lv_icmp_ne (tgt := 70) hx hb dX4_about_57 (by decide) (fun c16 => ?_) (fun c16 => ?_)
          · have hw := hw.2 c16
            refine lv_aload_n hx hb dX4_about_70 rfl (lv_at hl 0 rfl) ?_
            refine va_get (D := D) (ci := 4) (v := .ref (q 2)) (C := RX4) (T := TX4) (N := 11) hx hb hts (h_X4_X4_about) hown hK hP 0 rfl rfl 3 (by decide) (z_w hts 2 rfl) (fun _ h9 => h9) rfl dX4_about_71 ?_
            have hPc := hP.sub (ws' := w_Row cs (q 2) 336 (u12 2)) [2] rfl
            have hDc := hD.sub (ws' := w_Row cs (q 2) 336 (u12 2)) [2] (by decide) rfl
            refine z_calli (va_runS (As := [.ref (q 2)]) (rest := []) ⟨hx, hb, hml, hown, hts⟩ (c_X4_doublesOn l D cs (q 2) H.size (u12 2) _ hw) (va_cwS 1 hts gX4_about_X4_doublesOn rfl rfl rfl (by decide +kernel) ⟨Nat.le_of_ble_eq_true rfl, Nat.le_of_ble_eq_true rfl⟩) (PC_S hPc hDc hKK) rfl rfl hl.1 rfl (lv_room (Nat.le_of_ble_eq_true rfl)) dX4_about_74 ⟨Nat.le_of_ble_eq_true rfl, Nat.le_of_ble_eq_true rfl⟩) (fun r17 hw => ?_)
            exact W.iret (v := r17) hx hb hr (fun t ht hW => ⟨⟨r17, (u12), rfl, hw, by rw [ht]; exact hP, hD⟩, hS.F ht⟩) hS.2.2 dX4_about_77 hlocks
          · have hw := hw.1 c16
            refine lv_aload_n hx hb dX4_about_60 rfl (lv_at hl 0 rfl) ?_
            refine va_get (D := D) (ci := 4) (v := .ref (q 2)) (C := RX4) (T := TX4) (N := 11) hx hb hts (h_X4_X4_about) hown hK hP 0 rfl rfl 3 (by decide) (z_w hts 2 rfl) (fun _ h9 => h9) rfl dX4_about_61 ?_
            have hPc := hP.sub (ws' := w_Row cs (q 2) 336 (u12 2)) [2] rfl
            have hDc := hD.sub (ws' := w_Row cs (q 2) 336 (u12 2)) [2] (by decide) rfl
            refine z_calli (va_runS (As := [.ref (q 2)]) (rest := []) ⟨hx, hb, hml, hown, hts⟩ (c_X4_waitsInAll l D cs (q 2) H.size (u12 2) _ hw) (va_cwS 1 hts gX4_about_X4_waitsInAll rfl rfl rfl (by decide +kernel) ⟨Nat.le_of_ble_eq_true rfl, Nat.le_of_ble_eq_true rfl⟩) (PC_S hPc hDc hKK) rfl rfl hl.1 rfl (lv_room (Nat.le_of_ble_eq_true rfl)) dX4_about_64 ⟨Nat.le_of_ble_eq_true rfl, Nat.le_of_ble_eq_true rfl⟩) (fun r18 hw => ?_)
            refine lv_goto (tgt := 77) hx hb dX4_about_67 (by decide) ?_
            exact W.iret (v := r18) hx hb hr (fun t ht hW => ⟨⟨r18, (u12), rfl, hw, by rw [ht]; exact hP, hD⟩, hS.F ht⟩) hS.2.2 dX4_about_77 hlocks
        · have hw := hw.1 c15
          refine lv_aload_n hx hb dX4_about_45 rfl (lv_at hl 0 rfl) ?_
          refine va_get (D := D) (ci := 4) (v := .ref (q 2)) (C := RX4) (T := TX4) (N := 11) hx hb hts (h_X4_X4_about) hown hK hP 0 rfl rfl 3 (by decide) (z_w hts 2 rfl) (fun _ h9 => h9) rfl dX4_about_46 ?_
          have hPc := hP.sub (ws' := w_Row cs (q 2) 336 (u12 2)) [2] rfl
          have hDc := hD.sub (ws' := w_Row cs (q 2) 336 (u12 2)) [2] (by decide) rfl
          refine z_calli (va_runS (As := [.ref (q 2)]) (rest := []) ⟨hx, hb, hml, hown, hts⟩ (c_X4_settledOn l D cs (q 2) H.size (u12 2) _ hw) (va_cwS 1 hts gX4_about_X4_settledOn rfl rfl rfl (by decide +kernel) ⟨Nat.le_of_ble_eq_true rfl, Nat.le_of_ble_eq_true rfl⟩) (PC_S hPc hDc hKK) rfl rfl hl.1 rfl (lv_room (Nat.le_of_ble_eq_true rfl)) dX4_about_49 ⟨Nat.le_of_ble_eq_true rfl, Nat.le_of_ble_eq_true rfl⟩) (fun r19 hw => ?_)
          refine lv_goto (tgt := 77) hx hb dX4_about_52 (by decide) ?_
          exact W.iret (v := r19) hx hb hr (fun t ht hW => ⟨⟨r19, (u12), rfl, hw, by rw [ht]; exact hP, hD⟩, hS.F ht⟩) hS.2.2 dX4_about_77 hlocks
      · have hw := hw.2 c14
        refine lv_aload_n hx hb dX4_about_31 rfl (lv_at hl 0 rfl) ?_
        refine va_get (D := D) (ci := 4) (v := .ref (q 2)) (C := RX4) (T := TX4) (N := 11) hx hb hts (h_X4_X4_about) hown hK hP 0 rfl rfl 3 (by decide) (z_w hts 2 rfl) (fun _ h9 => h9) rfl dX4_about_32 ?_
        refine lv_iload_n hx hb dX4_about_35 rfl (lv_at hl 1 rfl) ?_
        obtain ⟨h20, hw⟩ := hw
        refine va_iald hx hb hK hP 2 0 rfl rfl h20 dX4_about_36 ?_
        refine lv_goto (tgt := 77) hx hb dX4_about_37 (by decide) ?_
        exact W.iret (v := u12 2 x1.toNatClampNeg) hx hb hr (fun t ht hW => ⟨⟨u12 2 x1.toNatClampNeg, (u12), rfl, hw, by rw [ht]; exact hP, hD⟩, hS.F ht⟩) hS.2.2 dX4_about_77 hlocks
    · have hw := hw.2 c13
      refine lv_iconst (v := (0 : Int32)) hx hb dX4_about_24 (by decide) ?_
      exact W.iret (v := (0 : Int32)) hx hb hr (fun t ht hW => ⟨⟨(0 : Int32), (u12), rfl, hw, by rw [ht]; exact hP, hD⟩, hS.F ht⟩) hS.2.2 dX4_about_25 hlocks
set_option maxHeartbeats 4000000 in
set_option maxRecDepth 100000 in
theorem c_X4_about (l : Launch) (D : va_G) (cs : Nat → ClassId) (q : Nat → Nat) (sz : Nat) (M : MS) (x1 : Int32) (Q : Int32 → MS → Prop) (hw : wp_X4_about M x1 Q) : Met l yX4_about wsX4_about ({ frames := 3, cells := 0, slots := 0, locals := 67 } : Room) (va_Pc [.ref (q 0), .int x1] (PC D cs (w_Mod cs q M) sz)) (va_Qi (fun r (u : MS) => Q r u) (fun (u : MS) t => va_P D vwCl (w_Mod cs q u) t.heap ∧ va_D (va_A (w_Mod cs q M) sz) (w_Mod cs q u)) (va_A (w_Mod cs q M) sz)) 0 0 (va_A (w_Mod cs q M) sz) := by
  refine Met.ofW (cc := cX4_about) (maxL := 2) (ret := (some .int)) (by decide) rfl ?_
  intro p e s m args below meth c s₁ B hml hv
  obtain ⟨rfl, hsz, hP, hKK, hD0⟩ := hv
  have hC : MAt p s m _ meth c RX4 cX4_about 2 (some .int) wsX4_about D cs := ⟨B.exec, B.bytes, B.returns, hml, findClass_of_methodNamed B.named, atoms_spec (ws := wsX4_about) B.pre, B.notSynchronized, hKK⟩
  have hl := lv_entry ([.ref (q 0), .int x1]) (n := 2) (Nat.le_of_ble_eq_true rfl)
  rw [lg_entry_eq]
  generalize (lg_sl ([.ref (q 0), .int x1]) ++ List.replicate (2 - (lg_sl ([.ref (q 0), .int x1])).length) Slot.unset).toArray = ls at hl ⊢
  subst hsz
  have hD := hD0.self (sz := s.heap.size)
  have hA : ∀ z : Nat, s.heap.size ≤ z → va_A (w_Mod cs q M) s.heap.size z := fun z h => Or.inr h
  exact t_X4_about hC q M x1 Q hA hw s.heap [] hP hD va_S.rf ls hl
theorem h_X4_X4_shown : ∀ w ∈ u_ws RX4 TX4 11, w ∈ wsX4_shown := fun _ h => List.mem_cons_of_mem _ (List.mem_append_right _ h)
set_option maxHeartbeats 4000000 in
set_option maxRecDepth 100000 in
theorem t_X4_shown {p : Program} {l : Launch} {e : Env} {s : State} {m : MethodId} {args : Array Value} {below : List Frame} {meth : Method} {c : Code} {D : va_G} {cs : Nat → ClassId} {A : Nat → Prop} (hC : MAt p s m args meth c RX4 cX4_shown 2 (some .int) wsX4_shown D cs) (q : Nat → Nat) (M : MS) (x1 : Int32) (Q : Int32 → MS → Prop) (hA : ∀ q : Nat, s.heap.size ≤ q → A q) (hw : wp_X4_shown M x1 Q) (H : Heap) (locs : List Loc) (hP : va_P D vwCl (w_Mod cs q M) H) (hD : va_D A (w_Mod cs q M)) (hS : va_S A s.heap H locs) (ls : Array Slot) (hl : lv_has ls 2 [(0, .ref (q 0)), (1, .int x1)]) : W p l e ({ frames := 2, cells := 0, slots := 0, locals := 46 } : Room) s m args below meth c H locs 0 0 (MQ below (va_Qi (fun r (u : MS) => Q r u) (fun (u : MS) t => va_P D vwCl (w_Mod cs q u) t.heap ∧ va_D A (w_Mod cs q u)) A) args s 0 0 A) (F0 m 0 ls []) := by
  obtain ⟨hx, hb, hr, hml, hown, hts, hlocks, hKK⟩ := id hC
  have hK := hKK.1
  refine lv_aload_n hx hb dX4_shown_0 rfl (lv_at hl 0 rfl) ?_
  refine lv_aload_n hx hb dX4_shown_1 rfl (lv_at hl 0 rfl) ?_
  refine va_get (D := D) (ci := 4) (v := .ref (q 2)) (C := RX4) (T := TX4) (N := 11) hx hb hts (h_X4_X4_shown) hown hK hP 0 rfl rfl 3 (by decide) (z_w hts 1 rfl) (fun _ h9 => h9) rfl dX4_shown_2 ?_
  refine lv_iload_n hx hb dX4_shown_5 rfl (lv_at hl 1 rfl) ?_
  have hPc := hP.sub (ws' := w_Row cs (q 2) 336 (M 2)) [2] rfl
  have hDc := hD.sub (ws' := w_Row cs (q 2) 336 (M 2)) [2] (by decide) rfl
  refine z_calli (va_runS (As := [.ref (q 2), .int x1]) (rest := [.ref (q 0)]) ⟨hx, hb, hml, hown, hts⟩ (c_X4_isCounter l D cs (q 2) H.size (M 2) x1 _ hw) (va_cwS 2 hts gX4_shown_X4_isCounter rfl rfl rfl (by decide +kernel) ⟨Nat.le_of_ble_eq_true rfl, Nat.le_of_ble_eq_true rfl⟩) (PC_S hPc hDc hKK) rfl rfl hl.1 rfl (lv_room (Nat.le_of_ble_eq_true rfl)) dX4_shown_6 ⟨Nat.le_of_ble_eq_true rfl, Nat.le_of_ble_eq_true rfl⟩) (fun r1 hw => ?_)
  obtain ⟨b1, hw⟩ := hw
  refine lv_if_eq (tgt := 16) hx hb dX4_shown_9 (by decide) (fun c2 => ?_) (fun c2 => ?_)
  · have hw := hw.1 c2
    refine lv_iconst (v := (1 : Int32)) hx hb dX4_shown_16 (by decide) ?_
    have hFc := va_free (wc := w_Mod cs q M) hD hS hA [0, 1, 2, 3, 4, 5, 6, 7, 8] rfl
    refine va_calli (va_runV (As := [.int (1 : Int32)]) (rest := []) ⟨hx, hb, hml, hown, hts⟩ (c_X4_refused l D cs q H.size M (1 : Int32) _ hw) (cwV 1 hts gX4_shown_X4_refused rfl rfl rfl (by decide +kernel) ⟨Nat.le_of_ble_eq_true rfl, Nat.le_of_ble_eq_true rfl⟩) (PC_V hP hD hKK 0 4 rfl rfl) rfl rfl hl.1 rfl (lv_room (Nat.le_of_ble_eq_true rfl)) dX4_shown_17 ⟨Nat.le_of_ble_eq_true rfl, Nat.le_of_ble_eq_true rfl⟩) hS (fun q _ h => hFc q h) hFc (fun r3 u3 t H locs ht hvm hw hB hz1 hk1 hS => ?_)
    obtain ⟨hP1, hD1⟩ := hB
    rw [ht] at hP1
    obtain ⟨b3, hw⟩ := hw
    have hD : va_D A (w_Mod cs q u3) := hD1.weaken (fun k q _ h => hFc q.1 h)
    have hP : va_P D vwCl (w_Mod cs q u3) H := hP1
    refine lv_if_eq (tgt := 25) hx hb dX4_shown_20 (by decide) (fun c4 => ?_) (fun c4 => ?_)
    · have hw := hw.1 c4
      refine lv_aload_n hx hb dX4_shown_25 rfl (lv_at hl 0 rfl) ?_
      refine va_get (D := D) (ci := 4) (v := .ref (q 2)) (C := RX4) (T := TX4) (N := 11) hx hb hts (h_X4_X4_shown) hown hK hP 0 rfl rfl 3 (by decide) (z_w hts 1 rfl) (fun _ h9 => h9) rfl dX4_shown_26 ?_
      refine lv_iload_n hx hb dX4_shown_29 rfl (lv_at hl 1 rfl) ?_
      have hPc := hP.sub (ws' := w_Row cs (q 2) 336 (u3 2)) [2] rfl
      have hDc := hD.sub (ws' := w_Row cs (q 2) 336 (u3 2)) [2] (by decide) rfl
      refine z_calli (va_runS (As := [.ref (q 2), .int x1]) (rest := []) ⟨hx, hb, hml, hown, hts⟩ (c_X4_shownOn l D cs (q 2) H.size (u3 2) x1 _ hw) (va_cwS 2 hts gX4_shown_X4_shownOn rfl rfl rfl (by decide +kernel) ⟨Nat.le_of_ble_eq_true rfl, Nat.le_of_ble_eq_true rfl⟩) (PC_S hPc hDc hKK) rfl rfl hl.1 rfl (lv_room (Nat.le_of_ble_eq_true rfl)) dX4_shown_30 ⟨Nat.le_of_ble_eq_true rfl, Nat.le_of_ble_eq_true rfl⟩) (fun r5 hw => ?_)
      exact W.iret (v := r5) hx hb hr (fun t ht hW => ⟨⟨r5, (u3), rfl, hw, by rw [ht]; exact hP, hD⟩, hS.F ht⟩) hS.2.2 dX4_shown_33 hlocks
    · have hw := hw.2 c4
      refine lv_iconst (v := (0 : Int32)) hx hb dX4_shown_23 (by decide) ?_
      exact W.iret (v := (0 : Int32)) hx hb hr (fun t ht hW => ⟨⟨(0 : Int32), (u3), rfl, hw, by rw [ht]; exact hP, hD⟩, hS.F ht⟩) hS.2.2 dX4_shown_24 hlocks
  · have hw := hw.2 c2
    refine lv_iconst (v := (0 : Int32)) hx hb dX4_shown_12 (by decide) ?_
    refine lv_goto (tgt := 17) hx hb dX4_shown_13 (by decide) ?_
    have hFc := va_free (wc := w_Mod cs q M) hD hS hA [0, 1, 2, 3, 4, 5, 6, 7, 8] rfl
    refine va_calli (va_runV (As := [.int (0 : Int32)]) (rest := []) ⟨hx, hb, hml, hown, hts⟩ (c_X4_refused l D cs q H.size M (0 : Int32) _ hw) (cwV 1 hts gX4_shown_X4_refused rfl rfl rfl (by decide +kernel) ⟨Nat.le_of_ble_eq_true rfl, Nat.le_of_ble_eq_true rfl⟩) (PC_V hP hD hKK 0 4 rfl rfl) rfl rfl hl.1 rfl (lv_room (Nat.le_of_ble_eq_true rfl)) dX4_shown_17 ⟨Nat.le_of_ble_eq_true rfl, Nat.le_of_ble_eq_true rfl⟩) hS (fun q _ h => hFc q h) hFc (fun r6 u6 t H locs ht hvm hw hB hz1 hk1 hS => ?_)
    obtain ⟨hP1, hD1⟩ := hB
    rw [ht] at hP1
    obtain ⟨b6, hw⟩ := hw
    have hD : va_D A (w_Mod cs q u6) := hD1.weaken (fun k q _ h => hFc q.1 h)
    have hP : va_P D vwCl (w_Mod cs q u6) H := hP1
    refine lv_if_eq (tgt := 25) hx hb dX4_shown_20 (by decide) (fun c7 => ?_) (fun c7 => ?_)
    · have hw := hw.1 c7
      refine lv_aload_n hx hb dX4_shown_25 rfl (lv_at hl 0 rfl) ?_
      refine va_get (D := D) (ci := 4) (v := .ref (q 2)) (C := RX4) (T := TX4) (N := 11) hx hb hts (h_X4_X4_shown) hown hK hP 0 rfl rfl 3 (by decide) (z_w hts 1 rfl) (fun _ h9 => h9) rfl dX4_shown_26 ?_
      refine lv_iload_n hx hb dX4_shown_29 rfl (lv_at hl 1 rfl) ?_
      have hPc := hP.sub (ws' := w_Row cs (q 2) 336 (u6 2)) [2] rfl
      have hDc := hD.sub (ws' := w_Row cs (q 2) 336 (u6 2)) [2] (by decide) rfl
      refine z_calli (va_runS (As := [.ref (q 2), .int x1]) (rest := []) ⟨hx, hb, hml, hown, hts⟩ (c_X4_shownOn l D cs (q 2) H.size (u6 2) x1 _ hw) (va_cwS 2 hts gX4_shown_X4_shownOn rfl rfl rfl (by decide +kernel) ⟨Nat.le_of_ble_eq_true rfl, Nat.le_of_ble_eq_true rfl⟩) (PC_S hPc hDc hKK) rfl rfl hl.1 rfl (lv_room (Nat.le_of_ble_eq_true rfl)) dX4_shown_30 ⟨Nat.le_of_ble_eq_true rfl, Nat.le_of_ble_eq_true rfl⟩) (fun r8 hw => ?_)
      exact W.iret (v := r8) hx hb hr (fun t ht hW => ⟨⟨r8, (u6), rfl, hw, by rw [ht]; exact hP, hD⟩, hS.F ht⟩) hS.2.2 dX4_shown_33 hlocks
    · have hw := hw.2 c7
      refine lv_iconst (v := (0 : Int32)) hx hb dX4_shown_23 (by decide) ?_
      exact W.iret (v := (0 : Int32)) hx hb hr (fun t ht hW => ⟨⟨(0 : Int32), (u6), rfl, hw, by rw [ht]; exact hP, hD⟩, hS.F ht⟩) hS.2.2 dX4_shown_24 hlocks
set_option maxHeartbeats 4000000 in
set_option maxRecDepth 100000 in
theorem c_X4_shown (l : Launch) (D : va_G) (cs : Nat → ClassId) (q : Nat → Nat) (sz : Nat) (M : MS) (x1 : Int32) (Q : Int32 → MS → Prop) (hw : wp_X4_shown M x1 Q) : Met l yX4_shown wsX4_shown ({ frames := 2, cells := 0, slots := 0, locals := 46 } : Room) (va_Pc [.ref (q 0), .int x1] (PC D cs (w_Mod cs q M) sz)) (va_Qi (fun r (u : MS) => Q r u) (fun (u : MS) t => va_P D vwCl (w_Mod cs q u) t.heap ∧ va_D (va_A (w_Mod cs q M) sz) (w_Mod cs q u)) (va_A (w_Mod cs q M) sz)) 0 0 (va_A (w_Mod cs q M) sz) := by
  refine Met.ofW (cc := cX4_shown) (maxL := 2) (ret := (some .int)) (by decide) rfl ?_
  intro p e s m args below meth c s₁ B hml hv
  obtain ⟨rfl, hsz, hP, hKK, hD0⟩ := hv
  have hC : MAt p s m _ meth c RX4 cX4_shown 2 (some .int) wsX4_shown D cs := ⟨B.exec, B.bytes, B.returns, hml, findClass_of_methodNamed B.named, atoms_spec (ws := wsX4_shown) B.pre, B.notSynchronized, hKK⟩
  have hl := lv_entry ([.ref (q 0), .int x1]) (n := 2) (Nat.le_of_ble_eq_true rfl)
  rw [lg_entry_eq]
  generalize (lg_sl ([.ref (q 0), .int x1]) ++ List.replicate (2 - (lg_sl ([.ref (q 0), .int x1])).length) Slot.unset).toArray = ls at hl ⊢
  subst hsz
  have hD := hD0.self (sz := s.heap.size)
  have hA : ∀ z : Nat, s.heap.size ≤ z → va_A (w_Mod cs q M) s.heap.size z := fun z h => Or.inr h
  exact t_X4_shown hC q M x1 Q hA hw s.heap [] hP hD va_S.rf ls hl
theorem h_X4_X4_worth : ∀ w ∈ u_ws RX4 TX4 11, w ∈ wsX4_worth := fun _ h => List.mem_cons_of_mem _ (List.mem_append_right _ h)
set_option maxHeartbeats 4000000 in
set_option maxRecDepth 100000 in
theorem t_X4_worth {p : Program} {l : Launch} {e : Env} {s : State} {m : MethodId} {args : Array Value} {below : List Frame} {meth : Method} {c : Code} {D : va_G} {cs : Nat → ClassId} {A : Nat → Prop} (hC : MAt p s m args meth c RX4 cX4_worth 2 (some .long) wsX4_worth D cs) (q : Nat → Nat) (M : MS) (x1 : Int32) (Q : Int64 → MS → Prop) (hA : ∀ q : Nat, s.heap.size ≤ q → A q) (hw : wp_X4_worth M x1 Q) (H : Heap) (locs : List Loc) (hP : va_P D vwCl (w_Mod cs q M) H) (hD : va_D A (w_Mod cs q M)) (hS : va_S A s.heap H locs) (ls : Array Slot) (hl : lv_has ls 2 [(0, .ref (q 0)), (1, .int x1)]) : W p l e ({ frames := 2, cells := 0, slots := 0, locals := 46 } : Room) s m args below meth c H locs 0 0 (MQ below (va_Ql (fun r (u : MS) => Q r u) (fun (u : MS) t => va_P D vwCl (w_Mod cs q u) t.heap ∧ va_D A (w_Mod cs q u)) A) args s 0 0 A) (F0 m 0 ls []) := by
  obtain ⟨hx, hb, hr, hml, hown, hts, hlocks, hKK⟩ := id hC
  have hK := hKK.1
  refine lv_aload_n hx hb dX4_worth_0 rfl (lv_at hl 0 rfl) ?_
  refine lv_aload_n hx hb dX4_worth_1 rfl (lv_at hl 0 rfl) ?_
  refine va_get (D := D) (ci := 4) (v := .ref (q 2)) (C := RX4) (T := TX4) (N := 11) hx hb hts (h_X4_X4_worth) hown hK hP 0 rfl rfl 3 (by decide) (z_w hts 1 rfl) (fun _ h9 => h9) rfl dX4_worth_2 ?_
  refine lv_iload_n hx hb dX4_worth_5 rfl (lv_at hl 1 rfl) ?_
  have hPc := hP.sub (ws' := w_Row cs (q 2) 336 (M 2)) [2] rfl
  have hDc := hD.sub (ws' := w_Row cs (q 2) 336 (M 2)) [2] (by decide) rfl
  refine z_calli (va_runS (As := [.ref (q 2), .int x1]) (rest := [.ref (q 0)]) ⟨hx, hb, hml, hown, hts⟩ (c_X4_isCounter l D cs (q 2) H.size (M 2) x1 _ hw) (va_cwS 2 hts gX4_worth_X4_isCounter rfl rfl rfl (by decide +kernel) ⟨Nat.le_of_ble_eq_true rfl, Nat.le_of_ble_eq_true rfl⟩) (PC_S hPc hDc hKK) rfl rfl hl.1 rfl (lv_room (Nat.le_of_ble_eq_true rfl)) dX4_worth_6 ⟨Nat.le_of_ble_eq_true rfl, Nat.le_of_ble_eq_true rfl⟩) (fun r1 hw => ?_)
  obtain ⟨b1, hw⟩ := hw
  refine lv_if_eq (tgt := 16) hx hb dX4_worth_9 (by decide) (fun c2 => ?_) (fun c2 => ?_)
  · have hw := hw.1 c2
    refine lv_iconst (v := (1 : Int32)) hx hb dX4_worth_16 (by decide) ?_
    have hFc := va_free (wc := w_Mod cs q M) hD hS hA [0, 1, 2, 3, 4, 5, 6, 7, 8] rfl
    refine va_calli (va_runV (As := [.int (1 : Int32)]) (rest := []) ⟨hx, hb, hml, hown, hts⟩ (c_X4_refused l D cs q H.size M (1 : Int32) _ hw) (cwV 1 hts gX4_worth_X4_refused rfl rfl rfl (by decide +kernel) ⟨Nat.le_of_ble_eq_true rfl, Nat.le_of_ble_eq_true rfl⟩) (PC_V hP hD hKK 0 4 rfl rfl) rfl rfl hl.1 rfl (lv_room (Nat.le_of_ble_eq_true rfl)) dX4_worth_17 ⟨Nat.le_of_ble_eq_true rfl, Nat.le_of_ble_eq_true rfl⟩) hS (fun q _ h => hFc q h) hFc (fun r3 u3 t H locs ht hvm hw hB hz1 hk1 hS => ?_)
    obtain ⟨hP1, hD1⟩ := hB
    rw [ht] at hP1
    obtain ⟨b3, hw⟩ := hw
    have hD : va_D A (w_Mod cs q u3) := hD1.weaken (fun k q _ h => hFc q.1 h)
    have hP : va_P D vwCl (w_Mod cs q u3) H := hP1
    refine lv_if_eq (tgt := 25) hx hb dX4_worth_20 (by decide) (fun c4 => ?_) (fun c4 => ?_)
    · have hw := hw.1 c4
      refine lv_aload_n hx hb dX4_worth_25 rfl (lv_at hl 0 rfl) ?_
      refine va_get (D := D) (ci := 4) (v := .ref (q 2)) (C := RX4) (T := TX4) (N := 11) hx hb hts (h_X4_X4_worth) hown hK hP 0 rfl rfl 3 (by decide) (z_w hts 1 rfl) (fun _ h9 => h9) rfl dX4_worth_26 ?_
      refine lv_iload_n hx hb dX4_worth_29 rfl (lv_at hl 1 rfl) ?_
      have hPc := hP.sub (ws' := w_Row cs (q 2) 336 (u3 2)) [2] rfl
      have hDc := hD.sub (ws' := w_Row cs (q 2) 336 (u3 2)) [2] (by decide) rfl
      refine z_calll (va_runS (As := [.ref (q 2), .int x1]) (rest := []) ⟨hx, hb, hml, hown, hts⟩ (c_X4_worthOn l D cs (q 2) H.size (u3 2) x1 _ hw) (va_cwS 2 hts gX4_worth_X4_worthOn rfl rfl rfl (by decide +kernel) ⟨Nat.le_of_ble_eq_true rfl, Nat.le_of_ble_eq_true rfl⟩) (PC_S hPc hDc hKK) rfl rfl hl.1 rfl (lv_room (Nat.le_of_ble_eq_true rfl)) dX4_worth_30 ⟨Nat.le_of_ble_eq_true rfl, Nat.le_of_ble_eq_true rfl⟩) (fun r5 hw => ?_)
      exact W.lret (v := r5) hx hb hr (fun t ht hW => ⟨⟨r5, (u3), rfl, hw, by rw [ht]; exact hP, hD⟩, hS.F ht⟩) hS.2.2 dX4_worth_33 hlocks
    · have hw := hw.2 c4
      refine lv_lconst (v := (0 : Int64)) hx hb dX4_worth_23 (by decide) ?_
      exact W.lret (v := (0 : Int64)) hx hb hr (fun t ht hW => ⟨⟨(0 : Int64), (u3), rfl, hw, by rw [ht]; exact hP, hD⟩, hS.F ht⟩) hS.2.2 dX4_worth_24 hlocks
  · have hw := hw.2 c2
    refine lv_iconst (v := (0 : Int32)) hx hb dX4_worth_12 (by decide) ?_
    refine lv_goto (tgt := 17) hx hb dX4_worth_13 (by decide) ?_
    have hFc := va_free (wc := w_Mod cs q M) hD hS hA [0, 1, 2, 3, 4, 5, 6, 7, 8] rfl
    refine va_calli (va_runV (As := [.int (0 : Int32)]) (rest := []) ⟨hx, hb, hml, hown, hts⟩ (c_X4_refused l D cs q H.size M (0 : Int32) _ hw) (cwV 1 hts gX4_worth_X4_refused rfl rfl rfl (by decide +kernel) ⟨Nat.le_of_ble_eq_true rfl, Nat.le_of_ble_eq_true rfl⟩) (PC_V hP hD hKK 0 4 rfl rfl) rfl rfl hl.1 rfl (lv_room (Nat.le_of_ble_eq_true rfl)) dX4_worth_17 ⟨Nat.le_of_ble_eq_true rfl, Nat.le_of_ble_eq_true rfl⟩) hS (fun q _ h => hFc q h) hFc (fun r6 u6 t H locs ht hvm hw hB hz1 hk1 hS => ?_)
    obtain ⟨hP1, hD1⟩ := hB
    rw [ht] at hP1
    obtain ⟨b6, hw⟩ := hw
    have hD : va_D A (w_Mod cs q u6) := hD1.weaken (fun k q _ h => hFc q.1 h)
    have hP : va_P D vwCl (w_Mod cs q u6) H := hP1
    refine lv_if_eq (tgt := 25) hx hb dX4_worth_20 (by decide) (fun c7 => ?_) (fun c7 => ?_)
    · have hw := hw.1 c7
      refine lv_aload_n hx hb dX4_worth_25 rfl (lv_at hl 0 rfl) ?_
      refine va_get (D := D) (ci := 4) (v := .ref (q 2)) (C := RX4) (T := TX4) (N := 11) hx hb hts (h_X4_X4_worth) hown hK hP 0 rfl rfl 3 (by decide) (z_w hts 1 rfl) (fun _ h9 => h9) rfl dX4_worth_26 ?_
      refine lv_iload_n hx hb dX4_worth_29 rfl (lv_at hl 1 rfl) ?_
      have hPc := hP.sub (ws' := w_Row cs (q 2) 336 (u6 2)) [2] rfl
      have hDc := hD.sub (ws' := w_Row cs (q 2) 336 (u6 2)) [2] (by decide) rfl
      refine z_calll (va_runS (As := [.ref (q 2), .int x1]) (rest := []) ⟨hx, hb, hml, hown, hts⟩ (c_X4_worthOn l D cs (q 2) H.size (u6 2) x1 _ hw) (va_cwS 2 hts gX4_worth_X4_worthOn rfl rfl rfl (by decide +kernel) ⟨Nat.le_of_ble_eq_true rfl, Nat.le_of_ble_eq_true rfl⟩) (PC_S hPc hDc hKK) rfl rfl hl.1 rfl (lv_room (Nat.le_of_ble_eq_true rfl)) dX4_worth_30 ⟨Nat.le_of_ble_eq_true rfl, Nat.le_of_ble_eq_true rfl⟩) (fun r8 hw => ?_)
      exact W.lret (v := r8) hx hb hr (fun t ht hW => ⟨⟨r8, (u6), rfl, hw, by rw [ht]; exact hP, hD⟩, hS.F ht⟩) hS.2.2 dX4_worth_33 hlocks
    · have hw := hw.2 c7
      refine lv_lconst (v := (0 : Int64)) hx hb dX4_worth_23 (by decide) ?_
      exact W.lret (v := (0 : Int64)) hx hb hr (fun t ht hW => ⟨⟨(0 : Int64), (u6), rfl, hw, by rw [ht]; exact hP, hD⟩, hS.F ht⟩) hS.2.2 dX4_worth_24 hlocks
set_option maxHeartbeats 4000000 in
set_option maxRecDepth 100000 in
theorem c_X4_worth (l : Launch) (D : va_G) (cs : Nat → ClassId) (q : Nat → Nat) (sz : Nat) (M : MS) (x1 : Int32) (Q : Int64 → MS → Prop) (hw : wp_X4_worth M x1 Q) : Met l yX4_worth wsX4_worth ({ frames := 2, cells := 0, slots := 0, locals := 46 } : Room) (va_Pc [.ref (q 0), .int x1] (PC D cs (w_Mod cs q M) sz)) (va_Ql (fun r (u : MS) => Q r u) (fun (u : MS) t => va_P D vwCl (w_Mod cs q u) t.heap ∧ va_D (va_A (w_Mod cs q M) sz) (w_Mod cs q u)) (va_A (w_Mod cs q M) sz)) 0 0 (va_A (w_Mod cs q M) sz) := by
  refine Met.ofW (cc := cX4_worth) (maxL := 2) (ret := (some .long)) (by decide) rfl ?_
  intro p e s m args below meth c s₁ B hml hv
  obtain ⟨rfl, hsz, hP, hKK, hD0⟩ := hv
  have hC : MAt p s m _ meth c RX4 cX4_worth 2 (some .long) wsX4_worth D cs := ⟨B.exec, B.bytes, B.returns, hml, findClass_of_methodNamed B.named, atoms_spec (ws := wsX4_worth) B.pre, B.notSynchronized, hKK⟩
  have hl := lv_entry ([.ref (q 0), .int x1]) (n := 2) (Nat.le_of_ble_eq_true rfl)
  rw [lg_entry_eq]
  generalize (lg_sl ([.ref (q 0), .int x1]) ++ List.replicate (2 - (lg_sl ([.ref (q 0), .int x1])).length) Slot.unset).toArray = ls at hl ⊢
  subst hsz
  have hD := hD0.self (sz := s.heap.size)
  have hA : ∀ z : Nat, s.heap.size ≤ z → va_A (w_Mod cs q M) s.heap.size z := fun z h => Or.inr h
  exact t_X4_worth hC q M x1 Q hA hw s.heap [] hP hD va_S.rf ls hl
theorem h_X4_X4_counter : ∀ w ∈ u_ws RX4 TX4 11, w ∈ wsX4_counter := fun _ h => List.mem_cons_of_mem _ (List.mem_append_right _ h)
set_option maxHeartbeats 4000000 in
set_option maxRecDepth 100000 in
theorem t_X4_counter_60 {p : Program} {l : Launch} {e : Env} {s : State} {m : MethodId} {args : Array Value} {below : List Frame} {meth : Method} {c : Code} {D : va_G} {cs : Nat → ClassId} {A : Nat → Prop} (hC : MAt p s m args meth c RX4 cX4_counter 5 (some .int) wsX4_counter D cs) (q : Nat → Nat) (M : MS) (x1 : Int32) (x2 : Int32) (Q : Int32 → MS → Prop) (hA : ∀ q : Nat, s.heap.size ≤ q → A q) : ∀ (n : Nat) (x3 : Int32) (x4 : Int32), wl_X4_counter_60 M x1 x2 Q n x3 x4 → ∀ (H : Heap) (locs : List Loc), va_P D vwCl (w_Mod cs q M) H → va_D A (w_Mod cs q M) → va_S A s.heap H locs → ∀ ls : Array Slot, lv_has ls 5 [(0, .ref (q 0)), (1, .int x1), (2, .int x2), (3, .int x3), (4, .int x4)] → W p l e ({ frames := 2, cells := 0, slots := 0, locals := 46 } : Room) s m args below meth c H locs 0 0 (MQ below (va_Qi (fun r (u : MS) => Q r u) (fun (u : MS) t => va_P D vwCl (w_Mod cs q u) t.heap ∧ va_D A (w_Mod cs q u)) A) args s 0 0 A) (F0 m 60 ls []) := by
  obtain ⟨hx, hb, hr, hml, hown, hts, hlocks, hKK⟩ := id hC
  have hK := hKK.1
  intro n
  induction n with
  | zero =>
    intro x3 x4 hw
    exact False.elim hw
  | succ n ih =>
    intro x3 x4 hw H locs hP hD hS ls hl
    refine lv_iload hx hb dX4_counter_60 (lv_at hl 4 rfl) ?_
    refine lv_aload_n hx hb dX4_counter_62 rfl (lv_at hl 0 rfl) ?_
    refine va_get (D := D) (ci := 4) (v := .ref (q 2)) (C := RX4) (T := TX4) (N := 11) hx hb hts (h_X4_X4_counter) hown hK hP 0 rfl rfl 3 (by decide) (z_w hts 1 rfl) (fun _ h9 => h9) rfl dX4_counter_63 ?_
    refine lv_iload_n hx hb dX4_counter_66 rfl (lv_at hl 1 rfl) ?_
    have hPc := hP.sub (ws' := ([] : va_W)) [] rfl
    have hDc := hD.sub (ws' := ([] : va_W)) [] (by decide) rfl
    refine z_calli (va_runS (As := [.int x1]) (rest := [.ref (q 2), .int x4]) ⟨hx, hb, hml, hown, hts⟩ (c_X4_at l D cs  H.size x1 _ hw) (va_cwS 1 hts gX4_counter_X4_at rfl rfl rfl (by decide +kernel) ⟨Nat.le_of_ble_eq_true rfl, Nat.le_of_ble_eq_true rfl⟩) (PC_S hPc hDc hKK) rfl rfl hl.1 rfl (lv_room (Nat.le_of_ble_eq_true rfl)) dX4_counter_67 ⟨Nat.le_of_ble_eq_true rfl, Nat.le_of_ble_eq_true rfl⟩) (fun r8 hw => ?_)
    refine lv_iconst (v := (0 : Int32)) hx hb dX4_counter_70 (by decide) ?_
    refine lv_iadd hx hb dX4_counter_71 ?_
    obtain ⟨h9, hw⟩ := hw
    refine va_iald hx hb hK hP 2 0 rfl rfl h9 dX4_counter_72 ?_
    refine lv_icmp_ge (tgt := 99) hx hb dX4_counter_73 (by decide) (fun c10 => ?_) (fun c10 => ?_)
    · have hw := hw.1 c10
      refine lv_iload_n hx hb dX4_counter_99 rfl (lv_at hl 2 rfl) ?_
      refine lv_iconst (v := (5 : Int32)) hx hb dX4_counter_100 (by decide) ?_
      refine lv_icmp_ne (tgt := 108) hx hb dX4_counter_101 (by decide) (fun c11 => ?_) (fun c11 => ?_)
      · have hw := hw.2 c11
        refine lv_aload_n hx hb dX4_counter_108 rfl (lv_at hl 0 rfl) ?_
        refine va_get (D := D) (ci := 4) (v := .ref (q 2)) (C := RX4) (T := TX4) (N := 11) hx hb hts (h_X4_X4_counter) hown hK hP 0 rfl rfl 3 (by decide) (z_w hts 1 rfl) (fun _ h9 => h9) rfl dX4_counter_109 ?_
        refine lv_iload_n hx hb dX4_counter_112 rfl (lv_at hl 1 rfl) ?_
        have hPc := hP.sub (ws' := ([] : va_W)) [] rfl
        have hDc := hD.sub (ws' := ([] : va_W)) [] (by decide) rfl
        refine z_calli (va_runS (As := [.int x1]) (rest := [.ref (q 2)]) ⟨hx, hb, hml, hown, hts⟩ (c_X4_at l D cs  H.size x1 _ hw) (va_cwS 1 hts gX4_counter_X4_at rfl rfl rfl (by decide +kernel) ⟨Nat.le_of_ble_eq_true rfl, Nat.le_of_ble_eq_true rfl⟩) (PC_S hPc hDc hKK) rfl rfl hl.1 rfl (lv_room (Nat.le_of_ble_eq_true rfl)) dX4_counter_113 ⟨Nat.le_of_ble_eq_true rfl, Nat.le_of_ble_eq_true rfl⟩) (fun r12 hw => ?_)
        refine lv_iload_n hx hb dX4_counter_116 rfl (lv_at hl 2 rfl) ?_
        refine lv_iadd hx hb dX4_counter_117 ?_
        obtain ⟨h13, hw⟩ := hw
        refine va_iald hx hb hK hP 2 0 rfl rfl h13 dX4_counter_118 ?_
        exact W.iret (v := M 2 (r12 + x2).toNatClampNeg) hx hb hr (fun t ht hW => ⟨⟨M 2 (r12 + x2).toNatClampNeg, (M), rfl, hw, by rw [ht]; exact hP, hD⟩, hS.F ht⟩) hS.2.2 dX4_counter_119 hlocks
      · have hw := hw.1 c11
        refine lv_iload_n hx hb dX4_counter_104 rfl (lv_at hl 3 rfl) ?_
        refine lv_goto (tgt := 119) hx hb dX4_counter_105 (by decide) ?_
        exact W.iret (v := x3) hx hb hr (fun t ht hW => ⟨⟨x3, (M), rfl, hw, by rw [ht]; exact hP, hD⟩, hS.F ht⟩) hS.2.2 dX4_counter_119 hlocks
    · have hw := hw.2 c10
      refine lv_iload_n hx hb dX4_counter_76 rfl (lv_at hl 3 rfl) ?_
      refine lv_aload_n hx hb dX4_counter_77 rfl (lv_at hl 0 rfl) ?_
      refine va_get (D := D) (ci := 4) (v := .ref (q 2)) (C := RX4) (T := TX4) (N := 11) hx hb hts (h_X4_X4_counter) hown hK hP 0 rfl rfl 3 (by decide) (z_w hts 1 rfl) (fun _ h9 => h9) rfl dX4_counter_78 ?_
      refine lv_iload_n hx hb dX4_counter_81 rfl (lv_at hl 1 rfl) ?_
      have hPc := hP.sub (ws' := ([] : va_W)) [] rfl
      have hDc := hD.sub (ws' := ([] : va_W)) [] (by decide) rfl
      refine z_calli (va_runS (As := [.int x1]) (rest := [.ref (q 2), .int x3]) ⟨hx, hb, hml, hown, hts⟩ (c_X4_at l D cs  H.size x1 _ hw) (va_cwS 1 hts gX4_counter_X4_at rfl rfl rfl (by decide +kernel) ⟨Nat.le_of_ble_eq_true rfl, Nat.le_of_ble_eq_true rfl⟩) (PC_S hPc hDc hKK) rfl rfl hl.1 rfl (lv_room (Nat.le_of_ble_eq_true rfl)) dX4_counter_82 ⟨Nat.le_of_ble_eq_true rfl, Nat.le_of_ble_eq_true rfl⟩) (fun r14 hw => ?_)
      refine lv_iconst (v := (4 : Int32)) hx hb dX4_counter_85 (by decide) ?_
      refine lv_iadd hx hb dX4_counter_86 ?_
      refine lv_iload hx hb dX4_counter_87 (lv_at hl 4 rfl) ?_
      refine lv_iadd hx hb dX4_counter_89 ?_
      obtain ⟨h15, hw⟩ := hw
      refine va_iald hx hb hK hP 2 0 rfl rfl h15 dX4_counter_90 ?_
      refine lv_iadd hx hb dX4_counter_91 ?_
      refine lv_topi (fun y16 ey16 => ?_)
      have hw := hw y16 ey16
      refine lv_istore_n (lv' := [(3, .int y16), (0, .ref (q 0)), (1, .int x1), (2, .int x2), (4, .int x4)]) hx hb dX4_counter_92 rfl hl (by decide) rfl (fun ls hl => ?_)
      refine lv_iinc (v := x4 + 1) (lv' := [(4, .int (x4 + 1)), (3, .int y16), (0, .ref (q 0)), (1, .int x1), (2, .int x2)]) hx hb dX4_counter_93 hl (k := 4) rfl rfl (by decide) rfl (fun ls hl => ?_)
      refine lv_goto (tgt := 60) hx hb dX4_counter_96 (by decide) ?_
      exact ih _ _ hw H locs hP hD hS ls (lv_sub hl [2, 3, 4, 1, 0] rfl)
set_option maxHeartbeats 4000000 in
set_option maxRecDepth 100000 in
theorem t_X4_counter {p : Program} {l : Launch} {e : Env} {s : State} {m : MethodId} {args : Array Value} {below : List Frame} {meth : Method} {c : Code} {D : va_G} {cs : Nat → ClassId} {A : Nat → Prop} (hC : MAt p s m args meth c RX4 cX4_counter 5 (some .int) wsX4_counter D cs) (q : Nat → Nat) (M : MS) (x1 : Int32) (x2 : Int32) (Q : Int32 → MS → Prop) (hA : ∀ q : Nat, s.heap.size ≤ q → A q) (hw : wp_X4_counter M x1 x2 Q) (H : Heap) (locs : List Loc) (hP : va_P D vwCl (w_Mod cs q M) H) (hD : va_D A (w_Mod cs q M)) (hS : va_S A s.heap H locs) (ls : Array Slot) (hl : lv_has ls 5 [(0, .ref (q 0)), (1, .int x1), (2, .int x2)]) : W p l e ({ frames := 2, cells := 0, slots := 0, locals := 46 } : Room) s m args below meth c H locs 0 0 (MQ below (va_Qi (fun r (u : MS) => Q r u) (fun (u : MS) t => va_P D vwCl (w_Mod cs q u) t.heap ∧ va_D A (w_Mod cs q u)) A) args s 0 0 A) (F0 m 0 ls []) := by
  obtain ⟨hx, hb, hr, hml, hown, hts, hlocks, hKK⟩ := id hC
  have hK := hKK.1
  refine lv_aload_n hx hb dX4_counter_0 rfl (lv_at hl 0 rfl) ?_
  refine lv_aload_n hx hb dX4_counter_1 rfl (lv_at hl 0 rfl) ?_
  refine va_get (D := D) (ci := 4) (v := .ref (q 2)) (C := RX4) (T := TX4) (N := 11) hx hb hts (h_X4_X4_counter) hown hK hP 0 rfl rfl 3 (by decide) (z_w hts 1 rfl) (fun _ h9 => h9) rfl dX4_counter_2 ?_
  refine lv_iload_n hx hb dX4_counter_5 rfl (lv_at hl 1 rfl) ?_
  have hPc := hP.sub (ws' := w_Row cs (q 2) 336 (M 2)) [2] rfl
  have hDc := hD.sub (ws' := w_Row cs (q 2) 336 (M 2)) [2] (by decide) rfl
  refine z_calli (va_runS (As := [.ref (q 2), .int x1]) (rest := [.ref (q 0)]) ⟨hx, hb, hml, hown, hts⟩ (c_X4_isCounter l D cs (q 2) H.size (M 2) x1 _ hw) (va_cwS 2 hts gX4_counter_X4_isCounter rfl rfl rfl (by decide +kernel) ⟨Nat.le_of_ble_eq_true rfl, Nat.le_of_ble_eq_true rfl⟩) (PC_S hPc hDc hKK) rfl rfl hl.1 rfl (lv_room (Nat.le_of_ble_eq_true rfl)) dX4_counter_6 ⟨Nat.le_of_ble_eq_true rfl, Nat.le_of_ble_eq_true rfl⟩) (fun r1 hw => ?_)
  obtain ⟨b1, hw⟩ := hw
  refine lv_if_ne (tgt := 16) hx hb dX4_counter_9 (by decide) (fun c2 => ?_) (fun c2 => ?_)
  · have hw := hw.2 c2
    refine lv_iload_n hx hb dX4_counter_16 rfl (lv_at hl 2 rfl) ?_
    refine lv_i2l (v := x2.toInt64) hx hb dX4_counter_17 rfl ?_
    refine lv_lconst (v := (0 : Int64)) hx hb dX4_counter_18 (by decide) ?_
    refine lv_ldc2 (v := (5 : Int64)) hx hb hown (z_w hts 2 (w := .constantLong RX4 114 (5)) rfl) dX4_counter_19 ?_
    have hPc := hP.sub (ws' := ([] : va_W)) [] rfl
    have hDc := hD.sub (ws' := ([] : va_W)) [] (by decide) rfl
    refine z_calli (va_runS (As := [.long x2.toInt64, .long (0 : Int64), .long (5 : Int64)]) (rest := [.ref (q 0)]) ⟨hx, hb, hml, hown, hts⟩ (c_X4_in l D cs  H.size x2.toInt64 (0 : Int64) (5 : Int64) _ hw) (va_cwS 3 hts gX4_counter_X4_in rfl rfl rfl (by decide +kernel) ⟨Nat.le_of_ble_eq_true rfl, Nat.le_of_ble_eq_true rfl⟩) (PC_S hPc hDc hKK) rfl rfl hl.1 rfl (lv_room (Nat.le_of_ble_eq_true rfl)) dX4_counter_22 ⟨Nat.le_of_ble_eq_true rfl, Nat.le_of_ble_eq_true rfl⟩) (fun r3 hw => ?_)
    obtain ⟨b3, hw⟩ := hw
    refine lv_if_eq (tgt := 32) hx hb dX4_counter_25 (by decide) (fun c4 => ?_) (fun c4 => ?_)
    · have hw := hw.1 c4
      refine lv_iconst (v := (2 : Int32)) hx hb dX4_counter_32 (by decide) ?_
      have hFc := va_free (wc := w_Mod cs q M) hD hS hA [0, 1, 2, 3, 4, 5, 6, 7, 8] rfl
      refine va_calli (va_runV (As := [.int (2 : Int32)]) (rest := []) ⟨hx, hb, hml, hown, hts⟩ (c_X4_refused l D cs q H.size M (2 : Int32) _ hw) (cwV 1 hts gX4_counter_X4_refused rfl rfl rfl (by decide +kernel) ⟨Nat.le_of_ble_eq_true rfl, Nat.le_of_ble_eq_true rfl⟩) (PC_V hP hD hKK 0 4 rfl rfl) rfl rfl hl.1 rfl (lv_room (Nat.le_of_ble_eq_true rfl)) dX4_counter_33 ⟨Nat.le_of_ble_eq_true rfl, Nat.le_of_ble_eq_true rfl⟩) hS (fun q _ h => hFc q h) hFc (fun r5 u5 t H locs ht hvm hw hB hz1 hk1 hS => ?_)
      obtain ⟨hP1, hD1⟩ := hB
      rw [ht] at hP1
      obtain ⟨b5, hw⟩ := hw
      have hD : va_D A (w_Mod cs q u5) := hD1.weaken (fun k q _ h => hFc q.1 h)
      have hP : va_P D vwCl (w_Mod cs q u5) H := hP1
      refine lv_if_eq (tgt := 41) hx hb dX4_counter_36 (by decide) (fun c6 => ?_) (fun c6 => ?_)
      · have hw := hw.1 c6
        refine lv_iload_n hx hb dX4_counter_41 rfl (lv_at hl 2 rfl) ?_
        refine lv_iconst (v := (4 : Int32)) hx hb dX4_counter_42 (by decide) ?_
        refine lv_icmp_ne (tgt := 55) hx hb dX4_counter_43 (by decide) (fun c7 => ?_) (fun c7 => ?_)
        · have hw := hw.2 c7
          refine lv_iconst (v := (0 : Int32)) hx hb dX4_counter_55 (by decide) ?_
          refine lv_istore_n (lv' := [(3, .int (0 : Int32)), (0, .ref (q 0)), (1, .int x1), (2, .int x2)]) hx hb dX4_counter_56 rfl hl (by decide) rfl (fun ls hl => ?_)
          refine lv_iconst (v := (0 : Int32)) hx hb dX4_counter_57 (by decide) ?_
          refine lv_istore (lv' := [(4, .int (0 : Int32)), (3, .int (0 : Int32)), (0, .ref (q 0)), (1, .int x1), (2, .int x2)]) hx hb dX4_counter_58 hl (by decide) rfl (fun ls hl => ?_)
          obtain ⟨n17, hw⟩ := hw
          exact t_X4_counter_60 hC q _ _ _ _ hA n17 _ _ hw H locs hP hD hS ls (lv_sub hl [2, 3, 4, 1, 0] rfl)
        · have hw := hw.1 c7
          refine lv_aload_n hx hb dX4_counter_46 rfl (lv_at hl 0 rfl) ?_
          refine va_get (D := D) (ci := 4) (v := .ref (q 2)) (C := RX4) (T := TX4) (N := 11) hx hb hts (h_X4_X4_counter) hown hK hP 0 rfl rfl 3 (by decide) (z_w hts 1 rfl) (fun _ h9 => h9) rfl dX4_counter_47 ?_
          refine lv_iload_n hx hb dX4_counter_50 rfl (lv_at hl 1 rfl) ?_
          have hPc := hP.sub (ws' := w_Row cs (q 2) 336 (u5 2)) [2] rfl
          have hDc := hD.sub (ws' := w_Row cs (q 2) 336 (u5 2)) [2] (by decide) rfl
          refine z_calli (va_runS (As := [.ref (q 2), .int x1]) (rest := []) ⟨hx, hb, hml, hown, hts⟩ (c_X4_waitsOn l D cs (q 2) H.size (u5 2) x1 _ hw) (va_cwS 2 hts gX4_counter_X4_waitsOn rfl rfl rfl (by decide +kernel) ⟨Nat.le_of_ble_eq_true rfl, Nat.le_of_ble_eq_true rfl⟩) (PC_S hPc hDc hKK) rfl rfl hl.1 rfl (lv_room (Nat.le_of_ble_eq_true rfl)) dX4_counter_51 ⟨Nat.le_of_ble_eq_true rfl, Nat.le_of_ble_eq_true rfl⟩) (fun r18 hw => ?_)
          exact W.iret (v := r18) hx hb hr (fun t ht hW => ⟨⟨r18, (u5), rfl, hw, by rw [ht]; exact hP, hD⟩, hS.F ht⟩) hS.2.2 dX4_counter_54 hlocks
      · have hw := hw.2 c6
        refine lv_iconst (v := (0 : Int32)) hx hb dX4_counter_39 (by decide) ?_
        exact W.iret (v := (0 : Int32)) hx hb hr (fun t ht hW => ⟨⟨(0 : Int32), (u5), rfl, hw, by rw [ht]; exact hP, hD⟩, hS.F ht⟩) hS.2.2 dX4_counter_40 hlocks
    · have hw := hw.2 c4
      refine lv_iconst (v := (0 : Int32)) hx hb dX4_counter_28 (by decide) ?_
      refine lv_goto (tgt := 33) hx hb dX4_counter_29 (by decide) ?_
      have hFc := va_free (wc := w_Mod cs q M) hD hS hA [0, 1, 2, 3, 4, 5, 6, 7, 8] rfl
      refine va_calli (va_runV (As := [.int (0 : Int32)]) (rest := []) ⟨hx, hb, hml, hown, hts⟩ (c_X4_refused l D cs q H.size M (0 : Int32) _ hw) (cwV 1 hts gX4_counter_X4_refused rfl rfl rfl (by decide +kernel) ⟨Nat.le_of_ble_eq_true rfl, Nat.le_of_ble_eq_true rfl⟩) (PC_V hP hD hKK 0 4 rfl rfl) rfl rfl hl.1 rfl (lv_room (Nat.le_of_ble_eq_true rfl)) dX4_counter_33 ⟨Nat.le_of_ble_eq_true rfl, Nat.le_of_ble_eq_true rfl⟩) hS (fun q _ h => hFc q h) hFc (fun r19 u19 t H locs ht hvm hw hB hz1 hk1 hS => ?_)
      obtain ⟨hP1, hD1⟩ := hB
      rw [ht] at hP1
      obtain ⟨b19, hw⟩ := hw
      have hD : va_D A (w_Mod cs q u19) := hD1.weaken (fun k q _ h => hFc q.1 h)
      have hP : va_P D vwCl (w_Mod cs q u19) H := hP1
      refine lv_if_eq (tgt := 41) hx hb dX4_counter_36 (by decide) (fun c20 => ?_) (fun c20 => ?_)
      · have hw := hw.1 c20
        refine lv_iload_n hx hb dX4_counter_41 rfl (lv_at hl 2 rfl) ?_
        refine lv_iconst (v := (4 : Int32)) hx hb dX4_counter_42 (by decide) ?_
        refine lv_icmp_ne (tgt := 55) hx hb dX4_counter_43 (by decide) (fun c21 => ?_) (fun c21 => ?_)
        · have hw := hw.2 c21
          refine lv_iconst (v := (0 : Int32)) hx hb dX4_counter_55 (by decide) ?_
          refine lv_istore_n (lv' := [(3, .int (0 : Int32)), (0, .ref (q 0)), (1, .int x1), (2, .int x2)]) hx hb dX4_counter_56 rfl hl (by decide) rfl (fun ls hl => ?_)
          refine lv_iconst (v := (0 : Int32)) hx hb dX4_counter_57 (by decide) ?_
          refine lv_istore (lv' := [(4, .int (0 : Int32)), (3, .int (0 : Int32)), (0, .ref (q 0)), (1, .int x1), (2, .int x2)]) hx hb dX4_counter_58 hl (by decide) rfl (fun ls hl => ?_)
          obtain ⟨n22, hw⟩ := hw
          exact t_X4_counter_60 hC q _ _ _ _ hA n22 _ _ hw H locs hP hD hS ls (lv_sub hl [2, 3, 4, 1, 0] rfl)
        · have hw := hw.1 c21
          refine lv_aload_n hx hb dX4_counter_46 rfl (lv_at hl 0 rfl) ?_
          refine va_get (D := D) (ci := 4) (v := .ref (q 2)) (C := RX4) (T := TX4) (N := 11) hx hb hts (h_X4_X4_counter) hown hK hP 0 rfl rfl 3 (by decide) (z_w hts 1 rfl) (fun _ h9 => h9) rfl dX4_counter_47 ?_
          refine lv_iload_n hx hb dX4_counter_50 rfl (lv_at hl 1 rfl) ?_
          have hPc := hP.sub (ws' := w_Row cs (q 2) 336 (u19 2)) [2] rfl
          have hDc := hD.sub (ws' := w_Row cs (q 2) 336 (u19 2)) [2] (by decide) rfl
          refine z_calli (va_runS (As := [.ref (q 2), .int x1]) (rest := []) ⟨hx, hb, hml, hown, hts⟩ (c_X4_waitsOn l D cs (q 2) H.size (u19 2) x1 _ hw) (va_cwS 2 hts gX4_counter_X4_waitsOn rfl rfl rfl (by decide +kernel) ⟨Nat.le_of_ble_eq_true rfl, Nat.le_of_ble_eq_true rfl⟩) (PC_S hPc hDc hKK) rfl rfl hl.1 rfl (lv_room (Nat.le_of_ble_eq_true rfl)) dX4_counter_51 ⟨Nat.le_of_ble_eq_true rfl, Nat.le_of_ble_eq_true rfl⟩) (fun r23 hw => ?_)
          exact W.iret (v := r23) hx hb hr (fun t ht hW => ⟨⟨r23, (u19), rfl, hw, by rw [ht]; exact hP, hD⟩, hS.F ht⟩) hS.2.2 dX4_counter_54 hlocks
      · have hw := hw.2 c20
        refine lv_iconst (v := (0 : Int32)) hx hb dX4_counter_39 (by decide) ?_
        exact W.iret (v := (0 : Int32)) hx hb hr (fun t ht hW => ⟨⟨(0 : Int32), (u19), rfl, hw, by rw [ht]; exact hP, hD⟩, hS.F ht⟩) hS.2.2 dX4_counter_40 hlocks
  · have hw := hw.1 c2
    refine lv_iconst (v := (1 : Int32)) hx hb dX4_counter_12 (by decide) ?_
    refine lv_goto (tgt := 33) hx hb dX4_counter_13 (by decide) ?_
    have hFc := va_free (wc := w_Mod cs q M) hD hS hA [0, 1, 2, 3, 4, 5, 6, 7, 8] rfl
    refine va_calli (va_runV (As := [.int (1 : Int32)]) (rest := []) ⟨hx, hb, hml, hown, hts⟩ (c_X4_refused l D cs q H.size M (1 : Int32) _ hw) (cwV 1 hts gX4_counter_X4_refused rfl rfl rfl (by decide +kernel) ⟨Nat.le_of_ble_eq_true rfl, Nat.le_of_ble_eq_true rfl⟩) (PC_V hP hD hKK 0 4 rfl rfl) rfl rfl hl.1 rfl (lv_room (Nat.le_of_ble_eq_true rfl)) dX4_counter_33 ⟨Nat.le_of_ble_eq_true rfl, Nat.le_of_ble_eq_true rfl⟩) hS (fun q _ h => hFc q h) hFc (fun r24 u24 t H locs ht hvm hw hB hz1 hk1 hS => ?_)
    obtain ⟨hP1, hD1⟩ := hB
    rw [ht] at hP1
    obtain ⟨b24, hw⟩ := hw
    have hD : va_D A (w_Mod cs q u24) := hD1.weaken (fun k q _ h => hFc q.1 h)
    have hP : va_P D vwCl (w_Mod cs q u24) H := hP1
    refine lv_if_eq (tgt := 41) hx hb dX4_counter_36 (by decide) (fun c25 => ?_) (fun c25 => ?_)
    · have hw := hw.1 c25
      refine lv_iload_n hx hb dX4_counter_41 rfl (lv_at hl 2 rfl) ?_
      refine lv_iconst (v := (4 : Int32)) hx hb dX4_counter_42 (by decide) ?_
      refine lv_icmp_ne (tgt := 55) hx hb dX4_counter_43 (by decide) (fun c26 => ?_) (fun c26 => ?_)
      · have hw := hw.2 c26
        refine lv_iconst (v := (0 : Int32)) hx hb dX4_counter_55 (by decide) ?_
        refine lv_istore_n (lv' := [(3, .int (0 : Int32)), (0, .ref (q 0)), (1, .int x1), (2, .int x2)]) hx hb dX4_counter_56 rfl hl (by decide) rfl (fun ls hl => ?_)
        refine lv_iconst (v := (0 : Int32)) hx hb dX4_counter_57 (by decide) ?_
        refine lv_istore (lv' := [(4, .int (0 : Int32)), (3, .int (0 : Int32)), (0, .ref (q 0)), (1, .int x1), (2, .int x2)]) hx hb dX4_counter_58 hl (by decide) rfl (fun ls hl => ?_)
        obtain ⟨n27, hw⟩ := hw
        exact t_X4_counter_60 hC q _ _ _ _ hA n27 _ _ hw H locs hP hD hS ls (lv_sub hl [2, 3, 4, 1, 0] rfl)
      · have hw := hw.1 c26
        refine lv_aload_n hx hb dX4_counter_46 rfl (lv_at hl 0 rfl) ?_
        refine va_get (D := D) (ci := 4) (v := .ref (q 2)) (C := RX4) (T := TX4) (N := 11) hx hb hts (h_X4_X4_counter) hown hK hP 0 rfl rfl 3 (by decide) (z_w hts 1 rfl) (fun _ h9 => h9) rfl dX4_counter_47 ?_
        refine lv_iload_n hx hb dX4_counter_50 rfl (lv_at hl 1 rfl) ?_
        have hPc := hP.sub (ws' := w_Row cs (q 2) 336 (u24 2)) [2] rfl
        have hDc := hD.sub (ws' := w_Row cs (q 2) 336 (u24 2)) [2] (by decide) rfl
        refine z_calli (va_runS (As := [.ref (q 2), .int x1]) (rest := []) ⟨hx, hb, hml, hown, hts⟩ (c_X4_waitsOn l D cs (q 2) H.size (u24 2) x1 _ hw) (va_cwS 2 hts gX4_counter_X4_waitsOn rfl rfl rfl (by decide +kernel) ⟨Nat.le_of_ble_eq_true rfl, Nat.le_of_ble_eq_true rfl⟩) (PC_S hPc hDc hKK) rfl rfl hl.1 rfl (lv_room (Nat.le_of_ble_eq_true rfl)) dX4_counter_51 ⟨Nat.le_of_ble_eq_true rfl, Nat.le_of_ble_eq_true rfl⟩) (fun r28 hw => ?_)
        exact W.iret (v := r28) hx hb hr (fun t ht hW => ⟨⟨r28, (u24), rfl, hw, by rw [ht]; exact hP, hD⟩, hS.F ht⟩) hS.2.2 dX4_counter_54 hlocks
    · have hw := hw.2 c25
      refine lv_iconst (v := (0 : Int32)) hx hb dX4_counter_39 (by decide) ?_
      exact W.iret (v := (0 : Int32)) hx hb hr (fun t ht hW => ⟨⟨(0 : Int32), (u24), rfl, hw, by rw [ht]; exact hP, hD⟩, hS.F ht⟩) hS.2.2 dX4_counter_40 hlocks
set_option maxHeartbeats 4000000 in
set_option maxRecDepth 100000 in
theorem c_X4_counter (l : Launch) (D : va_G) (cs : Nat → ClassId) (q : Nat → Nat) (sz : Nat) (M : MS) (x1 : Int32) (x2 : Int32) (Q : Int32 → MS → Prop) (hw : wp_X4_counter M x1 x2 Q) : Met l yX4_counter wsX4_counter ({ frames := 2, cells := 0, slots := 0, locals := 46 } : Room) (va_Pc [.ref (q 0), .int x1, .int x2] (PC D cs (w_Mod cs q M) sz)) (va_Qi (fun r (u : MS) => Q r u) (fun (u : MS) t => va_P D vwCl (w_Mod cs q u) t.heap ∧ va_D (va_A (w_Mod cs q M) sz) (w_Mod cs q u)) (va_A (w_Mod cs q M) sz)) 0 0 (va_A (w_Mod cs q M) sz) := by
  refine Met.ofW (cc := cX4_counter) (maxL := 5) (ret := (some .int)) (by decide) rfl ?_
  intro p e s m args below meth c s₁ B hml hv
  obtain ⟨rfl, hsz, hP, hKK, hD0⟩ := hv
  have hC : MAt p s m _ meth c RX4 cX4_counter 5 (some .int) wsX4_counter D cs := ⟨B.exec, B.bytes, B.returns, hml, findClass_of_methodNamed B.named, atoms_spec (ws := wsX4_counter) B.pre, B.notSynchronized, hKK⟩
  have hl := lv_entry ([.ref (q 0), .int x1, .int x2]) (n := 5) (Nat.le_of_ble_eq_true rfl)
  rw [lg_entry_eq]
  generalize (lg_sl ([.ref (q 0), .int x1, .int x2]) ++ List.replicate (5 - (lg_sl ([.ref (q 0), .int x1, .int x2])).length) Slot.unset).toArray = ls at hl ⊢
  subst hsz
  have hD := hD0.self (sz := s.heap.size)
  have hA : ∀ z : Nat, s.heap.size ≤ z → va_A (w_Mod cs q M) s.heap.size z := fun z h => Or.inr h
  exact t_X4_counter hC q M x1 x2 Q hA hw s.heap [] hP hD va_S.rf ls hl
theorem h_X4_X4_place : ∀ w ∈ u_ws RX4 TX4 11, w ∈ wsX4_place := fun _ h => List.mem_cons_of_mem _ (List.mem_append_right _ h)
set_option maxHeartbeats 4000000 in
set_option maxRecDepth 100000 in
theorem t_X4_place {p : Program} {l : Launch} {e : Env} {s : State} {m : MethodId} {args : Array Value} {below : List Frame} {meth : Method} {c : Code} {D : va_G} {cs : Nat → ClassId} {A : Nat → Prop} (hC : MAt p s m args meth c RX4 cX4_place 4 (some .int) wsX4_place D cs) (q : Nat → Nat) (M : MS) (x1 : Int32) (x2 : Int32) (x3 : Int32) (Q : Int32 → MS → Prop) (hA : ∀ q : Nat, s.heap.size ≤ q → A q) (hw : wp_X4_place M x1 x2 x3 Q) (H : Heap) (locs : List Loc) (hP : va_P D vwCl (w_Mod cs q M) H) (hD : va_D A (w_Mod cs q M)) (hS : va_S A s.heap H locs) (ls : Array Slot) (hl : lv_has ls 4 [(0, .ref (q 0)), (1, .int x1), (2, .int x2), (3, .int x3)]) : W p l e ({ frames := 2, cells := 0, slots := 0, locals := 46 } : Room) s m args below meth c H locs 0 0 (MQ below (va_Qi (fun r (u : MS) => Q r u) (fun (u : MS) t => va_P D vwCl (w_Mod cs q u) t.heap ∧ va_D A (w_Mod cs q u)) A) args s 0 0 A) (F0 m 0 ls []) := by
  obtain ⟨hx, hb, hr, hml, hown, hts, hlocks, hKK⟩ := id hC
  have hK := hKK.1
  refine lv_aload_n hx hb dX4_place_0 rfl (lv_at hl 0 rfl) ?_
  refine lv_aload_n hx hb dX4_place_1 rfl (lv_at hl 0 rfl) ?_
  refine va_get (D := D) (ci := 4) (v := .ref (q 2)) (C := RX4) (T := TX4) (N := 11) hx hb hts (h_X4_X4_place) hown hK hP 0 rfl rfl 3 (by decide) (z_w hts 1 rfl) (fun _ h9 => h9) rfl dX4_place_2 ?_
  refine lv_iload_n hx hb dX4_place_5 rfl (lv_at hl 1 rfl) ?_
  have hPc := hP.sub (ws' := w_Row cs (q 2) 336 (M 2)) [2] rfl
  have hDc := hD.sub (ws' := w_Row cs (q 2) 336 (M 2)) [2] (by decide) rfl
  refine z_calli (va_runS (As := [.ref (q 2), .int x1]) (rest := [.ref (q 0)]) ⟨hx, hb, hml, hown, hts⟩ (c_X4_isCounter l D cs (q 2) H.size (M 2) x1 _ hw) (va_cwS 2 hts gX4_place_X4_isCounter rfl rfl rfl (by decide +kernel) ⟨Nat.le_of_ble_eq_true rfl, Nat.le_of_ble_eq_true rfl⟩) (PC_S hPc hDc hKK) rfl rfl hl.1 rfl (lv_room (Nat.le_of_ble_eq_true rfl)) dX4_place_6 ⟨Nat.le_of_ble_eq_true rfl, Nat.le_of_ble_eq_true rfl⟩) (fun r1 hw => ?_)
  obtain ⟨b1, hw⟩ := hw
  refine lv_if_eq (tgt := 35) hx hb dX4_place_9 (by decide) (fun c2 => ?_) (fun c2 => ?_)
  · have hw := hw.1 c2
    refine lv_iconst (v := (1 : Int32)) hx hb dX4_place_35 (by decide) ?_
    refine lv_goto (tgt := 54) hx hb dX4_place_36 (by decide) ?_
    have hFc := va_free (wc := w_Mod cs q M) hD hS hA [0, 1, 2, 3, 4, 5, 6, 7, 8] rfl
    refine va_calli (va_runV (As := [.int (1 : Int32)]) (rest := []) ⟨hx, hb, hml, hown, hts⟩ (c_X4_refused l D cs q H.size M (1 : Int32) _ hw) (cwV 1 hts gX4_place_X4_refused rfl rfl rfl (by decide +kernel) ⟨Nat.le_of_ble_eq_true rfl, Nat.le_of_ble_eq_true rfl⟩) (PC_V hP hD hKK 0 4 rfl rfl) rfl rfl hl.1 rfl (lv_room (Nat.le_of_ble_eq_true rfl)) dX4_place_54 ⟨Nat.le_of_ble_eq_true rfl, Nat.le_of_ble_eq_true rfl⟩) hS (fun q _ h => hFc q h) hFc (fun r3 u3 t H locs ht hvm hw hB hz1 hk1 hS => ?_)
    obtain ⟨hP1, hD1⟩ := hB
    rw [ht] at hP1
    obtain ⟨b3, hw⟩ := hw
    have hD : va_D A (w_Mod cs q u3) := hD1.weaken (fun k q _ h => hFc q.1 h)
    have hP : va_P D vwCl (w_Mod cs q u3) H := hP1
    refine lv_if_eq (tgt := 62) hx hb dX4_place_57 (by decide) (fun c4 => ?_) (fun c4 => ?_)
    · have hw := hw.1 c4
      refine lv_aload_n hx hb dX4_place_62 rfl (lv_at hl 0 rfl) ?_
      refine va_get (D := D) (ci := 4) (v := .ref (q 2)) (C := RX4) (T := TX4) (N := 11) hx hb hts (h_X4_X4_place) hown hK hP 0 rfl rfl 3 (by decide) (z_w hts 1 rfl) (fun _ h9 => h9) rfl dX4_place_63 ?_
      refine lv_iload_n hx hb dX4_place_66 rfl (lv_at hl 1 rfl) ?_
      have hPc := hP.sub (ws' := ([] : va_W)) [] rfl
      have hDc := hD.sub (ws' := ([] : va_W)) [] (by decide) rfl
      refine z_calli (va_runS (As := [.int x1]) (rest := [.ref (q 2)]) ⟨hx, hb, hml, hown, hts⟩ (c_X4_at l D cs  H.size x1 _ hw) (va_cwS 1 hts gX4_place_X4_at rfl rfl rfl (by decide +kernel) ⟨Nat.le_of_ble_eq_true rfl, Nat.le_of_ble_eq_true rfl⟩) (PC_S hPc hDc hKK) rfl rfl hl.1 rfl (lv_room (Nat.le_of_ble_eq_true rfl)) dX4_place_67 ⟨Nat.le_of_ble_eq_true rfl, Nat.le_of_ble_eq_true rfl⟩) (fun r5 hw => ?_)
      refine lv_iload_n hx hb dX4_place_70 rfl (lv_at hl 3 rfl) ?_
      refine lv_if_ne (tgt := 78) hx hb dX4_place_71 (by decide) (fun c6 => ?_) (fun c6 => ?_)
      · have hw := hw.2 c6
        refine lv_bipush (v := (13 : Int32)) hx hb dX4_place_78 (by decide) ?_
        refine lv_iadd hx hb dX4_place_80 ?_
        refine lv_iload_n hx hb dX4_place_81 rfl (lv_at hl 2 rfl) ?_
        refine lv_iadd hx hb dX4_place_82 ?_
        obtain ⟨h7, hw⟩ := hw
        refine va_iald hx hb hK hP 2 0 rfl rfl h7 dX4_place_83 ?_
        exact W.iret (v := u3 2 ((r5 + (13 : Int32)) + x2).toNatClampNeg) hx hb hr (fun t ht hW => ⟨⟨u3 2 ((r5 + (13 : Int32)) + x2).toNatClampNeg, (u3), rfl, hw, by rw [ht]; exact hP, hD⟩, hS.F ht⟩) hS.2.2 dX4_place_84 hlocks
      · have hw := hw.1 c6
        refine lv_iconst (v := (4 : Int32)) hx hb dX4_place_74 (by decide) ?_
        refine lv_goto (tgt := 80) hx hb dX4_place_75 (by decide) ?_
        refine lv_iadd hx hb dX4_place_80 ?_
        refine lv_iload_n hx hb dX4_place_81 rfl (lv_at hl 2 rfl) ?_
        refine lv_iadd hx hb dX4_place_82 ?_
        obtain ⟨h8, hw⟩ := hw
        refine va_iald hx hb hK hP 2 0 rfl rfl h8 dX4_place_83 ?_
        exact W.iret (v := u3 2 ((r5 + (4 : Int32)) + x2).toNatClampNeg) hx hb hr (fun t ht hW => ⟨⟨u3 2 ((r5 + (4 : Int32)) + x2).toNatClampNeg, (u3), rfl, hw, by rw [ht]; exact hP, hD⟩, hS.F ht⟩) hS.2.2 dX4_place_84 hlocks
    · have hw := hw.2 c4
      refine lv_iconst (v := (0 : Int32)) hx hb dX4_place_60 (by decide) ?_
      exact W.iret (v := (0 : Int32)) hx hb hr (fun t ht hW => ⟨⟨(0 : Int32), (u3), rfl, hw, by rw [ht]; exact hP, hD⟩, hS.F ht⟩) hS.2.2 dX4_place_61 hlocks
  · have hw := hw.2 c2
    refine lv_iload_n hx hb dX4_place_12 rfl (lv_at hl 2 rfl) ?_
    refine lv_i2l (v := x2.toInt64) hx hb dX4_place_13 rfl ?_
    refine lv_lconst (v := (0 : Int64)) hx hb dX4_place_14 (by decide) ?_
    refine lv_aload_n hx hb dX4_place_15 rfl (lv_at hl 0 rfl) ?_
    refine va_get (D := D) (ci := 4) (v := .ref (q 2)) (C := RX4) (T := TX4) (N := 11) hx hb hts (h_X4_X4_place) hown hK hP 0 rfl rfl 3 (by decide) (z_w hts 1 rfl) (fun _ h9 => h9) rfl dX4_place_16 ?_
    refine lv_iload_n hx hb dX4_place_19 rfl (lv_at hl 1 rfl) ?_
    have hPc := hP.sub (ws' := ([] : va_W)) [] rfl
    have hDc := hD.sub (ws' := ([] : va_W)) [] (by decide) rfl
    refine z_calli (va_runS (As := [.int x1]) (rest := [.ref (q 2), .long (0 : Int64), .long x2.toInt64, .ref (q 0)]) ⟨hx, hb, hml, hown, hts⟩ (c_X4_at l D cs  H.size x1 _ hw) (va_cwS 1 hts gX4_place_X4_at rfl rfl rfl (by decide +kernel) ⟨Nat.le_of_ble_eq_true rfl, Nat.le_of_ble_eq_true rfl⟩) (PC_S hPc hDc hKK) rfl rfl hl.1 rfl (lv_room (Nat.le_of_ble_eq_true rfl)) dX4_place_20 ⟨Nat.le_of_ble_eq_true rfl, Nat.le_of_ble_eq_true rfl⟩) (fun r9 hw => ?_)
    refine lv_iconst (v := (0 : Int32)) hx hb dX4_place_23 (by decide) ?_
    refine lv_iadd hx hb dX4_place_24 ?_
    obtain ⟨h10, hw⟩ := hw
    refine va_iald hx hb hK hP 2 0 rfl rfl h10 dX4_place_25 ?_
    refine lv_iconst (v := (1 : Int32)) hx hb dX4_place_26 (by decide) ?_
    refine lv_isub hx hb dX4_place_27 ?_
    refine lv_i2l (v := ((M 2 (r9 + (0 : Int32)).toNatClampNeg) - (1 : Int32)).toInt64) hx hb dX4_place_28 rfl ?_
    have hPc := hP.sub (ws' := ([] : va_W)) [] rfl
    have hDc := hD.sub (ws' := ([] : va_W)) [] (by decide) rfl
    refine z_calli (va_runS (As := [.long x2.toInt64, .long (0 : Int64), .long (((M 2 (r9 + (0 : Int32)).toNatClampNeg) - (1 : Int32)).toInt64)]) (rest := [.ref (q 0)]) ⟨hx, hb, hml, hown, hts⟩ (c_X4_in l D cs  H.size x2.toInt64 (0 : Int64) (((M 2 (r9 + (0 : Int32)).toNatClampNeg) - (1 : Int32)).toInt64) _ hw) (va_cwS 3 hts gX4_place_X4_in rfl rfl rfl (by decide +kernel) ⟨Nat.le_of_ble_eq_true rfl, Nat.le_of_ble_eq_true rfl⟩) (PC_S hPc hDc hKK) rfl rfl hl.1 rfl (lv_room (Nat.le_of_ble_eq_true rfl)) dX4_place_29 ⟨Nat.le_of_ble_eq_true rfl, Nat.le_of_ble_eq_true rfl⟩) (fun r11 hw => ?_)
    obtain ⟨b11, hw⟩ := hw
    refine lv_if_ne (tgt := 39) hx hb dX4_place_32 (by decide) (fun c12 => ?_) (fun c12 => ?_)
    · have hw := hw.2 c12
      refine lv_iload_n hx hb dX4_place_39 rfl (lv_at hl 3 rfl) ?_
      refine lv_i2l (v := x3.toInt64) hx hb dX4_place_40 rfl ?_
      refine lv_lconst (v := (0 : Int64)) hx hb dX4_place_41 (by decide) ?_
      refine lv_lconst (v := (1 : Int64)) hx hb dX4_place_42 (by decide) ?_
      have hPc := hP.sub (ws' := ([] : va_W)) [] rfl
      have hDc := hD.sub (ws' := ([] : va_W)) [] (by decide) rfl
      refine z_calli (va_runS (As := [.long x3.toInt64, .long (0 : Int64), .long (1 : Int64)]) (rest := [.ref (q 0)]) ⟨hx, hb, hml, hown, hts⟩ (c_X4_in l D cs  H.size x3.toInt64 (0 : Int64) (1 : Int64) _ hw) (va_cwS 3 hts gX4_place_X4_in rfl rfl rfl (by decide +kernel) ⟨Nat.le_of_ble_eq_true rfl, Nat.le_of_ble_eq_true rfl⟩) (PC_S hPc hDc hKK) rfl rfl hl.1 rfl (lv_room (Nat.le_of_ble_eq_true rfl)) dX4_place_43 ⟨Nat.le_of_ble_eq_true rfl, Nat.le_of_ble_eq_true rfl⟩) (fun r13 hw => ?_)
      obtain ⟨b13, hw⟩ := hw
      refine lv_if_eq (tgt := 53) hx hb dX4_place_46 (by decide) (fun c14 => ?_) (fun c14 => ?_)
      · have hw := hw.1 c14
        refine lv_iconst (v := (2 : Int32)) hx hb dX4_place_53 (by decide) ?_
        have hFc := va_free (wc := w_Mod cs q M) hD hS hA [0, 1, 2, 3, 4, 5, 6, 7, 8] rfl
        refine va_calli (va_runV (As := [.int (2 : Int32)]) (rest := []) ⟨hx, hb, hml, hown, hts⟩ (c_X4_refused l D cs q H.size M (2 : Int32) _ hw) (cwV 1 hts gX4_place_X4_refused rfl rfl rfl (by decide +kernel) ⟨Nat.le_of_ble_eq_true rfl, Nat.le_of_ble_eq_true rfl⟩) (PC_V hP hD hKK 0 4 rfl rfl) rfl rfl hl.1 rfl (lv_room (Nat.le_of_ble_eq_true rfl)) dX4_place_54 ⟨Nat.le_of_ble_eq_true rfl, Nat.le_of_ble_eq_true rfl⟩) hS (fun q _ h => hFc q h) hFc (fun r15 u15 t H locs ht hvm hw hB hz1 hk1 hS => ?_)
        obtain ⟨hP1, hD1⟩ := hB
        rw [ht] at hP1
        obtain ⟨b15, hw⟩ := hw
        have hD : va_D A (w_Mod cs q u15) := hD1.weaken (fun k q _ h => hFc q.1 h)
        have hP : va_P D vwCl (w_Mod cs q u15) H := hP1
        refine lv_if_eq (tgt := 62) hx hb dX4_place_57 (by decide) (fun c16 => ?_) (fun c16 => ?_)
        · have hw := hw.1 c16
          refine lv_aload_n hx hb dX4_place_62 rfl (lv_at hl 0 rfl) ?_
          refine va_get (D := D) (ci := 4) (v := .ref (q 2)) (C := RX4) (T := TX4) (N := 11) hx hb hts (h_X4_X4_place) hown hK hP 0 rfl rfl 3 (by decide) (z_w hts 1 rfl) (fun _ h9 => h9) rfl dX4_place_63 ?_
          refine lv_iload_n hx hb dX4_place_66 rfl (lv_at hl 1 rfl) ?_
          have hPc := hP.sub (ws' := ([] : va_W)) [] rfl
          have hDc := hD.sub (ws' := ([] : va_W)) [] (by decide) rfl
          refine z_calli (va_runS (As := [.int x1]) (rest := [.ref (q 2)]) ⟨hx, hb, hml, hown, hts⟩ (c_X4_at l D cs  H.size x1 _ hw) (va_cwS 1 hts gX4_place_X4_at rfl rfl rfl (by decide +kernel) ⟨Nat.le_of_ble_eq_true rfl, Nat.le_of_ble_eq_true rfl⟩) (PC_S hPc hDc hKK) rfl rfl hl.1 rfl (lv_room (Nat.le_of_ble_eq_true rfl)) dX4_place_67 ⟨Nat.le_of_ble_eq_true rfl, Nat.le_of_ble_eq_true rfl⟩) (fun r17 hw => ?_)
          refine lv_iload_n hx hb dX4_place_70 rfl (lv_at hl 3 rfl) ?_
          refine lv_if_ne (tgt := 78) hx hb dX4_place_71 (by decide) (fun c18 => ?_) (fun c18 => ?_)
          · have hw := hw.2 c18
            refine lv_bipush (v := (13 : Int32)) hx hb dX4_place_78 (by decide) ?_
            refine lv_iadd hx hb dX4_place_80 ?_
            refine lv_iload_n hx hb dX4_place_81 rfl (lv_at hl 2 rfl) ?_
            refine lv_iadd hx hb dX4_place_82 ?_
            obtain ⟨h19, hw⟩ := hw
            refine va_iald hx hb hK hP 2 0 rfl rfl h19 dX4_place_83 ?_
            exact W.iret (v := u15 2 ((r17 + (13 : Int32)) + x2).toNatClampNeg) hx hb hr (fun t ht hW => ⟨⟨u15 2 ((r17 + (13 : Int32)) + x2).toNatClampNeg, (u15), rfl, hw, by rw [ht]; exact hP, hD⟩, hS.F ht⟩) hS.2.2 dX4_place_84 hlocks
          · have hw := hw.1 c18
            refine lv_iconst (v := (4 : Int32)) hx hb dX4_place_74 (by decide) ?_
            refine lv_goto (tgt := 80) hx hb dX4_place_75 (by decide) ?_
            refine lv_iadd hx hb dX4_place_80 ?_
            refine lv_iload_n hx hb dX4_place_81 rfl (lv_at hl 2 rfl) ?_
            refine lv_iadd hx hb dX4_place_82 ?_
            obtain ⟨h20, hw⟩ := hw
            refine va_iald hx hb hK hP 2 0 rfl rfl h20 dX4_place_83 ?_
            exact W.iret (v := u15 2 ((r17 + (4 : Int32)) + x2).toNatClampNeg) hx hb hr (fun t ht hW => ⟨⟨u15 2 ((r17 + (4 : Int32)) + x2).toNatClampNeg, (u15), rfl, hw, by rw [ht]; exact hP, hD⟩, hS.F ht⟩) hS.2.2 dX4_place_84 hlocks
        · have hw := hw.2 c16
          refine lv_iconst (v := (0 : Int32)) hx hb dX4_place_60 (by decide) ?_
          exact W.iret (v := (0 : Int32)) hx hb hr (fun t ht hW => ⟨⟨(0 : Int32), (u15), rfl, hw, by rw [ht]; exact hP, hD⟩, hS.F ht⟩) hS.2.2 dX4_place_61 hlocks
      · have hw := hw.2 c14
        refine lv_iconst (v := (0 : Int32)) hx hb dX4_place_49 (by decide) ?_
        refine lv_goto (tgt := 54) hx hb dX4_place_50 (by decide) ?_
        have hFc := va_free (wc := w_Mod cs q M) hD hS hA [0, 1, 2, 3, 4, 5, 6, 7, 8] rfl
        refine va_calli (va_runV (As := [.int (0 : Int32)]) (rest := []) ⟨hx, hb, hml, hown, hts⟩ (c_X4_refused l D cs q H.size M (0 : Int32) _ hw) (cwV 1 hts gX4_place_X4_refused rfl rfl rfl (by decide +kernel) ⟨Nat.le_of_ble_eq_true rfl, Nat.le_of_ble_eq_true rfl⟩) (PC_V hP hD hKK 0 4 rfl rfl) rfl rfl hl.1 rfl (lv_room (Nat.le_of_ble_eq_true rfl)) dX4_place_54 ⟨Nat.le_of_ble_eq_true rfl, Nat.le_of_ble_eq_true rfl⟩) hS (fun q _ h => hFc q h) hFc (fun r21 u21 t H locs ht hvm hw hB hz1 hk1 hS => ?_)
        obtain ⟨hP1, hD1⟩ := hB
        rw [ht] at hP1
        obtain ⟨b21, hw⟩ := hw
        have hD : va_D A (w_Mod cs q u21) := hD1.weaken (fun k q _ h => hFc q.1 h)
        have hP : va_P D vwCl (w_Mod cs q u21) H := hP1
        refine lv_if_eq (tgt := 62) hx hb dX4_place_57 (by decide) (fun c22 => ?_) (fun c22 => ?_)
        · have hw := hw.1 c22
          refine lv_aload_n hx hb dX4_place_62 rfl (lv_at hl 0 rfl) ?_
          refine va_get (D := D) (ci := 4) (v := .ref (q 2)) (C := RX4) (T := TX4) (N := 11) hx hb hts (h_X4_X4_place) hown hK hP 0 rfl rfl 3 (by decide) (z_w hts 1 rfl) (fun _ h9 => h9) rfl dX4_place_63 ?_
          refine lv_iload_n hx hb dX4_place_66 rfl (lv_at hl 1 rfl) ?_
          have hPc := hP.sub (ws' := ([] : va_W)) [] rfl
          have hDc := hD.sub (ws' := ([] : va_W)) [] (by decide) rfl
          refine z_calli (va_runS (As := [.int x1]) (rest := [.ref (q 2)]) ⟨hx, hb, hml, hown, hts⟩ (c_X4_at l D cs  H.size x1 _ hw) (va_cwS 1 hts gX4_place_X4_at rfl rfl rfl (by decide +kernel) ⟨Nat.le_of_ble_eq_true rfl, Nat.le_of_ble_eq_true rfl⟩) (PC_S hPc hDc hKK) rfl rfl hl.1 rfl (lv_room (Nat.le_of_ble_eq_true rfl)) dX4_place_67 ⟨Nat.le_of_ble_eq_true rfl, Nat.le_of_ble_eq_true rfl⟩) (fun r23 hw => ?_)
          refine lv_iload_n hx hb dX4_place_70 rfl (lv_at hl 3 rfl) ?_
          refine lv_if_ne (tgt := 78) hx hb dX4_place_71 (by decide) (fun c24 => ?_) (fun c24 => ?_)
          · have hw := hw.2 c24
            refine lv_bipush (v := (13 : Int32)) hx hb dX4_place_78 (by decide) ?_
            refine lv_iadd hx hb dX4_place_80 ?_
            refine lv_iload_n hx hb dX4_place_81 rfl (lv_at hl 2 rfl) ?_
            refine lv_iadd hx hb dX4_place_82 ?_
            obtain ⟨h25, hw⟩ := hw
            refine va_iald hx hb hK hP 2 0 rfl rfl h25 dX4_place_83 ?_
            exact W.iret (v := u21 2 ((r23 + (13 : Int32)) + x2).toNatClampNeg) hx hb hr (fun t ht hW => ⟨⟨u21 2 ((r23 + (13 : Int32)) + x2).toNatClampNeg, (u21), rfl, hw, by rw [ht]; exact hP, hD⟩, hS.F ht⟩) hS.2.2 dX4_place_84 hlocks
          · have hw := hw.1 c24
            refine lv_iconst (v := (4 : Int32)) hx hb dX4_place_74 (by decide) ?_
            refine lv_goto (tgt := 80) hx hb dX4_place_75 (by decide) ?_
            refine lv_iadd hx hb dX4_place_80 ?_
            refine lv_iload_n hx hb dX4_place_81 rfl (lv_at hl 2 rfl) ?_
            refine lv_iadd hx hb dX4_place_82 ?_
            obtain ⟨h26, hw⟩ := hw
            refine va_iald hx hb hK hP 2 0 rfl rfl h26 dX4_place_83 ?_
            exact W.iret (v := u21 2 ((r23 + (4 : Int32)) + x2).toNatClampNeg) hx hb hr (fun t ht hW => ⟨⟨u21 2 ((r23 + (4 : Int32)) + x2).toNatClampNeg, (u21), rfl, hw, by rw [ht]; exact hP, hD⟩, hS.F ht⟩) hS.2.2 dX4_place_84 hlocks
        · have hw := hw.2 c22
          refine lv_iconst (v := (0 : Int32)) hx hb dX4_place_60 (by decide) ?_
          exact W.iret (v := (0 : Int32)) hx hb hr (fun t ht hW => ⟨⟨(0 : Int32), (u21), rfl, hw, by rw [ht]; exact hP, hD⟩, hS.F ht⟩) hS.2.2 dX4_place_61 hlocks
    · have hw := hw.1 c12
      refine lv_iconst (v := (1 : Int32)) hx hb dX4_place_35 (by decide) ?_
      refine lv_goto (tgt := 54) hx hb dX4_place_36 (by decide) ?_
      have hFc := va_free (wc := w_Mod cs q M) hD hS hA [0, 1, 2, 3, 4, 5, 6, 7, 8] rfl
      refine va_calli (va_runV (As := [.int (1 : Int32)]) (rest := []) ⟨hx, hb, hml, hown, hts⟩ (c_X4_refused l D cs q H.size M (1 : Int32) _ hw) (cwV 1 hts gX4_place_X4_refused rfl rfl rfl (by decide +kernel) ⟨Nat.le_of_ble_eq_true rfl, Nat.le_of_ble_eq_true rfl⟩) (PC_V hP hD hKK 0 4 rfl rfl) rfl rfl hl.1 rfl (lv_room (Nat.le_of_ble_eq_true rfl)) dX4_place_54 ⟨Nat.le_of_ble_eq_true rfl, Nat.le_of_ble_eq_true rfl⟩) hS (fun q _ h => hFc q h) hFc (fun r27 u27 t H locs ht hvm hw hB hz1 hk1 hS => ?_)
      obtain ⟨hP1, hD1⟩ := hB
      rw [ht] at hP1
      obtain ⟨b27, hw⟩ := hw
      have hD : va_D A (w_Mod cs q u27) := hD1.weaken (fun k q _ h => hFc q.1 h)
      have hP : va_P D vwCl (w_Mod cs q u27) H := hP1
      refine lv_if_eq (tgt := 62) hx hb dX4_place_57 (by decide) (fun c28 => ?_) (fun c28 => ?_)
      · have hw := hw.1 c28
        refine lv_aload_n hx hb dX4_place_62 rfl (lv_at hl 0 rfl) ?_
        refine va_get (D := D) (ci := 4) (v := .ref (q 2)) (C := RX4) (T := TX4) (N := 11) hx hb hts (h_X4_X4_place) hown hK hP 0 rfl rfl 3 (by decide) (z_w hts 1 rfl) (fun _ h9 => h9) rfl dX4_place_63 ?_
        refine lv_iload_n hx hb dX4_place_66 rfl (lv_at hl 1 rfl) ?_
        have hPc := hP.sub (ws' := ([] : va_W)) [] rfl
        have hDc := hD.sub (ws' := ([] : va_W)) [] (by decide) rfl
        refine z_calli (va_runS (As := [.int x1]) (rest := [.ref (q 2)]) ⟨hx, hb, hml, hown, hts⟩ (c_X4_at l D cs  H.size x1 _ hw) (va_cwS 1 hts gX4_place_X4_at rfl rfl rfl (by decide +kernel) ⟨Nat.le_of_ble_eq_true rfl, Nat.le_of_ble_eq_true rfl⟩) (PC_S hPc hDc hKK) rfl rfl hl.1 rfl (lv_room (Nat.le_of_ble_eq_true rfl)) dX4_place_67 ⟨Nat.le_of_ble_eq_true rfl, Nat.le_of_ble_eq_true rfl⟩) (fun r29 hw => ?_)
        refine lv_iload_n hx hb dX4_place_70 rfl (lv_at hl 3 rfl) ?_
        refine lv_if_ne (tgt := 78) hx hb dX4_place_71 (by decide) (fun c30 => ?_) (fun c30 => ?_)
        · have hw := hw.2 c30
          refine lv_bipush (v := (13 : Int32)) hx hb dX4_place_78 (by decide) ?_
          refine lv_iadd hx hb dX4_place_80 ?_
          refine lv_iload_n hx hb dX4_place_81 rfl (lv_at hl 2 rfl) ?_
          refine lv_iadd hx hb dX4_place_82 ?_
          obtain ⟨h31, hw⟩ := hw
          refine va_iald hx hb hK hP 2 0 rfl rfl h31 dX4_place_83 ?_
          exact W.iret (v := u27 2 ((r29 + (13 : Int32)) + x2).toNatClampNeg) hx hb hr (fun t ht hW => ⟨⟨u27 2 ((r29 + (13 : Int32)) + x2).toNatClampNeg, (u27), rfl, hw, by rw [ht]; exact hP, hD⟩, hS.F ht⟩) hS.2.2 dX4_place_84 hlocks
        · have hw := hw.1 c30
          refine lv_iconst (v := (4 : Int32)) hx hb dX4_place_74 (by decide) ?_
          refine lv_goto (tgt := 80) hx hb dX4_place_75 (by decide) ?_
          refine lv_iadd hx hb dX4_place_80 ?_
          refine lv_iload_n hx hb dX4_place_81 rfl (lv_at hl 2 rfl) ?_
          refine lv_iadd hx hb dX4_place_82 ?_
          obtain ⟨h32, hw⟩ := hw
          refine va_iald hx hb hK hP 2 0 rfl rfl h32 dX4_place_83 ?_
          exact W.iret (v := u27 2 ((r29 + (4 : Int32)) + x2).toNatClampNeg) hx hb hr (fun t ht hW => ⟨⟨u27 2 ((r29 + (4 : Int32)) + x2).toNatClampNeg, (u27), rfl, hw, by rw [ht]; exact hP, hD⟩, hS.F ht⟩) hS.2.2 dX4_place_84 hlocks
      · have hw := hw.2 c28
        refine lv_iconst (v := (0 : Int32)) hx hb dX4_place_60 (by decide) ?_
        exact W.iret (v := (0 : Int32)) hx hb hr (fun t ht hW => ⟨⟨(0 : Int32), (u27), rfl, hw, by rw [ht]; exact hP, hD⟩, hS.F ht⟩) hS.2.2 dX4_place_61 hlocks
set_option maxHeartbeats 4000000 in
set_option maxRecDepth 100000 in
theorem c_X4_place (l : Launch) (D : va_G) (cs : Nat → ClassId) (q : Nat → Nat) (sz : Nat) (M : MS) (x1 : Int32) (x2 : Int32) (x3 : Int32) (Q : Int32 → MS → Prop) (hw : wp_X4_place M x1 x2 x3 Q) : Met l yX4_place wsX4_place ({ frames := 2, cells := 0, slots := 0, locals := 46 } : Room) (va_Pc [.ref (q 0), .int x1, .int x2, .int x3] (PC D cs (w_Mod cs q M) sz)) (va_Qi (fun r (u : MS) => Q r u) (fun (u : MS) t => va_P D vwCl (w_Mod cs q u) t.heap ∧ va_D (va_A (w_Mod cs q M) sz) (w_Mod cs q u)) (va_A (w_Mod cs q M) sz)) 0 0 (va_A (w_Mod cs q M) sz) := by
  refine Met.ofW (cc := cX4_place) (maxL := 4) (ret := (some .int)) (by decide) rfl ?_
  intro p e s m args below meth c s₁ B hml hv
  obtain ⟨rfl, hsz, hP, hKK, hD0⟩ := hv
  have hC : MAt p s m _ meth c RX4 cX4_place 4 (some .int) wsX4_place D cs := ⟨B.exec, B.bytes, B.returns, hml, findClass_of_methodNamed B.named, atoms_spec (ws := wsX4_place) B.pre, B.notSynchronized, hKK⟩
  have hl := lv_entry ([.ref (q 0), .int x1, .int x2, .int x3]) (n := 4) (Nat.le_of_ble_eq_true rfl)
  rw [lg_entry_eq]
  generalize (lg_sl ([.ref (q 0), .int x1, .int x2, .int x3]) ++ List.replicate (4 - (lg_sl ([.ref (q 0), .int x1, .int x2, .int x3])).length) Slot.unset).toArray = ls at hl ⊢
  subst hsz
  have hD := hD0.self (sz := s.heap.size)
  have hA : ∀ z : Nat, s.heap.size ≤ z → va_A (w_Mod cs q M) s.heap.size z := fun z h => Or.inr h
  exact t_X4_place hC q M x1 x2 x3 Q hA hw s.heap [] hP hD va_S.rf ls hl
theorem h_X4_X4_ticket : ∀ w ∈ u_ws RX4 TX4 11, w ∈ wsX4_ticket := fun _ h => List.mem_cons_of_mem _ (List.mem_append_right _ h)
set_option maxHeartbeats 4000000 in
set_option maxRecDepth 100000 in
theorem t_X4_ticket {p : Program} {l : Launch} {e : Env} {s : State} {m : MethodId} {args : Array Value} {below : List Frame} {meth : Method} {c : Code} {D : va_G} {cs : Nat → ClassId} {A : Nat → Prop} (hC : MAt p s m args meth c RX4 cX4_ticket 4 (some .long) wsX4_ticket D cs) (q : Nat → Nat) (M : MS) (x1 : Int32) (x2 : Int32) (Q : Int64 → MS → Prop) (hA : ∀ q : Nat, s.heap.size ≤ q → A q) (hw : wp_X4_ticket M x1 x2 Q) (H : Heap) (locs : List Loc) (hP : va_P D vwCl (w_Mod cs q M) H) (hD : va_D A (w_Mod cs q M)) (hS : va_S A s.heap H locs) (ls : Array Slot) (hl : lv_has ls 4 [(0, .ref (q 0)), (1, .int x1), (2, .int x2)]) : W p l e ({ frames := 2, cells := 0, slots := 0, locals := 45 } : Room) s m args below meth c H locs 0 0 (MQ below (va_Ql (fun r (u : MS) => Q r u) (fun (u : MS) t => va_P D vwCl (w_Mod cs q u) t.heap ∧ va_D A (w_Mod cs q u)) A) args s 0 0 A) (F0 m 0 ls []) := by
  obtain ⟨hx, hb, hr, hml, hown, hts, hlocks, hKK⟩ := id hC
  have hK := hKK.1
  refine lv_aload_n hx hb dX4_ticket_0 rfl (lv_at hl 0 rfl) ?_
  refine lv_iload_n hx hb dX4_ticket_1 rfl (lv_at hl 1 rfl) ?_
  refine lv_i2l (v := x1.toInt64) hx hb dX4_ticket_2 rfl ?_
  refine lv_lconst (v := (0 : Int64)) hx hb dX4_ticket_3 (by decide) ?_
  refine lv_aload_n hx hb dX4_ticket_4 rfl (lv_at hl 0 rfl) ?_
  refine va_get (D := D) (ci := 4) (v := .ref (q 2)) (C := RX4) (T := TX4) (N := 11) hx hb hts (h_X4_X4_ticket) hown hK hP 0 rfl rfl 3 (by decide) (z_w hts 1 rfl) (fun _ h9 => h9) rfl dX4_ticket_5 ?_
  refine lv_iconst (v := (3 : Int32)) hx hb dX4_ticket_8 (by decide) ?_
  refine va_iald hx hb hK hP 2 0 rfl rfl (show vp_in (3 : Int32) 336 by unfold vp_in; decide) dX4_ticket_9 ?_
  refine lv_iconst (v := (1 : Int32)) hx hb dX4_ticket_10 (by decide) ?_
  refine lv_isub hx hb dX4_ticket_11 ?_
  refine lv_i2l (v := ((M 2 (3 : Int32).toNatClampNeg) - (1 : Int32)).toInt64) hx hb dX4_ticket_12 rfl ?_
  have hPc := hP.sub (ws' := ([] : va_W)) [] rfl
  have hDc := hD.sub (ws' := ([] : va_W)) [] (by decide) rfl
  refine z_calli (va_runS (As := [.long x1.toInt64, .long (0 : Int64), .long (((M 2 (3 : Int32).toNatClampNeg) - (1 : Int32)).toInt64)]) (rest := [.ref (q 0)]) ⟨hx, hb, hml, hown, hts⟩ (c_X4_in l D cs  H.size x1.toInt64 (0 : Int64) (((M 2 (3 : Int32).toNatClampNeg) - (1 : Int32)).toInt64) _ hw) (va_cwS 3 hts gX4_ticket_X4_in rfl rfl rfl (by decide +kernel) ⟨Nat.le_of_ble_eq_true rfl, Nat.le_of_ble_eq_true rfl⟩) (PC_S hPc hDc hKK) rfl rfl hl.1 rfl (lv_room (Nat.le_of_ble_eq_true rfl)) dX4_ticket_13 ⟨Nat.le_of_ble_eq_true rfl, Nat.le_of_ble_eq_true rfl⟩) (fun r1 hw => ?_)
  obtain ⟨b1, hw⟩ := hw
  refine lv_if_ne (tgt := 23) hx hb dX4_ticket_16 (by decide) (fun c2 => ?_) (fun c2 => ?_)
  · have hw := hw.2 c2
    refine lv_iload_n hx hb dX4_ticket_23 rfl (lv_at hl 2 rfl) ?_
    refine lv_i2l (v := x2.toInt64) hx hb dX4_ticket_24 rfl ?_
    refine lv_lconst (v := (0 : Int64)) hx hb dX4_ticket_25 (by decide) ?_
    refine lv_ldc2 (v := (4 : Int64)) hx hb hown (z_w hts 2 (w := .constantLong RX4 116 (4)) rfl) dX4_ticket_26 ?_
    have hPc := hP.sub (ws' := ([] : va_W)) [] rfl
    have hDc := hD.sub (ws' := ([] : va_W)) [] (by decide) rfl
    refine z_calli (va_runS (As := [.long x2.toInt64, .long (0 : Int64), .long (4 : Int64)]) (rest := [.ref (q 0)]) ⟨hx, hb, hml, hown, hts⟩ (c_X4_in l D cs  H.size x2.toInt64 (0 : Int64) (4 : Int64) _ hw) (va_cwS 3 hts gX4_ticket_X4_in rfl rfl rfl (by decide +kernel) ⟨Nat.le_of_ble_eq_true rfl, Nat.le_of_ble_eq_true rfl⟩) (PC_S hPc hDc hKK) rfl rfl hl.1 rfl (lv_room (Nat.le_of_ble_eq_true rfl)) dX4_ticket_29 ⟨Nat.le_of_ble_eq_true rfl, Nat.le_of_ble_eq_true rfl⟩) (fun r3 hw => ?_)
    obtain ⟨b3, hw⟩ := hw
    refine lv_if_eq (tgt := 39) hx hb dX4_ticket_32 (by decide) (fun c4 => ?_) (fun c4 => ?_)
    · have hw := hw.1 c4
      refine lv_iconst (v := (2 : Int32)) hx hb dX4_ticket_39 (by decide) ?_
      have hFc := va_free (wc := w_Mod cs q M) hD hS hA [0, 1, 2, 3, 4, 5, 6, 7, 8] rfl
      refine va_calli (va_runV (As := [.int (2 : Int32)]) (rest := []) ⟨hx, hb, hml, hown, hts⟩ (c_X4_refused l D cs q H.size M (2 : Int32) _ hw) (cwV 1 hts gX4_ticket_X4_refused rfl rfl rfl (by decide +kernel) ⟨Nat.le_of_ble_eq_true rfl, Nat.le_of_ble_eq_true rfl⟩) (PC_V hP hD hKK 0 4 rfl rfl) rfl rfl hl.1 rfl (lv_room (Nat.le_of_ble_eq_true rfl)) dX4_ticket_40 ⟨Nat.le_of_ble_eq_true rfl, Nat.le_of_ble_eq_true rfl⟩) hS (fun q _ h => hFc q h) hFc (fun r5 u5 t H locs ht hvm hw hB hz1 hk1 hS => ?_)
      obtain ⟨hP1, hD1⟩ := hB
      rw [ht] at hP1
      obtain ⟨b5, hw⟩ := hw
      have hD : va_D A (w_Mod cs q u5) := hD1.weaken (fun k q _ h => hFc q.1 h)
      have hP : va_P D vwCl (w_Mod cs q u5) H := hP1
      refine lv_if_eq (tgt := 48) hx hb dX4_ticket_43 (by decide) (fun c6 => ?_) (fun c6 => ?_)
      · have hw := hw.1 c6
        refine lv_sipush (v := (136 : Int32)) hx hb dX4_ticket_48 (by decide) ?_
        refine lv_iconst (v := (4 : Int32)) hx hb dX4_ticket_51 (by decide) ?_
        refine lv_iload_n hx hb dX4_ticket_52 rfl (lv_at hl 1 rfl) ?_
        refine lv_imul hx hb dX4_ticket_53 ?_
        refine lv_iadd hx hb dX4_ticket_54 ?_
        refine lv_istore_n (lv' := [(3, .int ((136 : Int32) + ((4 : Int32) * x1))), (0, .ref (q 0)), (1, .int x1), (2, .int x2)]) hx hb dX4_ticket_55 rfl hl (by decide) rfl (fun ls hl => ?_)
        refine lv_iload_n hx hb dX4_ticket_56 rfl (lv_at hl 3 rfl) ?_
        refine lv_iconst (v := (3 : Int32)) hx hb dX4_ticket_57 (by decide) ?_
        refine lv_icmp_ge (tgt := 73) hx hb dX4_ticket_58 (by decide) (fun c7 => ?_) (fun c7 => ?_)
        · have hw := hw.1 c7
          refine lv_iload_n hx hb dX4_ticket_73 rfl (lv_at hl 3 rfl) ?_
          refine lv_iconst (v := (3 : Int32)) hx hb dX4_ticket_74 (by decide) ?_
          refine lv_icmp_ne (tgt := 90) hx hb dX4_ticket_75 (by decide) (fun c8 => ?_) (fun c8 => ?_)
          · have hw := hw.2 c8
            refine lv_aload_n hx hb dX4_ticket_90 rfl (lv_at hl 1 rfl) ?_
            refine va_get (D := D) (ci := 4) (v := .ref (q 2)) (C := RX4) (T := TX4) (N := 11) hx hb hts (h_X4_X4_ticket) hown hK hP 0 rfl rfl 3 (by decide) (z_w hts 1 rfl) (fun _ h9 => h9) rfl dX4_ticket_91 ?_
            refine lv_iload_n hx hb dX4_ticket_94 rfl (lv_at hl 0 rfl) ?_
            refine lv_iconst (v := (3 : Int32)) hx hb dX4_ticket_95 (by decide) ?_
            refine lv_iadd hx hb dX4_ticket_96 ?_
            obtain ⟨h9, hw⟩ := hw
            refine va_iald hx hb hK hP 2 0 rfl rfl h9 dX4_ticket_97 ?_
            refine lv_i2l (v := (u5 2 (((136 : Int32) + ((4 : Int32) * x1)) + (3 : Int32)).toNatClampNeg).toInt64) hx hb dX4_ticket_98 rfl ?_
            exact W.lret (v := (u5 2 (((136 : Int32) + ((4 : Int32) * x1)) + (3 : Int32)).toNatClampNeg).toInt64) hx hb hr (fun t ht hW => ⟨⟨(u5 2 (((136 : Int32) + ((4 : Int32) * x1)) + (3 : Int32)).toNatClampNeg).toInt64, (u5), rfl, hw, by rw [ht]; exact hP, hD⟩, hS.F ht⟩) hS.2.2 dX4_ticket_99 hlocks
          · have hw := hw.1 c8
            refine lv_aload_n hx hb dX4_ticket_78 rfl (lv_at hl 1 rfl) ?_
            refine va_get (D := D) (ci := 4) (v := .ref (q 2)) (C := RX4) (T := TX4) (N := 11) hx hb hts (h_X4_X4_ticket) hown hK hP 0 rfl rfl 3 (by decide) (z_w hts 1 rfl) (fun _ h9 => h9) rfl dX4_ticket_79 ?_
            refine lv_iload_n hx hb dX4_ticket_82 rfl (lv_at hl 2 rfl) ?_
            have hPc := hP.sub (ws' := w_Row cs (q 2) 336 (u5 2)) [2] rfl
            have hDc := hD.sub (ws' := w_Row cs (q 2) 336 (u5 2)) [2] (by decide) rfl
            refine z_calli (va_runS (As := [.ref (q 2), .int x1]) (rest := []) ⟨hx, hb, hml, hown, hts⟩ (c_X4_doublesOf l D cs (q 2) H.size (u5 2) x1 _ hw) (va_cwS 2 hts gX4_ticket_X4_doublesOf rfl rfl rfl (by decide +kernel) ⟨Nat.le_of_ble_eq_true rfl, Nat.le_of_ble_eq_true rfl⟩) (PC_S hPc hDc hKK) rfl rfl hl.1 rfl (lv_room (Nat.le_of_ble_eq_true rfl)) dX4_ticket_83 ⟨Nat.le_of_ble_eq_true rfl, Nat.le_of_ble_eq_true rfl⟩) (fun r10 hw => ?_)
            refine lv_i2l (v := r10.toInt64) hx hb dX4_ticket_86 rfl ?_
            refine lv_goto (tgt := 99) hx hb dX4_ticket_87 (by decide) ?_
            exact W.lret (v := r10.toInt64) hx hb hr (fun t ht hW => ⟨⟨r10.toInt64, (u5), rfl, hw, by rw [ht]; exact hP, hD⟩, hS.F ht⟩) hS.2.2 dX4_ticket_99 hlocks
        · have hw := hw.2 c7
          refine lv_aload_n hx hb dX4_ticket_61 rfl (lv_at hl 1 rfl) ?_
          refine va_get (D := D) (ci := 4) (v := .ref (q 2)) (C := RX4) (T := TX4) (N := 11) hx hb hts (h_X4_X4_ticket) hown hK hP 0 rfl rfl 3 (by decide) (z_w hts 1 rfl) (fun _ h9 => h9) rfl dX4_ticket_62 ?_
          refine lv_iload_n hx hb dX4_ticket_65 rfl (lv_at hl 0 rfl) ?_
          refine lv_iload_n hx hb dX4_ticket_66 rfl (lv_at hl 3 rfl) ?_
          refine lv_iadd hx hb dX4_ticket_67 ?_
          obtain ⟨h11, hw⟩ := hw
          refine va_iald hx hb hK hP 2 0 rfl rfl h11 dX4_ticket_68 ?_
          refine lv_i2l (v := (u5 2 (((136 : Int32) + ((4 : Int32) * x1)) + x2).toNatClampNeg).toInt64) hx hb dX4_ticket_69 rfl ?_
          refine lv_goto (tgt := 99) hx hb dX4_ticket_70 (by decide) ?_
          exact W.lret (v := (u5 2 (((136 : Int32) + ((4 : Int32) * x1)) + x2).toNatClampNeg).toInt64) hx hb hr (fun t ht hW => ⟨⟨(u5 2 (((136 : Int32) + ((4 : Int32) * x1)) + x2).toNatClampNeg).toInt64, (u5), rfl, hw, by rw [ht]; exact hP, hD⟩, hS.F ht⟩) hS.2.2 dX4_ticket_99 hlocks
      · have hw := hw.2 c6
        refine lv_lconst (v := (0 : Int64)) hx hb dX4_ticket_46 (by decide) ?_
        exact W.lret (v := (0 : Int64)) hx hb hr (fun t ht hW => ⟨⟨(0 : Int64), (u5), rfl, hw, by rw [ht]; exact hP, hD⟩, hS.F ht⟩) hS.2.2 dX4_ticket_47 hlocks
    · have hw := hw.2 c4
      refine lv_iconst (v := (0 : Int32)) hx hb dX4_ticket_35 (by decide) ?_
      refine lv_goto (tgt := 40) hx hb dX4_ticket_36 (by decide) ?_
      have hFc := va_free (wc := w_Mod cs q M) hD hS hA [0, 1, 2, 3, 4, 5, 6, 7, 8] rfl
      refine va_calli (va_runV (As := [.int (0 : Int32)]) (rest := []) ⟨hx, hb, hml, hown, hts⟩ (c_X4_refused l D cs q H.size M (0 : Int32) _ hw) (cwV 1 hts gX4_ticket_X4_refused rfl rfl rfl (by decide +kernel) ⟨Nat.le_of_ble_eq_true rfl, Nat.le_of_ble_eq_true rfl⟩) (PC_V hP hD hKK 0 4 rfl rfl) rfl rfl hl.1 rfl (lv_room (Nat.le_of_ble_eq_true rfl)) dX4_ticket_40 ⟨Nat.le_of_ble_eq_true rfl, Nat.le_of_ble_eq_true rfl⟩) hS (fun q _ h => hFc q h) hFc (fun r12 u12 t H locs ht hvm hw hB hz1 hk1 hS => ?_)
      obtain ⟨hP1, hD1⟩ := hB
      rw [ht] at hP1
      obtain ⟨b12, hw⟩ := hw
      have hD : va_D A (w_Mod cs q u12) := hD1.weaken (fun k q _ h => hFc q.1 h)
      have hP : va_P D vwCl (w_Mod cs q u12) H := hP1
      refine lv_if_eq (tgt := 48) hx hb dX4_ticket_43 (by decide) (fun c13 => ?_) (fun c13 => ?_)
      · have hw := hw.1 c13
        refine lv_sipush (v := (136 : Int32)) hx hb dX4_ticket_48 (by decide) ?_
        refine lv_iconst (v := (4 : Int32)) hx hb dX4_ticket_51 (by decide) ?_
        refine lv_iload_n hx hb dX4_ticket_52 rfl (lv_at hl 1 rfl) ?_
        refine lv_imul hx hb dX4_ticket_53 ?_
        refine lv_iadd hx hb dX4_ticket_54 ?_
        refine lv_istore_n (lv' := [(3, .int ((136 : Int32) + ((4 : Int32) * x1))), (0, .ref (q 0)), (1, .int x1), (2, .int x2)]) hx hb dX4_ticket_55 rfl hl (by decide) rfl (fun ls hl => ?_)
        refine lv_iload_n hx hb dX4_ticket_56 rfl (lv_at hl 3 rfl) ?_
        refine lv_iconst (v := (3 : Int32)) hx hb dX4_ticket_57 (by decide) ?_
        refine lv_icmp_ge (tgt := 73) hx hb dX4_ticket_58 (by decide) (fun c14 => ?_) (fun c14 => ?_)
        · have hw := hw.1 c14
          refine lv_iload_n hx hb dX4_ticket_73 rfl (lv_at hl 3 rfl) ?_
          refine lv_iconst (v := (3 : Int32)) hx hb dX4_ticket_74 (by decide) ?_
          refine lv_icmp_ne (tgt := 90) hx hb dX4_ticket_75 (by decide) (fun c15 => ?_) (fun c15 => ?_)
          · have hw := hw.2 c15
            refine lv_aload_n hx hb dX4_ticket_90 rfl (lv_at hl 1 rfl) ?_
            refine va_get (D := D) (ci := 4) (v := .ref (q 2)) (C := RX4) (T := TX4) (N := 11) hx hb hts (h_X4_X4_ticket) hown hK hP 0 rfl rfl 3 (by decide) (z_w hts 1 rfl) (fun _ h9 => h9) rfl dX4_ticket_91 ?_
            refine lv_iload_n hx hb dX4_ticket_94 rfl (lv_at hl 0 rfl) ?_
            refine lv_iconst (v := (3 : Int32)) hx hb dX4_ticket_95 (by decide) ?_
            refine lv_iadd hx hb dX4_ticket_96 ?_
            obtain ⟨h16, hw⟩ := hw
            refine va_iald hx hb hK hP 2 0 rfl rfl h16 dX4_ticket_97 ?_
            refine lv_i2l (v := (u12 2 (((136 : Int32) + ((4 : Int32) * x1)) + (3 : Int32)).toNatClampNeg).toInt64) hx hb dX4_ticket_98 rfl ?_
            exact W.lret (v := (u12 2 (((136 : Int32) + ((4 : Int32) * x1)) + (3 : Int32)).toNatClampNeg).toInt64) hx hb hr (fun t ht hW => ⟨⟨(u12 2 (((136 : Int32) + ((4 : Int32) * x1)) + (3 : Int32)).toNatClampNeg).toInt64, (u12), rfl, hw, by rw [ht]; exact hP, hD⟩, hS.F ht⟩) hS.2.2 dX4_ticket_99 hlocks
          · have hw := hw.1 c15
            refine lv_aload_n hx hb dX4_ticket_78 rfl (lv_at hl 1 rfl) ?_
            refine va_get (D := D) (ci := 4) (v := .ref (q 2)) (C := RX4) (T := TX4) (N := 11) hx hb hts (h_X4_X4_ticket) hown hK hP 0 rfl rfl 3 (by decide) (z_w hts 1 rfl) (fun _ h9 => h9) rfl dX4_ticket_79 ?_
            refine lv_iload_n hx hb dX4_ticket_82 rfl (lv_at hl 2 rfl) ?_
            have hPc := hP.sub (ws' := w_Row cs (q 2) 336 (u12 2)) [2] rfl
            have hDc := hD.sub (ws' := w_Row cs (q 2) 336 (u12 2)) [2] (by decide) rfl
            refine z_calli (va_runS (As := [.ref (q 2), .int x1]) (rest := []) ⟨hx, hb, hml, hown, hts⟩ (c_X4_doublesOf l D cs (q 2) H.size (u12 2) x1 _ hw) (va_cwS 2 hts gX4_ticket_X4_doublesOf rfl rfl rfl (by decide +kernel) ⟨Nat.le_of_ble_eq_true rfl, Nat.le_of_ble_eq_true rfl⟩) (PC_S hPc hDc hKK) rfl rfl hl.1 rfl (lv_room (Nat.le_of_ble_eq_true rfl)) dX4_ticket_83 ⟨Nat.le_of_ble_eq_true rfl, Nat.le_of_ble_eq_true rfl⟩) (fun r17 hw => ?_)
            refine lv_i2l (v := r17.toInt64) hx hb dX4_ticket_86 rfl ?_
            refine lv_goto (tgt := 99) hx hb dX4_ticket_87 (by decide) ?_
            exact W.lret (v := r17.toInt64) hx hb hr (fun t ht hW => ⟨⟨r17.toInt64, (u12), rfl, hw, by rw [ht]; exact hP, hD⟩, hS.F ht⟩) hS.2.2 dX4_ticket_99 hlocks
        · have hw := hw.2 c14
          refine lv_aload_n hx hb dX4_ticket_61 rfl (lv_at hl 1 rfl) ?_
          refine va_get (D := D) (ci := 4) (v := .ref (q 2)) (C := RX4) (T := TX4) (N := 11) hx hb hts (h_X4_X4_ticket) hown hK hP 0 rfl rfl 3 (by decide) (z_w hts 1 rfl) (fun _ h9 => h9) rfl dX4_ticket_62 ?_
          refine lv_iload_n hx hb dX4_ticket_65 rfl (lv_at hl 0 rfl) ?_
          refine lv_iload_n hx hb dX4_ticket_66 rfl (lv_at hl 3 rfl) ?_
          refine lv_iadd hx hb dX4_ticket_67 ?_
          obtain ⟨h18, hw⟩ := hw
          refine va_iald hx hb hK hP 2 0 rfl rfl h18 dX4_ticket_68 ?_
          refine lv_i2l (v := (u12 2 (((136 : Int32) + ((4 : Int32) * x1)) + x2).toNatClampNeg).toInt64) hx hb dX4_ticket_69 rfl ?_
          refine lv_goto (tgt := 99) hx hb dX4_ticket_70 (by decide) ?_
          exact W.lret (v := (u12 2 (((136 : Int32) + ((4 : Int32) * x1)) + x2).toNatClampNeg).toInt64) hx hb hr (fun t ht hW => ⟨⟨(u12 2 (((136 : Int32) + ((4 : Int32) * x1)) + x2).toNatClampNeg).toInt64, (u12), rfl, hw, by rw [ht]; exact hP, hD⟩, hS.F ht⟩) hS.2.2 dX4_ticket_99 hlocks
      · have hw := hw.2 c13
        refine lv_lconst (v := (0 : Int64)) hx hb dX4_ticket_46 (by decide) ?_
        exact W.lret (v := (0 : Int64)) hx hb hr (fun t ht hW => ⟨⟨(0 : Int64), (u12), rfl, hw, by rw [ht]; exact hP, hD⟩, hS.F ht⟩) hS.2.2 dX4_ticket_47 hlocks
  · have hw := hw.1 c2
    refine lv_iconst (v := (1 : Int32)) hx hb dX4_ticket_19 (by decide) ?_
    refine lv_goto (tgt := 40) hx hb dX4_ticket_20 (by decide) ?_
    have hFc := va_free (wc := w_Mod cs q M) hD hS hA [0, 1, 2, 3, 4, 5, 6, 7, 8] rfl
    refine va_calli (va_runV (As := [.int (1 : Int32)]) (rest := []) ⟨hx, hb, hml, hown, hts⟩ (c_X4_refused l D cs q H.size M (1 : Int32) _ hw) (cwV 1 hts gX4_ticket_X4_refused rfl rfl rfl (by decide +kernel) ⟨Nat.le_of_ble_eq_true rfl, Nat.le_of_ble_eq_true rfl⟩) (PC_V hP hD hKK 0 4 rfl rfl) rfl rfl hl.1 rfl (lv_room (Nat.le_of_ble_eq_true rfl)) dX4_ticket_40 ⟨Nat.le_of_ble_eq_true rfl, Nat.le_of_ble_eq_true rfl⟩) hS (fun q _ h => hFc q h) hFc (fun r19 u19 t H locs ht hvm hw hB hz1 hk1 hS => ?_)
    obtain ⟨hP1, hD1⟩ := hB
    rw [ht] at hP1
    obtain ⟨b19, hw⟩ := hw
    have hD : va_D A (w_Mod cs q u19) := hD1.weaken (fun k q _ h => hFc q.1 h)
    have hP : va_P D vwCl (w_Mod cs q u19) H := hP1
    refine lv_if_eq (tgt := 48) hx hb dX4_ticket_43 (by decide) (fun c20 => ?_) (fun c20 => ?_)
    · have hw := hw.1 c20
      refine lv_sipush (v := (136 : Int32)) hx hb dX4_ticket_48 (by decide) ?_
      refine lv_iconst (v := (4 : Int32)) hx hb dX4_ticket_51 (by decide) ?_
      refine lv_iload_n hx hb dX4_ticket_52 rfl (lv_at hl 1 rfl) ?_
      refine lv_imul hx hb dX4_ticket_53 ?_
      refine lv_iadd hx hb dX4_ticket_54 ?_
      refine lv_istore_n (lv' := [(3, .int ((136 : Int32) + ((4 : Int32) * x1))), (0, .ref (q 0)), (1, .int x1), (2, .int x2)]) hx hb dX4_ticket_55 rfl hl (by decide) rfl (fun ls hl => ?_)
      refine lv_iload_n hx hb dX4_ticket_56 rfl (lv_at hl 3 rfl) ?_
      refine lv_iconst (v := (3 : Int32)) hx hb dX4_ticket_57 (by decide) ?_
      refine lv_icmp_ge (tgt := 73) hx hb dX4_ticket_58 (by decide) (fun c21 => ?_) (fun c21 => ?_)
      · have hw := hw.1 c21
        refine lv_iload_n hx hb dX4_ticket_73 rfl (lv_at hl 3 rfl) ?_
        refine lv_iconst (v := (3 : Int32)) hx hb dX4_ticket_74 (by decide) ?_
        refine lv_icmp_ne (tgt := 90) hx hb dX4_ticket_75 (by decide) (fun c22 => ?_) (fun c22 => ?_)
        · have hw := hw.2 c22
          refine lv_aload_n hx hb dX4_ticket_90 rfl (lv_at hl 1 rfl) ?_
          refine va_get (D := D) (ci := 4) (v := .ref (q 2)) (C := RX4) (T := TX4) (N := 11) hx hb hts (h_X4_X4_ticket) hown hK hP 0 rfl rfl 3 (by decide) (z_w hts 1 rfl) (fun _ h9 => h9) rfl dX4_ticket_91 ?_
          refine lv_iload_n hx hb dX4_ticket_94 rfl (lv_at hl 0 rfl) ?_
          refine lv_iconst (v := (3 : Int32)) hx hb dX4_ticket_95 (by decide) ?_
          refine lv_iadd hx hb dX4_ticket_96 ?_
          obtain ⟨h23, hw⟩ := hw
          refine va_iald hx hb hK hP 2 0 rfl rfl h23 dX4_ticket_97 ?_
          refine lv_i2l (v := (u19 2 (((136 : Int32) + ((4 : Int32) * x1)) + (3 : Int32)).toNatClampNeg).toInt64) hx hb dX4_ticket_98 rfl ?_
          exact W.lret (v := (u19 2 (((136 : Int32) + ((4 : Int32) * x1)) + (3 : Int32)).toNatClampNeg).toInt64) hx hb hr (fun t ht hW => ⟨⟨(u19 2 (((136 : Int32) + ((4 : Int32) * x1)) + (3 : Int32)).toNatClampNeg).toInt64, (u19), rfl, hw, by rw [ht]; exact hP, hD⟩, hS.F ht⟩) hS.2.2 dX4_ticket_99 hlocks
        · have hw := hw.1 c22
          refine lv_aload_n hx hb dX4_ticket_78 rfl (lv_at hl 1 rfl) ?_
          refine va_get (D := D) (ci := 4) (v := .ref (q 2)) (C := RX4) (T := TX4) (N := 11) hx hb hts (h_X4_X4_ticket) hown hK hP 0 rfl rfl 3 (by decide) (z_w hts 1 rfl) (fun _ h9 => h9) rfl dX4_ticket_79 ?_
          refine lv_iload_n hx hb dX4_ticket_82 rfl (lv_at hl 2 rfl) ?_
          have hPc := hP.sub (ws' := w_Row cs (q 2) 336 (u19 2)) [2] rfl
          have hDc := hD.sub (ws' := w_Row cs (q 2) 336 (u19 2)) [2] (by decide) rfl
          refine z_calli (va_runS (As := [.ref (q 2), .int x1]) (rest := []) ⟨hx, hb, hml, hown, hts⟩ (c_X4_doublesOf l D cs (q 2) H.size (u19 2) x1 _ hw) (va_cwS 2 hts gX4_ticket_X4_doublesOf rfl rfl rfl (by decide +kernel) ⟨Nat.le_of_ble_eq_true rfl, Nat.le_of_ble_eq_true rfl⟩) (PC_S hPc hDc hKK) rfl rfl hl.1 rfl (lv_room (Nat.le_of_ble_eq_true rfl)) dX4_ticket_83 ⟨Nat.le_of_ble_eq_true rfl, Nat.le_of_ble_eq_true rfl⟩) (fun r24 hw => ?_)
          refine lv_i2l (v := r24.toInt64) hx hb dX4_ticket_86 rfl ?_
          refine lv_goto (tgt := 99) hx hb dX4_ticket_87 (by decide) ?_
          exact W.lret (v := r24.toInt64) hx hb hr (fun t ht hW => ⟨⟨r24.toInt64, (u19), rfl, hw, by rw [ht]; exact hP, hD⟩, hS.F ht⟩) hS.2.2 dX4_ticket_99 hlocks
      · have hw := hw.2 c21
        refine lv_aload_n hx hb dX4_ticket_61 rfl (lv_at hl 1 rfl) ?_
        refine va_get (D := D) (ci := 4) (v := .ref (q 2)) (C := RX4) (T := TX4) (N := 11) hx hb hts (h_X4_X4_ticket) hown hK hP 0 rfl rfl 3 (by decide) (z_w hts 1 rfl) (fun _ h9 => h9) rfl dX4_ticket_62 ?_
        refine lv_iload_n hx hb dX4_ticket_65 rfl (lv_at hl 0 rfl) ?_
        refine lv_iload_n hx hb dX4_ticket_66 rfl (lv_at hl 3 rfl) ?_
        refine lv_iadd hx hb dX4_ticket_67 ?_
        obtain ⟨h25, hw⟩ := hw
        refine va_iald hx hb hK hP 2 0 rfl rfl h25 dX4_ticket_68 ?_
        refine lv_i2l (v := (u19 2 (((136 : Int32) + ((4 : Int32) * x1)) + x2).toNatClampNeg).toInt64) hx hb dX4_ticket_69 rfl ?_
        refine lv_goto (tgt := 99) hx hb dX4_ticket_70 (by decide) ?_
        exact W.lret (v := (u19 2 (((136 : Int32) + ((4 : Int32) * x1)) + x2).toNatClampNeg).toInt64) hx hb hr (fun t ht hW => ⟨⟨(u19 2 (((136 : Int32) + ((4 : Int32) * x1)) + x2).toNatClampNeg).toInt64, (u19), rfl, hw, by rw [ht]; exact hP, hD⟩, hS.F ht⟩) hS.2.2 dX4_ticket_99 hlocks
    · have hw := hw.2 c20
      refine lv_lconst (v := (0 : Int64)) hx hb dX4_ticket_46 (by decide) ?_
      exact W.lret (v := (0 : Int64)) hx hb hr (fun t ht hW => ⟨⟨(0 : Int64), (u19), rfl, hw, by rw [ht]; exact hP, hD⟩, hS.F ht⟩) hS.2.2 dX4_ticket_47 hlocks
set_option maxHeartbeats 4000000 in
set_option maxRecDepth 100000 in
theorem c_X4_ticket (l : Launch) (D : va_G) (cs : Nat → ClassId) (q : Nat → Nat) (sz : Nat) (M : MS) (x1 : Int32) (x2 : Int32) (Q : Int64 → MS → Prop) (hw : wp_X4_ticket M x1 x2 Q) : Met l yX4_ticket wsX4_ticket ({ frames := 2, cells := 0, slots := 0, locals := 45 } : Room) (va_Pc [.ref (q 0), .int x1, .int x2] (PC D cs (w_Mod cs q M) sz)) (va_Ql (fun r (u : MS) => Q r u) (fun (u : MS) t => va_P D vwCl (w_Mod cs q u) t.heap ∧ va_D (va_A (w_Mod cs q M) sz) (w_Mod cs q u)) (va_A (w_Mod cs q M) sz)) 0 0 (va_A (w_Mod cs q M) sz) := by
  refine Met.ofW (cc := cX4_ticket) (maxL := 4) (ret := (some .long)) (by decide) rfl ?_
  intro p e s m args below meth c s₁ B hml hv
  obtain ⟨rfl, hsz, hP, hKK, hD0⟩ := hv
  have hC : MAt p s m _ meth c RX4 cX4_ticket 4 (some .long) wsX4_ticket D cs := ⟨B.exec, B.bytes, B.returns, hml, findClass_of_methodNamed B.named, atoms_spec (ws := wsX4_ticket) B.pre, B.notSynchronized, hKK⟩
  have hl := lv_entry ([.ref (q 0), .int x1, .int x2]) (n := 4) (Nat.le_of_ble_eq_true rfl)
  rw [lg_entry_eq]
  generalize (lg_sl ([.ref (q 0), .int x1, .int x2]) ++ List.replicate (4 - (lg_sl ([.ref (q 0), .int x1, .int x2])).length) Slot.unset).toArray = ls at hl ⊢
  subst hsz
  have hD := hD0.self (sz := s.heap.size)
  have hA : ∀ z : Nat, s.heap.size ≤ z → va_A (w_Mod cs q M) s.heap.size z := fun z h => Or.inr h
  exact t_X4_ticket hC q M x1 x2 Q hA hw s.heap [] hP hD va_S.rf ls hl
theorem h_X4_X4_isAhead : ∀ w ∈ u_ws RX4 TX4 11, w ∈ wsX4_isAhead := fun _ h => List.mem_cons_of_mem _ (List.mem_append_right _ h)
set_option maxHeartbeats 4000000 in
set_option maxRecDepth 100000 in
theorem t_X4_isAhead {p : Program} {l : Launch} {e : Env} {s : State} {m : MethodId} {args : Array Value} {below : List Frame} {meth : Method} {c : Code} {D : va_G} {cs : Nat → ClassId} {A : Nat → Prop} (hC : MAt p s m args meth c RX4 cX4_isAhead 5 (some .boolean) wsX4_isAhead D cs) (q : Nat → Nat) (M : MS) (x1 : Int32) (x2 : Int32) (Q : Int32 → Prop) (hw : wp_X4_isAhead M x1 x2 Q) (hP : va_P D vwCl (w_Mod cs q M) s.heap) (hD : va_D A (w_Mod cs q M)) (ls : Array Slot) (hl : lv_has ls 5 [(0, .ref (q 0)), (1, .int x1), (2, .int x2)]) : W p l e ({ frames := 0, cells := 0, slots := 0, locals := 0 } : Room) s m args below meth c s.heap [] 0 0 (MQ below (vp_Si (fun r => (r = 0 ∨ r = 1) ∧ Q r)) args s 0 0 (fun _ => False)) (F0 m 0 ls []) := by
  obtain ⟨hx, hb, hr, hml, hown, hts, hlocks, hKK⟩ := id hC
  have hK := hKK.1
  refine lv_sipush (v := (136 : Int32)) hx hb dX4_isAhead_0 (by decide) ?_
  refine lv_iconst (v := (4 : Int32)) hx hb dX4_isAhead_3 (by decide) ?_
  refine lv_iload_n hx hb dX4_isAhead_4 rfl (lv_at hl 1 rfl) ?_
  refine lv_imul hx hb dX4_isAhead_5 ?_
  refine lv_iadd hx hb dX4_isAhead_6 ?_
  refine lv_istore_n (lv' := [(3, .int ((136 : Int32) + ((4 : Int32) * x1))), (0, .ref (q 0)), (1, .int x1), (2, .int x2)]) hx hb dX4_isAhead_7 rfl hl (by decide) rfl (fun ls hl => ?_)
  refine lv_sipush (v := (136 : Int32)) hx hb dX4_isAhead_8 (by decide) ?_
  refine lv_iconst (v := (4 : Int32)) hx hb dX4_isAhead_11 (by decide) ?_
  refine lv_iload_n hx hb dX4_isAhead_12 rfl (lv_at hl 3 rfl) ?_
  refine lv_imul hx hb dX4_isAhead_13 ?_
  refine lv_iadd hx hb dX4_isAhead_14 ?_
  refine lv_istore (lv' := [(4, .int ((136 : Int32) + ((4 : Int32) * x2))), (3, .int ((136 : Int32) + ((4 : Int32) * x1))), (0, .ref (q 0)), (1, .int x1), (2, .int x2)]) hx hb dX4_isAhead_15 hl (by decide) rfl (fun ls hl => ?_)
  refine lv_aload_n hx hb dX4_isAhead_17 rfl (lv_at hl 2 rfl) ?_
  refine va_get (D := D) (ci := 4) (v := .ref (q 2)) (C := RX4) (T := TX4) (N := 11) hx hb hts (h_X4_X4_isAhead) hown hK hP 0 rfl rfl 3 (by decide) (z_w hts 1 rfl) (fun _ h9 => h9) rfl dX4_isAhead_18 ?_
  refine lv_iload_n hx hb dX4_isAhead_21 rfl (lv_at hl 1 rfl) ?_
  refine lv_iconst (v := (1 : Int32)) hx hb dX4_isAhead_22 (by decide) ?_
  refine lv_iadd hx hb dX4_isAhead_23 ?_
  obtain ⟨h1, hw⟩ := hw
  refine va_iald hx hb hK hP 2 0 rfl rfl h1 dX4_isAhead_24 ?_
  refine lv_aload_n hx hb dX4_isAhead_25 rfl (lv_at hl 2 rfl) ?_
  refine va_get (D := D) (ci := 4) (v := .ref (q 2)) (C := RX4) (T := TX4) (N := 11) hx hb hts (h_X4_X4_isAhead) hown hK hP 0 rfl rfl 3 (by decide) (z_w hts 1 rfl) (fun _ h9 => h9) rfl dX4_isAhead_26 ?_
  refine lv_iload hx hb dX4_isAhead_29 (lv_at hl 0 rfl) ?_
  refine lv_iconst (v := (1 : Int32)) hx hb dX4_isAhead_31 (by decide) ?_
  refine lv_iadd hx hb dX4_isAhead_32 ?_
  obtain ⟨h2, hw⟩ := hw
  refine va_iald hx hb hK hP 2 0 rfl rfl h2 dX4_isAhead_33 ?_
  refine lv_icmp_eq (tgt := 65) hx hb dX4_isAhead_34 (by decide) (fun c3 => ?_) (fun c3 => ?_)
  · have hw := hw.1 c3
    refine lv_aload_n hx hb dX4_isAhead_65 rfl (lv_at hl 2 rfl) ?_
    refine va_get (D := D) (ci := 4) (v := .ref (q 2)) (C := RX4) (T := TX4) (N := 11) hx hb hts (h_X4_X4_isAhead) hown hK hP 0 rfl rfl 3 (by decide) (z_w hts 1 rfl) (fun _ h9 => h9) rfl dX4_isAhead_66 ?_
    refine lv_iload_n hx hb dX4_isAhead_69 rfl (lv_at hl 1 rfl) ?_
    obtain ⟨h4, hw⟩ := hw
    refine va_iald hx hb hK hP 2 0 rfl rfl h4 dX4_isAhead_70 ?_
    refine lv_aload_n hx hb dX4_isAhead_71 rfl (lv_at hl 2 rfl) ?_
    refine va_get (D := D) (ci := 4) (v := .ref (q 2)) (C := RX4) (T := TX4) (N := 11) hx hb hts (h_X4_X4_isAhead) hown hK hP 0 rfl rfl 3 (by decide) (z_w hts 1 rfl) (fun _ h9 => h9) rfl dX4_isAhead_72 ?_
    refine lv_iload hx hb dX4_isAhead_75 (lv_at hl 0 rfl) ?_
    obtain ⟨h5, hw⟩ := hw
    refine va_iald hx hb hK hP 2 0 rfl rfl h5 dX4_isAhead_77 ?_
    refine lv_icmp_eq (tgt := 105) hx hb dX4_isAhead_78 (by decide) (fun c6 => ?_) (fun c6 => ?_)
    · have hw := hw.1 c6
      refine lv_iload_n hx hb dX4_isAhead_105 rfl (lv_at hl 3 rfl) ?_
      refine lv_iload_n hx hb dX4_isAhead_106 rfl (lv_at hl 4 rfl) ?_
      refine lv_icmp_ge (tgt := 114) hx hb dX4_isAhead_107 (by decide) (fun c7 => ?_) (fun c7 => ?_)
      · have hw := hw.1 c7
        refine lv_iconst (v := (0 : Int32)) hx hb dX4_isAhead_114 (by decide) ?_
        exact W.zret (v := (0 : Int32)) hx hb hr rfl (fun t ht hW => ⟨(0 : Int32), rfl, ⟨Or.inl rfl, hw⟩, ht⟩) (fun q h => nomatch h) dX4_isAhead_115 hlocks
      · have hw := hw.2 c7
        refine lv_iconst (v := (1 : Int32)) hx hb dX4_isAhead_110 (by decide) ?_
        refine lv_goto (tgt := 115) hx hb dX4_isAhead_111 (by decide) ?_
        exact W.zret (v := (1 : Int32)) hx hb hr rfl (fun t ht hW => ⟨(1 : Int32), rfl, ⟨Or.inr rfl, hw⟩, ht⟩) (fun q h => nomatch h) dX4_isAhead_115 hlocks
    · have hw := hw.2 c6
      refine lv_aload_n hx hb dX4_isAhead_81 rfl (lv_at hl 2 rfl) ?_
      refine va_get (D := D) (ci := 4) (v := .ref (q 2)) (C := RX4) (T := TX4) (N := 11) hx hb hts (h_X4_X4_isAhead) hown hK hP 0 rfl rfl 3 (by decide) (z_w hts 1 rfl) (fun _ h9 => h9) rfl dX4_isAhead_82 ?_
      refine lv_iload_n hx hb dX4_isAhead_85 rfl (lv_at hl 1 rfl) ?_
      obtain ⟨h8, hw⟩ := hw
      refine va_iald hx hb hK hP 2 0 rfl rfl h8 dX4_isAhead_86 ?_
      refine lv_aload_n hx hb dX4_isAhead_87 rfl (lv_at hl 2 rfl) ?_
      refine va_get (D := D) (ci := 4) (v := .ref (q 2)) (C := RX4) (T := TX4) (N := 11) hx hb hts (h_X4_X4_isAhead) hown hK hP 0 rfl rfl 3 (by decide) (z_w hts 1 rfl) (fun _ h9 => h9) rfl dX4_isAhead_88 ?_
      refine lv_iload hx hb dX4_isAhead_91 (lv_at hl 0 rfl) ?_
      obtain ⟨h9, hw⟩ := hw
      refine va_iald hx hb hK hP 2 0 rfl rfl h9 dX4_isAhead_93 ?_
      refine lv_icmp_ge (tgt := 101) hx hb dX4_isAhead_94 (by decide) (fun c10 => ?_) (fun c10 => ?_)
      · have hw := hw.1 c10
        refine lv_iconst (v := (0 : Int32)) hx hb dX4_isAhead_101 (by decide) ?_
        refine lv_goto (tgt := 115) hx hb dX4_isAhead_102 (by decide) ?_
        exact W.zret (v := (0 : Int32)) hx hb hr rfl (fun t ht hW => ⟨(0 : Int32), rfl, ⟨Or.inl rfl, hw⟩, ht⟩) (fun q h => nomatch h) dX4_isAhead_115 hlocks
      · have hw := hw.2 c10
        refine lv_iconst (v := (1 : Int32)) hx hb dX4_isAhead_97 (by decide) ?_
        refine lv_goto (tgt := 115) hx hb dX4_isAhead_98 (by decide) ?_
        exact W.zret (v := (1 : Int32)) hx hb hr rfl (fun t ht hW => ⟨(1 : Int32), rfl, ⟨Or.inr rfl, hw⟩, ht⟩) (fun q h => nomatch h) dX4_isAhead_115 hlocks
  · have hw := hw.2 c3
    refine lv_aload_n hx hb dX4_isAhead_37 rfl (lv_at hl 2 rfl) ?_
    refine va_get (D := D) (ci := 4) (v := .ref (q 2)) (C := RX4) (T := TX4) (N := 11) hx hb hts (h_X4_X4_isAhead) hown hK hP 0 rfl rfl 3 (by decide) (z_w hts 1 rfl) (fun _ h9 => h9) rfl dX4_isAhead_38 ?_
    refine lv_iload_n hx hb dX4_isAhead_41 rfl (lv_at hl 1 rfl) ?_
    refine lv_iconst (v := (1 : Int32)) hx hb dX4_isAhead_42 (by decide) ?_
    refine lv_iadd hx hb dX4_isAhead_43 ?_
    obtain ⟨h11, hw⟩ := hw
    refine va_iald hx hb hK hP 2 0 rfl rfl h11 dX4_isAhead_44 ?_
    refine lv_aload_n hx hb dX4_isAhead_45 rfl (lv_at hl 2 rfl) ?_
    refine va_get (D := D) (ci := 4) (v := .ref (q 2)) (C := RX4) (T := TX4) (N := 11) hx hb hts (h_X4_X4_isAhead) hown hK hP 0 rfl rfl 3 (by decide) (z_w hts 1 rfl) (fun _ h9 => h9) rfl dX4_isAhead_46 ?_
    refine lv_iload hx hb dX4_isAhead_49 (lv_at hl 0 rfl) ?_
    refine lv_iconst (v := (1 : Int32)) hx hb dX4_isAhead_51 (by decide) ?_
    refine lv_iadd hx hb dX4_isAhead_52 ?_
    obtain ⟨h12, hw⟩ := hw
    refine va_iald hx hb hK hP 2 0 rfl rfl h12 dX4_isAhead_53 ?_
    refine lv_icmp_ge (tgt := 61) hx hb dX4_isAhead_54 (by decide) (fun c13 => ?_) (fun c13 => ?_)
    · have hw := hw.1 c13
      refine lv_iconst (v := (0 : Int32)) hx hb dX4_isAhead_61 (by decide) ?_
      refine lv_goto (tgt := 115) hx hb dX4_isAhead_62 (by decide) ?_
      exact W.zret (v := (0 : Int32)) hx hb hr rfl (fun t ht hW => ⟨(0 : Int32), rfl, ⟨Or.inl rfl, hw⟩, ht⟩) (fun q h => nomatch h) dX4_isAhead_115 hlocks
    · have hw := hw.2 c13
      refine lv_iconst (v := (1 : Int32)) hx hb dX4_isAhead_57 (by decide) ?_
      refine lv_goto (tgt := 115) hx hb dX4_isAhead_58 (by decide) ?_
      exact W.zret (v := (1 : Int32)) hx hb hr rfl (fun t ht hW => ⟨(1 : Int32), rfl, ⟨Or.inr rfl, hw⟩, ht⟩) (fun q h => nomatch h) dX4_isAhead_115 hlocks
set_option maxHeartbeats 4000000 in
set_option maxRecDepth 100000 in
theorem c_X4_isAhead (l : Launch) (D : va_G) (cs : Nat → ClassId) (q : Nat → Nat) (sz : Nat) (M : MS) (x1 : Int32) (x2 : Int32) (Q : Int32 → Prop) (hw : wp_X4_isAhead M x1 x2 Q) : Met l yX4_isAhead wsX4_isAhead ({ frames := 0, cells := 0, slots := 0, locals := 0 } : Room) (va_Pc [.ref (q 0), .int x1, .int x2] (PC D cs (w_Mod cs q M) sz)) (vp_Si (fun r => (r = 0 ∨ r = 1) ∧ Q r)) 0 0 (fun _ => False) := by
  refine Met.ofW (cc := cX4_isAhead) (maxL := 5) (ret := (some .boolean)) (by decide) rfl ?_
  intro p e s m args below meth c s₁ B hml hv
  obtain ⟨rfl, hsz, hP, hKK, hD0⟩ := hv
  have hC : MAt p s m _ meth c RX4 cX4_isAhead 5 (some .boolean) wsX4_isAhead D cs := ⟨B.exec, B.bytes, B.returns, hml, findClass_of_methodNamed B.named, atoms_spec (ws := wsX4_isAhead) B.pre, B.notSynchronized, hKK⟩
  have hl := lv_entry ([.ref (q 0), .int x1, .int x2]) (n := 5) (Nat.le_of_ble_eq_true rfl)
  rw [lg_entry_eq]
  generalize (lg_sl ([.ref (q 0), .int x1, .int x2]) ++ List.replicate (5 - (lg_sl ([.ref (q 0), .int x1, .int x2])).length) Slot.unset).toArray = ls at hl ⊢
  exact t_X4_isAhead hC q M x1 x2 Q hw hP hD0 ls hl
theorem h_X4_X4_sorted : ∀ w ∈ u_ws RX4 TX4 11, w ∈ wsX4_sorted := fun _ h => List.mem_cons_of_mem _ (List.mem_append_right _ h)
set_option maxHeartbeats 4000000 in
set_option maxRecDepth 100000 in
theorem t_X4_sorted_52 {p : Program} {l : Launch} {e : Env} {s : State} {m : MethodId} {args : Array Value} {below : List Frame} {meth : Method} {c : Code} {D : va_G} {cs : Nat → ClassId} {A : Nat → Prop} (hC : MAt p s m args meth c RX4 cX4_sorted 6 (some .int) wsX4_sorted D cs) (q : Nat → Nat) (M : MS) (x1 : Int32) (x2 : Int32) (x3 : Int32) (Q : Int32 → MS → Prop) (E89 : Int32 → Prop) (hA : ∀ q : Nat, s.heap.size ≤ q → A q) (hE89 : ∀ (x4 : Int32) , E89 x4 → ∀ (H : Heap) (locs : List Loc), va_P D vwCl (w_Mod cs q M) H → va_D A (w_Mod cs q M) → va_S A s.heap H locs → ∀ ls : Array Slot, lv_has ls 6 [(0, .ref (q 0)), (1, .int x1), (2, .int x2), (3, .int x3), (4, .int x4)] → W p l e ({ frames := 1, cells := 0, slots := 0, locals := 25 } : Room) s m args below meth c H locs 0 0 (MQ below (va_Qi (fun r (u : MS) => Q r u) (fun (u : MS) t => va_P D vwCl (w_Mod cs q u) t.heap ∧ va_D A (w_Mod cs q u)) A) args s 0 0 A) (F0 m 89 ls [])) : ∀ (n : Nat) (x4 : Int32) (x5 : Int32), wl_X4_sorted_52 M x1 x2 x3 Q E89 n x4 x5 → ∀ (H : Heap) (locs : List Loc), va_P D vwCl (w_Mod cs q M) H → va_D A (w_Mod cs q M) → va_S A s.heap H locs → ∀ ls : Array Slot, lv_has ls 6 [(0, .ref (q 0)), (1, .int x1), (2, .int x2), (3, .int x3), (4, .int x4), (5, .int x5)] → W p l e ({ frames := 1, cells := 0, slots := 0, locals := 25 } : Room) s m args below meth c H locs 0 0 (MQ below (va_Qi (fun r (u : MS) => Q r u) (fun (u : MS) t => va_P D vwCl (w_Mod cs q u) t.heap ∧ va_D A (w_Mod cs q u)) A) args s 0 0 A) (F0 m 52 ls []) := by
  obtain ⟨hx, hb, hr, hml, hown, hts, hlocks, hKK⟩ := id hC
  have hK := hKK.1
  intro n
  induction n with
  | zero =>
    intro x4 x5 hw
    exact False.elim hw
  | succ n ih =>
    intro x4 x5 hw H locs hP hD hS ls hl
    refine lv_iload hx hb dX4_sorted_52 (lv_at hl 5 rfl) ?_
    refine lv_aload_n hx hb dX4_sorted_54 rfl (lv_at hl 0 rfl) ?_
    refine va_get (D := D) (ci := 4) (v := .ref (q 2)) (C := RX4) (T := TX4) (N := 11) hx hb hts (h_X4_X4_sorted) hown hK hP 0 rfl rfl 3 (by decide) (z_w hts 1 rfl) (fun _ h9 => h9) rfl dX4_sorted_55 ?_
    refine lv_iconst (v := (3 : Int32)) hx hb dX4_sorted_58 (by decide) ?_
    refine va_iald hx hb hK hP 2 0 rfl rfl (show vp_in (3 : Int32) 336 by unfold vp_in; decide) dX4_sorted_59 ?_
    refine lv_icmp_ge (tgt := 89) hx hb dX4_sorted_60 (by decide) (fun c6 => ?_) (fun c6 => ?_)
    · have hw := hw.1 c6
      exact hE89 _ hw _ _ hP hD hS ls (lv_sub hl [0, 1, 2, 3, 4] rfl)
    · have hw := hw.2 c6
      refine lv_iload hx hb dX4_sorted_63 (lv_at hl 4 rfl) ?_
      refine lv_aload_n hx hb dX4_sorted_65 rfl (lv_at hl 0 rfl) ?_
      refine lv_iload hx hb dX4_sorted_66 (lv_at hl 5 rfl) ?_
      refine lv_iload_n hx hb dX4_sorted_68 rfl (lv_at hl 3 rfl) ?_
      refine z_calli (va_runV (As := [.int x5, .int x3]) (rest := [.int x4]) ⟨hx, hb, hml, hown, hts⟩ (c_X4_isAhead l D cs q H.size M x5 x3 _ hw) (cwV 2 hts gX4_sorted_X4_isAhead rfl rfl rfl (by decide +kernel) ⟨Nat.le_of_ble_eq_true rfl, Nat.le_of_ble_eq_true rfl⟩) (PC_V hP hD hKK 0 4 rfl rfl) rfl rfl hl.1 rfl (lv_room (Nat.le_of_ble_eq_true rfl)) dX4_sorted_69 ⟨Nat.le_of_ble_eq_true rfl, Nat.le_of_ble_eq_true rfl⟩) (fun r7 hw => ?_)
      obtain ⟨b7, hw⟩ := hw
      refine lv_if_eq (tgt := 79) hx hb dX4_sorted_72 (by decide) (fun c8 => ?_) (fun c8 => ?_)
      · have hw := hw.1 c8
        refine lv_iconst (v := (0 : Int32)) hx hb dX4_sorted_79 (by decide) ?_
        refine lv_iadd hx hb dX4_sorted_80 ?_
        refine lv_istore (lv' := [(4, .int (x4 + (0 : Int32))), (0, .ref (q 0)), (1, .int x1), (2, .int x2), (3, .int x3), (5, .int x5)]) hx hb dX4_sorted_81 hl (by decide) rfl (fun ls hl => ?_)
        refine lv_iinc (v := x5 + 1) (lv' := [(5, .int (x5 + 1)), (4, .int (x4 + (0 : Int32))), (0, .ref (q 0)), (1, .int x1), (2, .int x2), (3, .int x3)]) hx hb dX4_sorted_83 hl (k := 5) rfl rfl (by decide) rfl (fun ls hl => ?_)
        refine lv_goto (tgt := 52) hx hb dX4_sorted_86 (by decide) ?_
        exact ih _ _ hw H locs hP hD hS ls (lv_sub hl [2, 3, 4, 5, 1, 0] rfl)
      · have hw := hw.2 c8
        refine lv_iconst (v := (1 : Int32)) hx hb dX4_sorted_75 (by decide) ?_
        refine lv_goto (tgt := 80) hx hb dX4_sorted_76 (by decide) ?_
        refine lv_iadd hx hb dX4_sorted_80 ?_
        refine lv_istore (lv' := [(4, .int (x4 + (1 : Int32))), (0, .ref (q 0)), (1, .int x1), (2, .int x2), (3, .int x3), (5, .int x5)]) hx hb dX4_sorted_81 hl (by decide) rfl (fun ls hl => ?_)
        refine lv_iinc (v := x5 + 1) (lv' := [(5, .int (x5 + 1)), (4, .int (x4 + (1 : Int32))), (0, .ref (q 0)), (1, .int x1), (2, .int x2), (3, .int x3)]) hx hb dX4_sorted_83 hl (k := 5) rfl rfl (by decide) rfl (fun ls hl => ?_)
        refine lv_goto (tgt := 52) hx hb dX4_sorted_86 (by decide) ?_
        exact ih _ _ hw H locs hP hD hS ls (lv_sub hl [2, 3, 4, 5, 1, 0] rfl)
set_option maxHeartbeats 4000000 in
set_option maxRecDepth 100000 in
theorem t_X4_sorted_36 {p : Program} {l : Launch} {e : Env} {s : State} {m : MethodId} {args : Array Value} {below : List Frame} {meth : Method} {c : Code} {D : va_G} {cs : Nat → ClassId} {A : Nat → Prop} (hC : MAt p s m args meth c RX4 cX4_sorted 6 (some .int) wsX4_sorted D cs) (q : Nat → Nat) (M : MS) (x1 : Int32) (Q : Int32 → MS → Prop) (hA : ∀ q : Nat, s.heap.size ≤ q → A q) : ∀ (n : Nat) (x2 : Int32) (x3 : Int32), wl_X4_sorted_36 M x1 Q n x2 x3 → ∀ (H : Heap) (locs : List Loc), va_P D vwCl (w_Mod cs q M) H → va_D A (w_Mod cs q M) → va_S A s.heap H locs → ∀ ls : Array Slot, lv_has ls 6 [(0, .ref (q 0)), (1, .int x1), (2, .int x2), (3, .int x3)] → W p l e ({ frames := 1, cells := 0, slots := 0, locals := 25 } : Room) s m args below meth c H locs 0 0 (MQ below (va_Qi (fun r (u : MS) => Q r u) (fun (u : MS) t => va_P D vwCl (w_Mod cs q u) t.heap ∧ va_D A (w_Mod cs q u)) A) args s 0 0 A) (F0 m 36 ls []) := by
  obtain ⟨hx, hb, hr, hml, hown, hts, hlocks, hKK⟩ := id hC
  have hK := hKK.1
  intro n
  induction n with
  | zero =>
    intro x2 x3 hw
    exact False.elim hw
  | succ n ih =>
    intro x2 x3 hw H locs hP hD hS ls hl
    refine lv_iload_n hx hb dX4_sorted_36 rfl (lv_at hl 3 rfl) ?_
    refine lv_aload_n hx hb dX4_sorted_37 rfl (lv_at hl 0 rfl) ?_
    refine va_get (D := D) (ci := 4) (v := .ref (q 2)) (C := RX4) (T := TX4) (N := 11) hx hb hts (h_X4_X4_sorted) hown hK hP 0 rfl rfl 3 (by decide) (z_w hts 1 rfl) (fun _ h9 => h9) rfl dX4_sorted_38 ?_
    refine lv_iconst (v := (3 : Int32)) hx hb dX4_sorted_41 (by decide) ?_
    refine va_iald hx hb hK hP 2 0 rfl rfl (show vp_in (3 : Int32) 336 by unfold vp_in; decide) dX4_sorted_42 ?_
    refine lv_icmp_ge (tgt := 107) hx hb dX4_sorted_43 (by decide) (fun c5 => ?_) (fun c5 => ?_)
    · have hw := hw.1 c5
      refine lv_iload_n hx hb dX4_sorted_107 rfl (lv_at hl 2 rfl) ?_
      exact W.iret (v := x2) hx hb hr (fun t ht hW => ⟨⟨x2, (M), rfl, hw, by rw [ht]; exact hP, hD⟩, hS.F ht⟩) hS.2.2 dX4_sorted_108 hlocks
    · have hw := hw.2 c5
      refine lv_iconst (v := (0 : Int32)) hx hb dX4_sorted_46 (by decide) ?_
      refine lv_istore (lv' := [(4, .int (0 : Int32)), (0, .ref (q 0)), (1, .int x1), (2, .int x2), (3, .int x3)]) hx hb dX4_sorted_47 hl (by decide) rfl (fun ls hl => ?_)
      refine lv_iconst (v := (0 : Int32)) hx hb dX4_sorted_49 (by decide) ?_
      refine lv_istore (lv' := [(5, .int (0 : Int32)), (4, .int (0 : Int32)), (0, .ref (q 0)), (1, .int x1), (2, .int x2), (3, .int x3)]) hx hb dX4_sorted_50 hl (by decide) rfl (fun ls hl => ?_)
      obtain ⟨n11, hw⟩ := hw
      refine t_X4_sorted_52 hC q _ _ _ _ _ _ hA ?_ n11 _ _ hw H locs hP hD hS ls (lv_sub hl [2, 3, 4, 5, 1, 0] rfl)
      · intro y9 hw H locs hP hD hS ls hl
        refine lv_iload hx hb dX4_sorted_89 (lv_at hl 4 rfl) ?_
        refine lv_iload_n hx hb dX4_sorted_91 rfl (lv_at hl 1 rfl) ?_
        refine lv_icmp_ne (tgt := 99) hx hb dX4_sorted_92 (by decide) (fun c10 => ?_) (fun c10 => ?_)
        · have hw := hw.2 c10
          refine lv_iload_n hx hb dX4_sorted_99 rfl (lv_at hl 2 rfl) ?_
          refine lv_istore_n (lv' := [(2, .int x2), (0, .ref (q 0)), (1, .int x1), (3, .int x3), (4, .int y9)]) hx hb dX4_sorted_100 rfl hl (by decide) rfl (fun ls hl => ?_)
          refine lv_iinc (v := x3 + 1) (lv' := [(3, .int (x3 + 1)), (2, .int x2), (0, .ref (q 0)), (1, .int x1), (4, .int y9)]) hx hb dX4_sorted_101 hl (k := 3) rfl rfl (by decide) rfl (fun ls hl => ?_)
          refine lv_goto (tgt := 36) hx hb dX4_sorted_104 (by decide) ?_
          exact ih _ _ hw H locs hP hD hS ls (lv_sub hl [2, 3, 1, 0] rfl)
        · have hw := hw.1 c10
          refine lv_iload_n hx hb dX4_sorted_95 rfl (lv_at hl 3 rfl) ?_
          refine lv_goto (tgt := 100) hx hb dX4_sorted_96 (by decide) ?_
          refine lv_istore_n (lv' := [(2, .int x3), (0, .ref (q 0)), (1, .int x1), (3, .int x3), (4, .int y9)]) hx hb dX4_sorted_100 rfl hl (by decide) rfl (fun ls hl => ?_)
          refine lv_iinc (v := x3 + 1) (lv' := [(3, .int (x3 + 1)), (2, .int x3), (0, .ref (q 0)), (1, .int x1), (4, .int y9)]) hx hb dX4_sorted_101 hl (k := 3) rfl rfl (by decide) rfl (fun ls hl => ?_)
          refine lv_goto (tgt := 36) hx hb dX4_sorted_104 (by decide) ?_
          exact ih _ _ hw H locs hP hD hS ls (lv_sub hl [2, 3, 1, 0] rfl)
set_option maxHeartbeats 4000000 in
set_option maxRecDepth 100000 in
theorem t_X4_sorted {p : Program} {l : Launch} {e : Env} {s : State} {m : MethodId} {args : Array Value} {below : List Frame} {meth : Method} {c : Code} {D : va_G} {cs : Nat → ClassId} {A : Nat → Prop} (hC : MAt p s m args meth c RX4 cX4_sorted 6 (some .int) wsX4_sorted D cs) (q : Nat → Nat) (M : MS) (x1 : Int32) (Q : Int32 → MS → Prop) (hA : ∀ q : Nat, s.heap.size ≤ q → A q) (hw : wp_X4_sorted M x1 Q) (H : Heap) (locs : List Loc) (hP : va_P D vwCl (w_Mod cs q M) H) (hD : va_D A (w_Mod cs q M)) (hS : va_S A s.heap H locs) (ls : Array Slot) (hl : lv_has ls 6 [(0, .ref (q 0)), (1, .int x1)]) : W p l e ({ frames := 1, cells := 0, slots := 0, locals := 25 } : Room) s m args below meth c H locs 0 0 (MQ below (va_Qi (fun r (u : MS) => Q r u) (fun (u : MS) t => va_P D vwCl (w_Mod cs q u) t.heap ∧ va_D A (w_Mod cs q u)) A) args s 0 0 A) (F0 m 0 ls []) := by
  obtain ⟨hx, hb, hr, hml, hown, hts, hlocks, hKK⟩ := id hC
  have hK := hKK.1
  refine lv_aload_n hx hb dX4_sorted_0 rfl (lv_at hl 0 rfl) ?_
  refine lv_iload_n hx hb dX4_sorted_1 rfl (lv_at hl 1 rfl) ?_
  refine lv_i2l (v := x1.toInt64) hx hb dX4_sorted_2 rfl ?_
  refine lv_lconst (v := (0 : Int64)) hx hb dX4_sorted_3 (by decide) ?_
  refine lv_aload_n hx hb dX4_sorted_4 rfl (lv_at hl 0 rfl) ?_
  refine va_get (D := D) (ci := 4) (v := .ref (q 2)) (C := RX4) (T := TX4) (N := 11) hx hb hts (h_X4_X4_sorted) hown hK hP 0 rfl rfl 3 (by decide) (z_w hts 1 rfl) (fun _ h9 => h9) rfl dX4_sorted_5 ?_
  refine lv_iconst (v := (3 : Int32)) hx hb dX4_sorted_8 (by decide) ?_
  refine va_iald hx hb hK hP 2 0 rfl rfl (show vp_in (3 : Int32) 336 by unfold vp_in; decide) dX4_sorted_9 ?_
  refine lv_iconst (v := (1 : Int32)) hx hb dX4_sorted_10 (by decide) ?_
  refine lv_isub hx hb dX4_sorted_11 ?_
  refine lv_i2l (v := ((M 2 (3 : Int32).toNatClampNeg) - (1 : Int32)).toInt64) hx hb dX4_sorted_12 rfl ?_
  have hPc := hP.sub (ws' := ([] : va_W)) [] rfl
  have hDc := hD.sub (ws' := ([] : va_W)) [] (by decide) rfl
  refine z_calli (va_runS (As := [.long x1.toInt64, .long (0 : Int64), .long (((M 2 (3 : Int32).toNatClampNeg) - (1 : Int32)).toInt64)]) (rest := [.ref (q 0)]) ⟨hx, hb, hml, hown, hts⟩ (c_X4_in l D cs  H.size x1.toInt64 (0 : Int64) (((M 2 (3 : Int32).toNatClampNeg) - (1 : Int32)).toInt64) _ hw) (va_cwS 3 hts gX4_sorted_X4_in rfl rfl rfl (by decide +kernel) ⟨Nat.le_of_ble_eq_true rfl, Nat.le_of_ble_eq_true rfl⟩) (PC_S hPc hDc hKK) rfl rfl hl.1 rfl (lv_room (Nat.le_of_ble_eq_true rfl)) dX4_sorted_13 ⟨Nat.le_of_ble_eq_true rfl, Nat.le_of_ble_eq_true rfl⟩) (fun r1 hw => ?_)
  obtain ⟨b1, hw⟩ := hw
  refine lv_if_eq (tgt := 23) hx hb dX4_sorted_16 (by decide) (fun c2 => ?_) (fun c2 => ?_)
  · have hw := hw.1 c2
    refine lv_iconst (v := (1 : Int32)) hx hb dX4_sorted_23 (by decide) ?_
    have hFc := va_free (wc := w_Mod cs q M) hD hS hA [0, 1, 2, 3, 4, 5, 6, 7, 8] rfl
    refine va_calli (va_runV (As := [.int (1 : Int32)]) (rest := []) ⟨hx, hb, hml, hown, hts⟩ (c_X4_refused l D cs q H.size M (1 : Int32) _ hw) (cwV 1 hts gX4_sorted_X4_refused rfl rfl rfl (by decide +kernel) ⟨Nat.le_of_ble_eq_true rfl, Nat.le_of_ble_eq_true rfl⟩) (PC_V hP hD hKK 0 4 rfl rfl) rfl rfl hl.1 rfl (lv_room (Nat.le_of_ble_eq_true rfl)) dX4_sorted_24 ⟨Nat.le_of_ble_eq_true rfl, Nat.le_of_ble_eq_true rfl⟩) hS (fun q _ h => hFc q h) hFc (fun r3 u3 t H locs ht hvm hw hB hz1 hk1 hS => ?_)
    obtain ⟨hP1, hD1⟩ := hB
    rw [ht] at hP1
    obtain ⟨b3, hw⟩ := hw
    have hD : va_D A (w_Mod cs q u3) := hD1.weaken (fun k q _ h => hFc q.1 h)
    have hP : va_P D vwCl (w_Mod cs q u3) H := hP1
    refine lv_if_eq (tgt := 32) hx hb dX4_sorted_27 (by decide) (fun c4 => ?_) (fun c4 => ?_)
    · have hw := hw.1 c4
      refine lv_iconst (v := (-1 : Int32)) hx hb dX4_sorted_32 (by decide) ?_
      refine lv_istore_n (lv' := [(2, .int (-1 : Int32)), (0, .ref (q 0)), (1, .int x1)]) hx hb dX4_sorted_33 rfl hl (by decide) rfl (fun ls hl => ?_)
      refine lv_iconst (v := (0 : Int32)) hx hb dX4_sorted_34 (by decide) ?_
      refine lv_istore_n (lv' := [(3, .int (0 : Int32)), (2, .int (-1 : Int32)), (0, .ref (q 0)), (1, .int x1)]) hx hb dX4_sorted_35 rfl hl (by decide) rfl (fun ls hl => ?_)
      obtain ⟨n12, hw⟩ := hw
      exact t_X4_sorted_36 hC q _ _ _ hA n12 _ _ hw H locs hP hD hS ls (lv_sub hl [2, 3, 1, 0] rfl)
    · have hw := hw.2 c4
      refine lv_iconst (v := (0 : Int32)) hx hb dX4_sorted_30 (by decide) ?_
      exact W.iret (v := (0 : Int32)) hx hb hr (fun t ht hW => ⟨⟨(0 : Int32), (u3), rfl, hw, by rw [ht]; exact hP, hD⟩, hS.F ht⟩) hS.2.2 dX4_sorted_31 hlocks
  · have hw := hw.2 c2
    refine lv_iconst (v := (0 : Int32)) hx hb dX4_sorted_19 (by decide) ?_
    refine lv_goto (tgt := 24) hx hb dX4_sorted_20 (by decide) ?_
    have hFc := va_free (wc := w_Mod cs q M) hD hS hA [0, 1, 2, 3, 4, 5, 6, 7, 8] rfl
    refine va_calli (va_runV (As := [.int (0 : Int32)]) (rest := []) ⟨hx, hb, hml, hown, hts⟩ (c_X4_refused l D cs q H.size M (0 : Int32) _ hw) (cwV 1 hts gX4_sorted_X4_refused rfl rfl rfl (by decide +kernel) ⟨Nat.le_of_ble_eq_true rfl, Nat.le_of_ble_eq_true rfl⟩) (PC_V hP hD hKK 0 4 rfl rfl) rfl rfl hl.1 rfl (lv_room (Nat.le_of_ble_eq_true rfl)) dX4_sorted_24 ⟨Nat.le_of_ble_eq_true rfl, Nat.le_of_ble_eq_true rfl⟩) hS (fun q _ h => hFc q h) hFc (fun r13 u13 t H locs ht hvm hw hB hz1 hk1 hS => ?_)
    obtain ⟨hP1, hD1⟩ := hB
    rw [ht] at hP1
    obtain ⟨b13, hw⟩ := hw
    have hD : va_D A (w_Mod cs q u13) := hD1.weaken (fun k q _ h => hFc q.1 h)
    have hP : va_P D vwCl (w_Mod cs q u13) H := hP1
    refine lv_if_eq (tgt := 32) hx hb dX4_sorted_27 (by decide) (fun c14 => ?_) (fun c14 => ?_)
    · have hw := hw.1 c14
      refine lv_iconst (v := (-1 : Int32)) hx hb dX4_sorted_32 (by decide) ?_
      refine lv_istore_n (lv' := [(2, .int (-1 : Int32)), (0, .ref (q 0)), (1, .int x1)]) hx hb dX4_sorted_33 rfl hl (by decide) rfl (fun ls hl => ?_)
      refine lv_iconst (v := (0 : Int32)) hx hb dX4_sorted_34 (by decide) ?_
      refine lv_istore_n (lv' := [(3, .int (0 : Int32)), (2, .int (-1 : Int32)), (0, .ref (q 0)), (1, .int x1)]) hx hb dX4_sorted_35 rfl hl (by decide) rfl (fun ls hl => ?_)
      obtain ⟨n15, hw⟩ := hw
      exact t_X4_sorted_36 hC q _ _ _ hA n15 _ _ hw H locs hP hD hS ls (lv_sub hl [2, 3, 1, 0] rfl)
    · have hw := hw.2 c14
      refine lv_iconst (v := (0 : Int32)) hx hb dX4_sorted_30 (by decide) ?_
      exact W.iret (v := (0 : Int32)) hx hb hr (fun t ht hW => ⟨⟨(0 : Int32), (u13), rfl, hw, by rw [ht]; exact hP, hD⟩, hS.F ht⟩) hS.2.2 dX4_sorted_31 hlocks
set_option maxHeartbeats 4000000 in
set_option maxRecDepth 100000 in
theorem c_X4_sorted (l : Launch) (D : va_G) (cs : Nat → ClassId) (q : Nat → Nat) (sz : Nat) (M : MS) (x1 : Int32) (Q : Int32 → MS → Prop) (hw : wp_X4_sorted M x1 Q) : Met l yX4_sorted wsX4_sorted ({ frames := 1, cells := 0, slots := 0, locals := 25 } : Room) (va_Pc [.ref (q 0), .int x1] (PC D cs (w_Mod cs q M) sz)) (va_Qi (fun r (u : MS) => Q r u) (fun (u : MS) t => va_P D vwCl (w_Mod cs q u) t.heap ∧ va_D (va_A (w_Mod cs q M) sz) (w_Mod cs q u)) (va_A (w_Mod cs q M) sz)) 0 0 (va_A (w_Mod cs q M) sz) := by
  refine Met.ofW (cc := cX4_sorted) (maxL := 6) (ret := (some .int)) (by decide) rfl ?_
  intro p e s m args below meth c s₁ B hml hv
  obtain ⟨rfl, hsz, hP, hKK, hD0⟩ := hv
  have hC : MAt p s m _ meth c RX4 cX4_sorted 6 (some .int) wsX4_sorted D cs := ⟨B.exec, B.bytes, B.returns, hml, findClass_of_methodNamed B.named, atoms_spec (ws := wsX4_sorted) B.pre, B.notSynchronized, hKK⟩
  have hl := lv_entry ([.ref (q 0), .int x1]) (n := 6) (Nat.le_of_ble_eq_true rfl)
  rw [lg_entry_eq]
  generalize (lg_sl ([.ref (q 0), .int x1]) ++ List.replicate (6 - (lg_sl ([.ref (q 0), .int x1])).length) Slot.unset).toArray = ls at hl ⊢
  subst hsz
  have hD := hD0.self (sz := s.heap.size)
  have hA : ∀ z : Nat, s.heap.size ≤ z → va_A (w_Mod cs q M) s.heap.size z := fun z h => Or.inr h
  exact t_X4_sorted hC q M x1 Q hA hw s.heap [] hP hD va_S.rf ls hl
theorem h_X4_X4_ranked : ∀ w ∈ u_ws RX4 TX4 11, w ∈ wsX4_ranked := fun _ h => List.mem_cons_of_mem _ (List.mem_append_right _ h)
set_option maxHeartbeats 4000000 in
set_option maxRecDepth 100000 in
theorem t_X4_ranked_47 {p : Program} {l : Launch} {e : Env} {s : State} {m : MethodId} {args : Array Value} {below : List Frame} {meth : Method} {c : Code} {D : va_G} {cs : Nat → ClassId} {A : Nat → Prop} (hC : MAt p s m args meth c RX4 cX4_ranked 9 (some .int) wsX4_ranked D cs) (q : Nat → Nat) (M : MS) (x1 : Int32) (x2 : Int32) (x3 : Int32) (x4 : Int32) (Q : Int32 → MS → Prop) (E118 : Int32 → Prop) (hA : ∀ q : Nat, s.heap.size ≤ q → A q) (hE118 : ∀ (x5 : Int32) , E118 x5 → ∀ (H : Heap) (locs : List Loc), va_P D vwCl (w_Mod cs q M) H → va_D A (w_Mod cs q M) → va_S A s.heap H locs → ∀ ls : Array Slot, lv_has ls 9 [(0, .ref (q 0)), (1, .int x1), (2, .int x2), (3, .int x3), (4, .int x4), (5, .int x5)] → W p l e ({ frames := 3, cells := 0, slots := 0, locals := 66 } : Room) s m args below meth c H locs 0 0 (MQ below (va_Qi (fun r (u : MS) => Q r u) (fun (u : MS) t => va_P D vwCl (w_Mod cs q u) t.heap ∧ va_D A (w_Mod cs q u)) A) args s 0 0 A) (F0 m 118 ls [])) : ∀ (n : Nat) (x5 : Int32) (x6 : Int32), wl_X4_ranked_47 M x1 x2 x3 x4 Q E118 n x5 x6 → ∀ (H : Heap) (locs : List Loc), va_P D vwCl (w_Mod cs q M) H → va_D A (w_Mod cs q M) → va_S A s.heap H locs → ∀ ls : Array Slot, lv_has ls 9 [(0, .ref (q 0)), (1, .int x1), (2, .int x2), (3, .int x3), (4, .int x4), (5, .int x5), (6, .int x6)] → W p l e ({ frames := 3, cells := 0, slots := 0, locals := 66 } : Room) s m args below meth c H locs 0 0 (MQ below (va_Qi (fun r (u : MS) => Q r u) (fun (u : MS) t => va_P D vwCl (w_Mod cs q u) t.heap ∧ va_D A (w_Mod cs q u)) A) args s 0 0 A) (F0 m 47 ls []) := by
  obtain ⟨hx, hb, hr, hml, hown, hts, hlocks, hKK⟩ := id hC
  have hK := hKK.1
  intro n
  induction n with
  | zero =>
    intro x5 x6 hw
    exact False.elim hw
  | succ n ih =>
    intro x5 x6 hw H locs hP hD hS ls hl
    refine lv_iload hx hb dX4_ranked_47 (lv_at hl 6 rfl) ?_
    refine lv_aload_n hx hb dX4_ranked_49 rfl (lv_at hl 0 rfl) ?_
    refine va_get (D := D) (ci := 4) (v := .ref (q 2)) (C := RX4) (T := TX4) (N := 11) hx hb hts (h_X4_X4_ranked) hown hK hP 0 rfl rfl 3 (by decide) (z_w hts 1 rfl) (fun _ h9 => h9) rfl dX4_ranked_50 ?_
    refine lv_iconst (v := (0 : Int32)) hx hb dX4_ranked_53 (by decide) ?_
    refine va_iald hx hb hK hP 2 0 rfl rfl (show vp_in (0 : Int32) 336 by unfold vp_in; decide) dX4_ranked_54 ?_
    refine lv_icmp_ge (tgt := 118) hx hb dX4_ranked_55 (by decide) (fun c6 => ?_) (fun c6 => ?_)
    · have hw := hw.1 c6
      exact hE118 _ hw _ _ hP hD hS ls (lv_sub hl [0, 1, 2, 3, 4, 5] rfl)
    · have hw := hw.2 c6
      refine lv_aload_n hx hb dX4_ranked_58 rfl (lv_at hl 0 rfl) ?_
      refine va_get (D := D) (ci := 4) (v := .ref (q 2)) (C := RX4) (T := TX4) (N := 11) hx hb hts (h_X4_X4_ranked) hown hK hP 0 rfl rfl 3 (by decide) (z_w hts 1 rfl) (fun _ h9 => h9) rfl dX4_ranked_59 ?_
      refine lv_iload hx hb dX4_ranked_62 (lv_at hl 6 rfl) ?_
      refine lv_iload_n hx hb dX4_ranked_64 rfl (lv_at hl 2 rfl) ?_
      have hPc := hP.sub (ws' := w_Row cs (q 2) 336 (M 2)) [2] rfl
      have hDc := hD.sub (ws' := w_Row cs (q 2) 336 (M 2)) [2] (by decide) rfl
      refine z_calll (va_runS (As := [.ref (q 2), .int x6, .int x2]) (rest := []) ⟨hx, hb, hml, hown, hts⟩ (c_X4_reading l D cs (q 2) H.size (M 2) x6 x2 _ hw) (va_cwS 3 hts gX4_ranked_X4_reading rfl rfl rfl (by decide +kernel) ⟨Nat.le_of_ble_eq_true rfl, Nat.le_of_ble_eq_true rfl⟩) (PC_S hPc hDc hKK) rfl rfl hl.1 rfl (lv_room (Nat.le_of_ble_eq_true rfl)) dX4_ranked_65 ⟨Nat.le_of_ble_eq_true rfl, Nat.le_of_ble_eq_true rfl⟩) (fun r7 hw => ?_)
      refine lv_aload_n hx hb dX4_ranked_68 rfl (lv_at hl 0 rfl) ?_
      refine va_get (D := D) (ci := 4) (v := .ref (q 2)) (C := RX4) (T := TX4) (N := 11) hx hb hts (h_X4_X4_ranked) hown hK hP 0 rfl rfl 3 (by decide) (z_w hts 1 rfl) (fun _ h9 => h9) rfl dX4_ranked_69 ?_
      refine lv_iload hx hb dX4_ranked_72 (lv_at hl 4 rfl) ?_
      refine lv_iload_n hx hb dX4_ranked_74 rfl (lv_at hl 2 rfl) ?_
      have hPc := hP.sub (ws' := w_Row cs (q 2) 336 (M 2)) [2] rfl
      have hDc := hD.sub (ws' := w_Row cs (q 2) 336 (M 2)) [2] (by decide) rfl
      refine z_calll (va_runS (As := [.ref (q 2), .int x4, .int x2]) (rest := [.long r7]) ⟨hx, hb, hml, hown, hts⟩ (c_X4_reading l D cs (q 2) H.size (M 2) x4 x2 _ hw) (va_cwS 3 hts gX4_ranked_X4_reading rfl rfl rfl (by decide +kernel) ⟨Nat.le_of_ble_eq_true rfl, Nat.le_of_ble_eq_true rfl⟩) (PC_S hPc hDc hKK) rfl rfl hl.1 rfl (lv_room (Nat.le_of_ble_eq_true rfl)) dX4_ranked_75 ⟨Nat.le_of_ble_eq_true rfl, Nat.le_of_ble_eq_true rfl⟩) (fun r8 hw => ?_)
      refine lv_lsub hx hb dX4_ranked_78 ?_
      refine lv_lstore (lv' := [(7, .long (r7 - r8)), (0, .ref (q 0)), (1, .int x1), (2, .int x2), (3, .int x3), (4, .int x4), (5, .int x5), (6, .int x6)]) hx hb dX4_ranked_79 hl (by decide) rfl (fun ls hl => ?_)
      refine lv_iload hx hb dX4_ranked_81 (lv_at hl 6 rfl) ?_
      refine lv_lload hx hb dX4_ranked_83 (lv_at hl 0 rfl) ?_
      refine lv_lconst (v := (0 : Int64)) hx hb dX4_ranked_85 (by decide) ?_
      refine W.lcmp hx hb dX4_ranked_86 ?_
      refine lv_if_gt (tgt := 104) hx hb dX4_ranked_87 (by decide) (fun c9 => ?_) (fun c9 => ?_)
      · have hw := hw.1 c9
        refine lv_iconst (v := (1 : Int32)) hx hb dX4_ranked_104 (by decide) ?_
        refine lv_goto (tgt := 109) hx hb dX4_ranked_105 (by decide) ?_
        refine lv_iadd hx hb dX4_ranked_109 ?_
        refine lv_istore (lv' := [(5, .int (x5 + (1 : Int32))), (7, .long (r7 - r8)), (0, .ref (q 0)), (1, .int x1), (2, .int x2), (3, .int x3), (4, .int x4), (6, .int x6)]) hx hb dX4_ranked_110 hl (by decide) rfl (fun ls hl => ?_)
        refine lv_iinc (v := x6 + 1) (lv' := [(6, .int (x6 + 1)), (5, .int (x5 + (1 : Int32))), (7, .long (r7 - r8)), (0, .ref (q 0)), (1, .int x1), (2, .int x2), (3, .int x3), (4, .int x4)]) hx hb dX4_ranked_112 hl (k := 7) rfl rfl (by decide) rfl (fun ls hl => ?_)
        refine lv_goto (tgt := 47) hx hb dX4_ranked_115 (by decide) ?_
        exact ih _ _ hw H locs hP hD hS ls (lv_sub hl [3, 4, 5, 6, 7, 1, 0] rfl)
      · have hw := hw.2 c9
        refine lv_lload hx hb dX4_ranked_90 (lv_at hl 0 rfl) ?_
        refine lv_lconst (v := (0 : Int64)) hx hb dX4_ranked_92 (by decide) ?_
        refine W.lcmp hx hb dX4_ranked_93 ?_
        refine lv_if_ne (tgt := 108) hx hb dX4_ranked_94 (by decide) (fun c10 => ?_) (fun c10 => ?_)
        · have hw := hw.2 c10
          refine lv_iconst (v := (0 : Int32)) hx hb dX4_ranked_108 (by decide) ?_
          refine lv_iadd hx hb dX4_ranked_109 ?_
          refine lv_istore (lv' := [(5, .int (x5 + (0 : Int32))), (7, .long (r7 - r8)), (0, .ref (q 0)), (1, .int x1), (2, .int x2), (3, .int x3), (4, .int x4), (6, .int x6)]) hx hb dX4_ranked_110 hl (by decide) rfl (fun ls hl => ?_)
          refine lv_iinc (v := x6 + 1) (lv' := [(6, .int (x6 + 1)), (5, .int (x5 + (0 : Int32))), (7, .long (r7 - r8)), (0, .ref (q 0)), (1, .int x1), (2, .int x2), (3, .int x3), (4, .int x4)]) hx hb dX4_ranked_112 hl (k := 7) rfl rfl (by decide) rfl (fun ls hl => ?_)
          refine lv_goto (tgt := 47) hx hb dX4_ranked_115 (by decide) ?_
          exact ih _ _ hw H locs hP hD hS ls (lv_sub hl [3, 4, 5, 6, 7, 1, 0] rfl)
        · have hw := hw.1 c10
          refine lv_iload hx hb dX4_ranked_97 (lv_at hl 7 rfl) ?_
          refine lv_iload hx hb dX4_ranked_99 (lv_at hl 5 rfl) ?_
          refine lv_icmp_ge (tgt := 108) hx hb dX4_ranked_101 (by decide) (fun c11 => ?_) (fun c11 => ?_)
          · have hw := hw.1 c11
            refine lv_iconst (v := (0 : Int32)) hx hb dX4_ranked_108 (by decide) ?_
            refine lv_iadd hx hb dX4_ranked_109 ?_
            refine lv_istore (lv' := [(5, .int (x5 + (0 : Int32))), (7, .long (r7 - r8)), (0, .ref (q 0)), (1, .int x1), (2, .int x2), (3, .int x3), (4, .int x4), (6, .int x6)]) hx hb dX4_ranked_110 hl (by decide) rfl (fun ls hl => ?_)
            refine lv_iinc (v := x6 + 1) (lv' := [(6, .int (x6 + 1)), (5, .int (x5 + (0 : Int32))), (7, .long (r7 - r8)), (0, .ref (q 0)), (1, .int x1), (2, .int x2), (3, .int x3), (4, .int x4)]) hx hb dX4_ranked_112 hl (k := 7) rfl rfl (by decide) rfl (fun ls hl => ?_)
            refine lv_goto (tgt := 47) hx hb dX4_ranked_115 (by decide) ?_
            exact ih _ _ hw H locs hP hD hS ls (lv_sub hl [3, 4, 5, 6, 7, 1, 0] rfl)
          · have hw := hw.2 c11
            refine lv_iconst (v := (1 : Int32)) hx hb dX4_ranked_104 (by decide) ?_
            refine lv_goto (tgt := 109) hx hb dX4_ranked_105 (by decide) ?_
            refine lv_iadd hx hb dX4_ranked_109 ?_
            refine lv_istore (lv' := [(5, .int (x5 + (1 : Int32))), (7, .long (r7 - r8)), (0, .ref (q 0)), (1, .int x1), (2, .int x2), (3, .int x3), (4, .int x4), (6, .int x6)]) hx hb dX4_ranked_110 hl (by decide) rfl (fun ls hl => ?_)
            refine lv_iinc (v := x6 + 1) (lv' := [(6, .int (x6 + 1)), (5, .int (x5 + (1 : Int32))), (7, .long (r7 - r8)), (0, .ref (q 0)), (1, .int x1), (2, .int x2), (3, .int x3), (4, .int x4)]) hx hb dX4_ranked_112 hl (k := 7) rfl rfl (by decide) rfl (fun ls hl => ?_)
            refine lv_goto (tgt := 47) hx hb dX4_ranked_115 (by decide) ?_
            exact ih _ _ hw H locs hP hD hS ls (lv_sub hl [3, 4, 5, 6, 7, 1, 0] rfl)
set_option maxHeartbeats 4000000 in
set_option maxRecDepth 100000 in
theorem t_X4_ranked_30 {p : Program} {l : Launch} {e : Env} {s : State} {m : MethodId} {args : Array Value} {below : List Frame} {meth : Method} {c : Code} {D : va_G} {cs : Nat → ClassId} {A : Nat → Prop} (hC : MAt p s m args meth c RX4 cX4_ranked 9 (some .int) wsX4_ranked D cs) (q : Nat → Nat) (M : MS) (x1 : Int32) (x2 : Int32) (Q : Int32 → MS → Prop) (hA : ∀ q : Nat, s.heap.size ≤ q → A q) : ∀ (n : Nat) (x3 : Int32) (x4 : Int32), wl_X4_ranked_30 M x1 x2 Q n x3 x4 → ∀ (H : Heap) (locs : List Loc), va_P D vwCl (w_Mod cs q M) H → va_D A (w_Mod cs q M) → va_S A s.heap H locs → ∀ ls : Array Slot, lv_has ls 9 [(0, .ref (q 0)), (1, .int x1), (2, .int x2), (3, .int x3), (4, .int x4)] → W p l e ({ frames := 3, cells := 0, slots := 0, locals := 66 } : Room) s m args below meth c H locs 0 0 (MQ below (va_Qi (fun r (u : MS) => Q r u) (fun (u : MS) t => va_P D vwCl (w_Mod cs q u) t.heap ∧ va_D A (w_Mod cs q u)) A) args s 0 0 A) (F0 m 30 ls []) := by
  obtain ⟨hx, hb, hr, hml, hown, hts, hlocks, hKK⟩ := id hC
  have hK := hKK.1
  intro n
  induction n with
  | zero =>
    intro x3 x4 hw
    exact False.elim hw
  | succ n ih =>
    intro x3 x4 hw H locs hP hD hS ls hl
    refine lv_iload hx hb dX4_ranked_30 (lv_at hl 4 rfl) ?_
    refine lv_aload_n hx hb dX4_ranked_32 rfl (lv_at hl 0 rfl) ?_
    refine va_get (D := D) (ci := 4) (v := .ref (q 2)) (C := RX4) (T := TX4) (N := 11) hx hb hts (h_X4_X4_ranked) hown hK hP 0 rfl rfl 3 (by decide) (z_w hts 1 rfl) (fun _ h9 => h9) rfl dX4_ranked_33 ?_
    refine lv_iconst (v := (0 : Int32)) hx hb dX4_ranked_36 (by decide) ?_
    refine va_iald hx hb hK hP 2 0 rfl rfl (show vp_in (0 : Int32) 336 by unfold vp_in; decide) dX4_ranked_37 ?_
    refine lv_icmp_ge (tgt := 137) hx hb dX4_ranked_38 (by decide) (fun c5 => ?_) (fun c5 => ?_)
    · have hw := hw.1 c5
      refine lv_iload_n hx hb dX4_ranked_137 rfl (lv_at hl 3 rfl) ?_
      exact W.iret (v := x3) hx hb hr (fun t ht hW => ⟨⟨x3, (M), rfl, hw, by rw [ht]; exact hP, hD⟩, hS.F ht⟩) hS.2.2 dX4_ranked_138 hlocks
    · have hw := hw.2 c5
      refine lv_iconst (v := (0 : Int32)) hx hb dX4_ranked_41 (by decide) ?_
      refine lv_istore (lv' := [(5, .int (0 : Int32)), (0, .ref (q 0)), (1, .int x1), (2, .int x2), (3, .int x3), (4, .int x4)]) hx hb dX4_ranked_42 hl (by decide) rfl (fun ls hl => ?_)
      refine lv_iconst (v := (0 : Int32)) hx hb dX4_ranked_44 (by decide) ?_
      refine lv_istore (lv' := [(6, .int (0 : Int32)), (5, .int (0 : Int32)), (0, .ref (q 0)), (1, .int x1), (2, .int x2), (3, .int x3), (4, .int x4)]) hx hb dX4_ranked_45 hl (by decide) rfl (fun ls hl => ?_)
      obtain ⟨n14, hw⟩ := hw
      refine t_X4_ranked_47 hC q _ _ _ _ _ _ _ hA ?_ n14 _ _ hw H locs hP hD hS ls (lv_sub hl [2, 3, 4, 5, 6, 1, 0] rfl)
      · intro y12 hw H locs hP hD hS ls hl
        refine lv_iload hx hb dX4_ranked_118 (lv_at hl 5 rfl) ?_
        refine lv_iload_n hx hb dX4_ranked_120 rfl (lv_at hl 1 rfl) ?_
        refine lv_icmp_ne (tgt := 129) hx hb dX4_ranked_121 (by decide) (fun c13 => ?_) (fun c13 => ?_)
        · have hw := hw.2 c13
          refine lv_iload_n hx hb dX4_ranked_129 rfl (lv_at hl 3 rfl) ?_
          refine lv_istore_n (lv' := [(3, .int x3), (0, .ref (q 0)), (1, .int x1), (2, .int x2), (4, .int x4), (5, .int y12)]) hx hb dX4_ranked_130 rfl hl (by decide) rfl (fun ls hl => ?_)
          refine lv_iinc (v := x4 + 1) (lv' := [(4, .int (x4 + 1)), (3, .int x3), (0, .ref (q 0)), (1, .int x1), (2, .int x2), (5, .int y12)]) hx hb dX4_ranked_131 hl (k := 4) rfl rfl (by decide) rfl (fun ls hl => ?_)
          refine lv_goto (tgt := 30) hx hb dX4_ranked_134 (by decide) ?_
          exact ih _ _ hw H locs hP hD hS ls (lv_sub hl [2, 3, 4, 1, 0] rfl)
        · have hw := hw.1 c13
          refine lv_iload hx hb dX4_ranked_124 (lv_at hl 4 rfl) ?_
          refine lv_goto (tgt := 130) hx hb dX4_ranked_126 (by decide) ?_
          refine lv_istore_n (lv' := [(3, .int x4), (0, .ref (q 0)), (1, .int x1), (2, .int x2), (4, .int x4), (5, .int y12)]) hx hb dX4_ranked_130 rfl hl (by decide) rfl (fun ls hl => ?_)
          refine lv_iinc (v := x4 + 1) (lv' := [(4, .int (x4 + 1)), (3, .int x4), (0, .ref (q 0)), (1, .int x1), (2, .int x2), (5, .int y12)]) hx hb dX4_ranked_131 hl (k := 4) rfl rfl (by decide) rfl (fun ls hl => ?_)
          refine lv_goto (tgt := 30) hx hb dX4_ranked_134 (by decide) ?_
          exact ih _ _ hw H locs hP hD hS ls (lv_sub hl [2, 3, 4, 1, 0] rfl)
set_option maxHeartbeats 4000000 in
set_option maxRecDepth 100000 in
theorem t_X4_ranked {p : Program} {l : Launch} {e : Env} {s : State} {m : MethodId} {args : Array Value} {below : List Frame} {meth : Method} {c : Code} {D : va_G} {cs : Nat → ClassId} {A : Nat → Prop} (hC : MAt p s m args meth c RX4 cX4_ranked 9 (some .int) wsX4_ranked D cs) (q : Nat → Nat) (M : MS) (x1 : Int32) (x2 : Int32) (Q : Int32 → MS → Prop) (hA : ∀ q : Nat, s.heap.size ≤ q → A q) (hw : wp_X4_ranked M x1 x2 Q) (H : Heap) (locs : List Loc) (hP : va_P D vwCl (w_Mod cs q M) H) (hD : va_D A (w_Mod cs q M)) (hS : va_S A s.heap H locs) (ls : Array Slot) (hl : lv_has ls 9 [(0, .ref (q 0)), (1, .int x1), (2, .int x2)]) : W p l e ({ frames := 3, cells := 0, slots := 0, locals := 66 } : Room) s m args below meth c H locs 0 0 (MQ below (va_Qi (fun r (u : MS) => Q r u) (fun (u : MS) t => va_P D vwCl (w_Mod cs q u) t.heap ∧ va_D A (w_Mod cs q u)) A) args s 0 0 A) (F0 m 0 ls []) := by
  obtain ⟨hx, hb, hr, hml, hown, hts, hlocks, hKK⟩ := id hC
  have hK := hKK.1
  refine lv_aload_n hx hb dX4_ranked_0 rfl (lv_at hl 0 rfl) ?_
  refine lv_aload_n hx hb dX4_ranked_1 rfl (lv_at hl 0 rfl) ?_
  refine va_get (D := D) (ci := 4) (v := .ref (q 2)) (C := RX4) (T := TX4) (N := 11) hx hb hts (h_X4_X4_ranked) hown hK hP 0 rfl rfl 3 (by decide) (z_w hts 1 rfl) (fun _ h9 => h9) rfl dX4_ranked_2 ?_
  refine lv_iload_n hx hb dX4_ranked_5 rfl (lv_at hl 1 rfl) ?_
  have hPc := hP.sub (ws' := w_Row cs (q 2) 336 (M 2)) [2] rfl
  have hDc := hD.sub (ws' := w_Row cs (q 2) 336 (M 2)) [2] (by decide) rfl
  refine z_calli (va_runS (As := [.ref (q 2), .int x1]) (rest := [.ref (q 0)]) ⟨hx, hb, hml, hown, hts⟩ (c_X4_isCounter l D cs (q 2) H.size (M 2) x1 _ hw) (va_cwS 2 hts gX4_ranked_X4_isCounter rfl rfl rfl (by decide +kernel) ⟨Nat.le_of_ble_eq_true rfl, Nat.le_of_ble_eq_true rfl⟩) (PC_S hPc hDc hKK) rfl rfl hl.1 rfl (lv_room (Nat.le_of_ble_eq_true rfl)) dX4_ranked_6 ⟨Nat.le_of_ble_eq_true rfl, Nat.le_of_ble_eq_true rfl⟩) (fun r1 hw => ?_)
  obtain ⟨b1, hw⟩ := hw
  refine lv_if_eq (tgt := 16) hx hb dX4_ranked_9 (by decide) (fun c2 => ?_) (fun c2 => ?_)
  · have hw := hw.1 c2
    refine lv_iconst (v := (1 : Int32)) hx hb dX4_ranked_16 (by decide) ?_
    have hFc := va_free (wc := w_Mod cs q M) hD hS hA [0, 1, 2, 3, 4, 5, 6, 7, 8] rfl
    refine va_calli (va_runV (As := [.int (1 : Int32)]) (rest := []) ⟨hx, hb, hml, hown, hts⟩ (c_X4_refused l D cs q H.size M (1 : Int32) _ hw) (cwV 1 hts gX4_ranked_X4_refused rfl rfl rfl (by decide +kernel) ⟨Nat.le_of_ble_eq_true rfl, Nat.le_of_ble_eq_true rfl⟩) (PC_V hP hD hKK 0 4 rfl rfl) rfl rfl hl.1 rfl (lv_room (Nat.le_of_ble_eq_true rfl)) dX4_ranked_17 ⟨Nat.le_of_ble_eq_true rfl, Nat.le_of_ble_eq_true rfl⟩) hS (fun q _ h => hFc q h) hFc (fun r3 u3 t H locs ht hvm hw hB hz1 hk1 hS => ?_)
    obtain ⟨hP1, hD1⟩ := hB
    rw [ht] at hP1
    obtain ⟨b3, hw⟩ := hw
    have hD : va_D A (w_Mod cs q u3) := hD1.weaken (fun k q _ h => hFc q.1 h)
    have hP : va_P D vwCl (w_Mod cs q u3) H := hP1
    refine lv_if_eq (tgt := 25) hx hb dX4_ranked_20 (by decide) (fun c4 => ?_) (fun c4 => ?_)
    · have hw := hw.1 c4
      refine lv_iconst (v := (-1 : Int32)) hx hb dX4_ranked_25 (by decide) ?_
      refine lv_istore_n (lv' := [(3, .int (-1 : Int32)), (0, .ref (q 0)), (1, .int x1), (2, .int x2)]) hx hb dX4_ranked_26 rfl hl (by decide) rfl (fun ls hl => ?_)
      refine lv_iconst (v := (0 : Int32)) hx hb dX4_ranked_27 (by decide) ?_
      refine lv_istore (lv' := [(4, .int (0 : Int32)), (3, .int (-1 : Int32)), (0, .ref (q 0)), (1, .int x1), (2, .int x2)]) hx hb dX4_ranked_28 hl (by decide) rfl (fun ls hl => ?_)
      obtain ⟨n15, hw⟩ := hw
      exact t_X4_ranked_30 hC q _ _ _ _ hA n15 _ _ hw H locs hP hD hS ls (lv_sub hl [2, 3, 4, 1, 0] rfl)
    · have hw := hw.2 c4
      refine lv_iconst (v := (0 : Int32)) hx hb dX4_ranked_23 (by decide) ?_
      exact W.iret (v := (0 : Int32)) hx hb hr (fun t ht hW => ⟨⟨(0 : Int32), (u3), rfl, hw, by rw [ht]; exact hP, hD⟩, hS.F ht⟩) hS.2.2 dX4_ranked_24 hlocks
  · have hw := hw.2 c2
    refine lv_iconst (v := (0 : Int32)) hx hb dX4_ranked_12 (by decide) ?_
    refine lv_goto (tgt := 17) hx hb dX4_ranked_13 (by decide) ?_
    have hFc := va_free (wc := w_Mod cs q M) hD hS hA [0, 1, 2, 3, 4, 5, 6, 7, 8] rfl
    refine va_calli (va_runV (As := [.int (0 : Int32)]) (rest := []) ⟨hx, hb, hml, hown, hts⟩ (c_X4_refused l D cs q H.size M (0 : Int32) _ hw) (cwV 1 hts gX4_ranked_X4_refused rfl rfl rfl (by decide +kernel) ⟨Nat.le_of_ble_eq_true rfl, Nat.le_of_ble_eq_true rfl⟩) (PC_V hP hD hKK 0 4 rfl rfl) rfl rfl hl.1 rfl (lv_room (Nat.le_of_ble_eq_true rfl)) dX4_ranked_17 ⟨Nat.le_of_ble_eq_true rfl, Nat.le_of_ble_eq_true rfl⟩) hS (fun q _ h => hFc q h) hFc (fun r16 u16 t H locs ht hvm hw hB hz1 hk1 hS => ?_)
    obtain ⟨hP1, hD1⟩ := hB
    rw [ht] at hP1
    obtain ⟨b16, hw⟩ := hw
    have hD : va_D A (w_Mod cs q u16) := hD1.weaken (fun k q _ h => hFc q.1 h)
    have hP : va_P D vwCl (w_Mod cs q u16) H := hP1
    refine lv_if_eq (tgt := 25) hx hb dX4_ranked_20 (by decide) (fun c17 => ?_) (fun c17 => ?_)
    · have hw := hw.1 c17
      refine lv_iconst (v := (-1 : Int32)) hx hb dX4_ranked_25 (by decide) ?_
      refine lv_istore_n (lv' := [(3, .int (-1 : Int32)), (0, .ref (q 0)), (1, .int x1), (2, .int x2)]) hx hb dX4_ranked_26 rfl hl (by decide) rfl (fun ls hl => ?_)
      refine lv_iconst (v := (0 : Int32)) hx hb dX4_ranked_27 (by decide) ?_
      refine lv_istore (lv' := [(4, .int (0 : Int32)), (3, .int (-1 : Int32)), (0, .ref (q 0)), (1, .int x1), (2, .int x2)]) hx hb dX4_ranked_28 hl (by decide) rfl (fun ls hl => ?_)
      obtain ⟨n18, hw⟩ := hw
      exact t_X4_ranked_30 hC q _ _ _ _ hA n18 _ _ hw H locs hP hD hS ls (lv_sub hl [2, 3, 4, 1, 0] rfl)
    · have hw := hw.2 c17
      refine lv_iconst (v := (0 : Int32)) hx hb dX4_ranked_23 (by decide) ?_
      exact W.iret (v := (0 : Int32)) hx hb hr (fun t ht hW => ⟨⟨(0 : Int32), (u16), rfl, hw, by rw [ht]; exact hP, hD⟩, hS.F ht⟩) hS.2.2 dX4_ranked_24 hlocks
set_option maxHeartbeats 4000000 in
set_option maxRecDepth 100000 in
theorem c_X4_ranked (l : Launch) (D : va_G) (cs : Nat → ClassId) (q : Nat → Nat) (sz : Nat) (M : MS) (x1 : Int32) (x2 : Int32) (Q : Int32 → MS → Prop) (hw : wp_X4_ranked M x1 x2 Q) : Met l yX4_ranked wsX4_ranked ({ frames := 3, cells := 0, slots := 0, locals := 66 } : Room) (va_Pc [.ref (q 0), .int x1, .int x2] (PC D cs (w_Mod cs q M) sz)) (va_Qi (fun r (u : MS) => Q r u) (fun (u : MS) t => va_P D vwCl (w_Mod cs q u) t.heap ∧ va_D (va_A (w_Mod cs q M) sz) (w_Mod cs q u)) (va_A (w_Mod cs q M) sz)) 0 0 (va_A (w_Mod cs q M) sz) := by
  refine Met.ofW (cc := cX4_ranked) (maxL := 9) (ret := (some .int)) (by decide) rfl ?_
  intro p e s m args below meth c s₁ B hml hv
  obtain ⟨rfl, hsz, hP, hKK, hD0⟩ := hv
  have hC : MAt p s m _ meth c RX4 cX4_ranked 9 (some .int) wsX4_ranked D cs := ⟨B.exec, B.bytes, B.returns, hml, findClass_of_methodNamed B.named, atoms_spec (ws := wsX4_ranked) B.pre, B.notSynchronized, hKK⟩
  have hl := lv_entry ([.ref (q 0), .int x1, .int x2]) (n := 9) (Nat.le_of_ble_eq_true rfl)
  rw [lg_entry_eq]
  generalize (lg_sl ([.ref (q 0), .int x1, .int x2]) ++ List.replicate (9 - (lg_sl ([.ref (q 0), .int x1, .int x2])).length) Slot.unset).toArray = ls at hl ⊢
  subst hsz
  have hD := hD0.self (sz := s.heap.size)
  have hA : ∀ z : Nat, s.heap.size ≤ z → va_A (w_Mod cs q M) s.heap.size z := fun z h => Or.inr h
  exact t_X4_ranked hC q M x1 x2 Q hA hw s.heap [] hP hD va_S.rf ls hl
theorem h_X4_X4_remember : ∀ w ∈ u_ws RX4 TX4 11, w ∈ wsX4_remember := fun _ h => List.mem_cons_of_mem _ (List.mem_append_right _ h)
set_option maxHeartbeats 4000000 in
set_option maxRecDepth 100000 in
theorem t_X4_remember_11 {p : Program} {l : Launch} {e : Env} {s : State} {m : MethodId} {args : Array Value} {below : List Frame} {meth : Method} {c : Code} {D : va_G} {cs : Nat → ClassId} {A : Nat → Prop} (hC : MAt p s m args meth c RX4 cX4_remember 2 none wsX4_remember D cs) (q : Nat → Nat) (Q : MS → Prop) (hA : ∀ q : Nat, s.heap.size ≤ q → A q) : ∀ (n : Nat) (M : MS) (x1 : Int32), wl_X4_remember_11 Q n M x1 → ∀ (H : Heap) (locs : List Loc), va_P D vwCl (w_Mod cs q M) H → va_D A (w_Mod cs q M) → va_S A s.heap H locs → ∀ ls : Array Slot, lv_has ls 2 [(0, .ref (q 0)), (1, .int x1)] → W p l e ({ frames := 1, cells := 0, slots := 0, locals := 24 } : Room) s m args below meth c H locs 0 0 (MQ below (va_Qv (fun (u : MS) => Q u) (fun (u : MS) t => va_P D vwCl (w_Mod cs q u) t.heap ∧ va_D A (w_Mod cs q u)) A) args s 0 0 A) (F0 m 11 ls []) := by
  obtain ⟨hx, hb, hr, hml, hown, hts, hlocks, hKK⟩ := id hC
  have hK := hKK.1
  intro n
  induction n with
  | zero =>
    intro M x1 hw
    exact False.elim hw
  | succ n ih =>
    intro M x1 hw H locs hP hD hS ls hl
    refine lv_iload_n hx hb dX4_remember_11 rfl (lv_at hl 1 rfl) ?_
    refine lv_sipush (v := (4368 : Int32)) hx hb dX4_remember_12 (by decide) ?_
    refine lv_icmp_ge (tgt := 40) hx hb dX4_remember_15 (by decide) (fun c3 => ?_) (fun c3 => ?_)
    · have hw := hw.1 c3
      refine lv_aload_n hx hb dX4_remember_40 rfl (lv_at hl 0 rfl) ?_
      refine lv_dup hx hb dX4_remember_41 rfl ?_
      refine va_get (D := D) (ci := 4) (v := .int (M 0 2)) (C := RX4) (T := TX4) (N := 11) hx hb hts (h_X4_X4_remember) hown hK hP 0 rfl rfl 6 (by decide) (z_w hts 1 rfl) (fun _ h9 => h9) rfl dX4_remember_42 ?_
      refine lv_iconst (v := (1 : Int32)) hx hb dX4_remember_45 (by decide) ?_
      refine lv_isub hx hb dX4_remember_46 ?_
      refine va_put (D := D) (ci := 4) (v := .int ((M 0 2) - (1 : Int32))) (ty := .int) (C := RX4) (T := TX4) (N := 11) hx hb hts (h_X4_X4_remember) tyX4 tyX4_ok nmX4 hown hK hP hD hS 0 rfl rfl 6 (by decide) (z_w hts 1 rfl) (fun _ h9 => h9) rfl (by decide +kernel) rfl rfl (Nat.le_of_ble_eq_true rfl) dX4_remember_47 (fun H locs hP hD hS => ?_)
      have hP : va_P D vwCl (w_Mod cs q (zs2 M 0 2 ((M 0 2) - (1 : Int32)))) H := hP
      have hD : va_D A (w_Mod cs q (zs2 M 0 2 ((M 0 2) - (1 : Int32)))) := hD
      refine lv_aload_n hx hb dX4_remember_50 rfl (lv_at hl 0 rfl) ?_
      refine va_get (D := D) (ci := 4) (v := .ref (q 2)) (C := RX4) (T := TX4) (N := 11) hx hb hts (h_X4_X4_remember) hown hK hP 0 rfl rfl 3 (by decide) (z_w hts 3 rfl) (fun _ h9 => h9) rfl dX4_remember_51 ?_
      refine lv_iconst (v := (0 : Int32)) hx hb dX4_remember_54 (by decide) ?_
      refine lv_aload_n hx hb dX4_remember_55 rfl (lv_at hl 0 rfl) ?_
      refine va_get (D := D) (ci := 4) (v := .ref (q 4)) (C := RX4) (T := TX4) (N := 11) hx hb hts (h_X4_X4_remember) hown hK hP 0 rfl rfl 5 (by decide) (z_w hts 2 rfl) (fun _ h9 => h9) rfl dX4_remember_56 ?_
      refine lv_sipush (v := (336 : Int32)) hx hb dX4_remember_59 (by decide) ?_
      refine lv_aload_n hx hb dX4_remember_62 rfl (lv_at hl 0 rfl) ?_
      refine va_get (D := D) (ci := 4) (v := .int ((M 0 2) - (1 : Int32))) (C := RX4) (T := TX4) (N := 11) hx hb hts (h_X4_X4_remember) hown hK hP 0 rfl rfl 6 (by decide) (z_w hts 1 rfl) (fun _ h9 => h9) rfl dX4_remember_63 ?_
      refine lv_imul hx hb dX4_remember_66 ?_
      have hPc := hP.sub (ws' := w_Row cs (q 2) 336 (M 2) ++ w_Row cs (q 4) 4704 (M 4)) [2, 4] rfl
      have hDc := hD.sub (ws' := w_Row cs (q 2) 336 (M 2) ++ w_Row cs (q 4) 4704 (M 4)) [2, 4] (by decide) rfl
      have hFc := va_free (wc := w_Row cs (q 2) 336 (M 2) ++ w_Row cs (q 4) 4704 (M 4)) hD hS hA [2, 4] rfl
      refine va_callv (va_runS (As := [.ref (q 2), .int (0 : Int32), .ref (q 4), .int ((336 : Int32) * ((M 0 2) - (1 : Int32)))]) (rest := []) ⟨hx, hb, hml, hown, hts⟩ (c_X4_copyLine l D cs (q 2) (q 4) H.size 336 4704 (M 2) (M 4) (0 : Int32) ((336 : Int32) * ((M 0 2) - (1 : Int32))) _ hw) (va_cwS 4 hts gX4_remember_X4_copyLine rfl rfl rfl (by decide +kernel) ⟨Nat.le_of_ble_eq_true rfl, Nat.le_of_ble_eq_true rfl⟩) (PC_S hPc hDc hKK) rfl rfl hl.1 rfl (lv_room (Nat.le_of_ble_eq_true rfl)) dX4_remember_67 ⟨Nat.le_of_ble_eq_true rfl, Nat.le_of_ble_eq_true rfl⟩) hS (fun q _ h => hFc q h) hFc (fun u4 t H locs ht hvm hw hB hz1 hk1 hS => ?_)
      obtain ⟨hP1, hD1⟩ := hB
      rw [ht] at hP1
      obtain ⟨hP, hD⟩ := va_join (wr := ([0, 1, 3, 5, 6, 7, 8].filterMap (fun i => (w_Mod cs q (zs2 M 0 2 ((M 0 2) - (1 : Int32))))[i]?))) (w1 := w_Row cs (q 2) 336 (M 2) ++ w_Row cs (q 4) 4704 u4) hP hD [2, 4] [0, 1, 3, 5, 6, 7, 8] rfl rfl (by decide) (by decide) hk1 hFc hP1 hD1
      have hP : va_P D vwCl (w_Mod cs q (zr2 (zs2 M 0 2 ((M 0 2) - (1 : Int32))) 4 u4)) H := hP.sub (ws' := w_Mod cs q (zr2 (zs2 M 0 2 ((M 0 2) - (1 : Int32))) 4 u4)) [0, 1, 7, 2, 8, 3, 4, 5, 6] rfl
      have hD : va_D A (w_Mod cs q (zr2 (zs2 M 0 2 ((M 0 2) - (1 : Int32))) 4 u4)) := hD.sub (ws' := w_Mod cs q (zr2 (zs2 M 0 2 ((M 0 2) - (1 : Int32))) 4 u4)) [0, 1, 7, 2, 8, 3, 4, 5, 6] (by decide) rfl
      refine lv_aload_n hx hb dX4_remember_70 rfl (lv_at hl 0 rfl) ?_
      refine lv_dup hx hb dX4_remember_71 rfl ?_
      refine va_get (D := D) (ci := 4) (v := .int ((M 0 2) - (1 : Int32))) (C := RX4) (T := TX4) (N := 11) hx hb hts (h_X4_X4_remember) hown hK hP 0 rfl rfl 6 (by decide) (z_w hts 1 rfl) (fun _ h9 => h9) rfl dX4_remember_72 ?_
      refine lv_iconst (v := (1 : Int32)) hx hb dX4_remember_75 (by decide) ?_
      refine lv_iadd hx hb dX4_remember_76 ?_
      refine va_put (D := D) (ci := 4) (v := .int (((M 0 2) - (1 : Int32)) + (1 : Int32))) (ty := .int) (C := RX4) (T := TX4) (N := 11) hx hb hts (h_X4_X4_remember) tyX4 tyX4_ok nmX4 hown hK hP hD hS 0 rfl rfl 6 (by decide) (z_w hts 1 rfl) (fun _ h9 => h9) rfl (by decide +kernel) rfl rfl (Nat.le_of_ble_eq_true rfl) dX4_remember_77 (fun H locs hP hD hS => ?_)
      have hP : va_P D vwCl (w_Mod cs q (zs2 (zr2 M 4 u4) 0 2 (((M 0 2) - (1 : Int32)) + (1 : Int32)))) H := hP
      have hD : va_D A (w_Mod cs q (zs2 (zr2 M 4 u4) 0 2 (((M 0 2) - (1 : Int32)) + (1 : Int32)))) := hD
      exact W.vret hx hb hr (fun t ht hW => ⟨⟨(zs2 (zr2 M 4 u4) 0 2 (((M 0 2) - (1 : Int32)) + (1 : Int32))), rfl, hw, by rw [ht]; exact hP, hD⟩, hS.F ht⟩) hS.2.2 dX4_remember_80 hlocks
    · have hw := hw.2 c3
      refine lv_aload_n hx hb dX4_remember_18 rfl (lv_at hl 0 rfl) ?_
      refine va_get (D := D) (ci := 4) (v := .ref (q 4)) (C := RX4) (T := TX4) (N := 11) hx hb hts (h_X4_X4_remember) hown hK hP 0 rfl rfl 5 (by decide) (z_w hts 2 rfl) (fun _ h9 => h9) rfl dX4_remember_19 ?_
      refine lv_iload_n hx hb dX4_remember_22 rfl (lv_at hl 1 rfl) ?_
      refine lv_aload_n hx hb dX4_remember_23 rfl (lv_at hl 0 rfl) ?_
      refine va_get (D := D) (ci := 4) (v := .ref (q 4)) (C := RX4) (T := TX4) (N := 11) hx hb hts (h_X4_X4_remember) hown hK hP 0 rfl rfl 5 (by decide) (z_w hts 2 rfl) (fun _ h9 => h9) rfl dX4_remember_24 ?_
      refine lv_iload_n hx hb dX4_remember_27 rfl (lv_at hl 1 rfl) ?_
      refine lv_sipush (v := (336 : Int32)) hx hb dX4_remember_28 (by decide) ?_
      refine lv_iadd hx hb dX4_remember_31 ?_
      obtain ⟨h5, hw⟩ := hw
      refine va_iald hx hb hK hP 4 0 rfl rfl h5 dX4_remember_32 ?_
      obtain ⟨h6, hw⟩ := hw
      refine va_iast hx hb hK hP hD hS 4 0 rfl rfl h6 dX4_remember_33 (fun H locs hP hD hS => ?_)
      have hP : va_P D vwCl (w_Mod cs q (zr2 M 4 (upd (M 4) x1.toNatClampNeg (M 4 (x1 + (336 : Int32)).toNatClampNeg)))) H := hP
      have hD : va_D A (w_Mod cs q (zr2 M 4 (upd (M 4) x1.toNatClampNeg (M 4 (x1 + (336 : Int32)).toNatClampNeg)))) := hD
      refine lv_iinc (v := x1 + 1) (lv' := [(1, .int (x1 + 1)), (0, .ref (q 0))]) hx hb dX4_remember_34 hl (k := 1) rfl rfl (by decide) rfl (fun ls hl => ?_)
      refine lv_goto (tgt := 11) hx hb dX4_remember_37 (by decide) ?_
      exact ih _ _ hw _ _ hP hD hS ls (lv_sub hl [1, 0] rfl)
set_option maxHeartbeats 4000000 in
set_option maxRecDepth 100000 in
theorem t_X4_remember {p : Program} {l : Launch} {e : Env} {s : State} {m : MethodId} {args : Array Value} {below : List Frame} {meth : Method} {c : Code} {D : va_G} {cs : Nat → ClassId} {A : Nat → Prop} (hC : MAt p s m args meth c RX4 cX4_remember 2 none wsX4_remember D cs) (q : Nat → Nat) (M : MS) (Q : MS → Prop) (hA : ∀ q : Nat, s.heap.size ≤ q → A q) (hw : wp_X4_remember M Q) (H : Heap) (locs : List Loc) (hP : va_P D vwCl (w_Mod cs q M) H) (hD : va_D A (w_Mod cs q M)) (hS : va_S A s.heap H locs) (ls : Array Slot) (hl : lv_has ls 2 [(0, .ref (q 0))]) : W p l e ({ frames := 1, cells := 0, slots := 0, locals := 24 } : Room) s m args below meth c H locs 0 0 (MQ below (va_Qv (fun (u : MS) => Q u) (fun (u : MS) t => va_P D vwCl (w_Mod cs q u) t.heap ∧ va_D A (w_Mod cs q u)) A) args s 0 0 A) (F0 m 0 ls []) := by
  obtain ⟨hx, hb, hr, hml, hown, hts, hlocks, hKK⟩ := id hC
  have hK := hKK.1
  refine lv_aload_n hx hb dX4_remember_0 rfl (lv_at hl 0 rfl) ?_
  refine va_get (D := D) (ci := 4) (v := .int (M 0 2)) (C := RX4) (T := TX4) (N := 11) hx hb hts (h_X4_X4_remember) hown hK hP 0 rfl rfl 6 (by decide) (z_w hts 1 rfl) (fun _ h9 => h9) rfl dX4_remember_1 ?_
  refine lv_bipush (v := (14 : Int32)) hx hb dX4_remember_4 (by decide) ?_
  refine lv_icmp_ne (tgt := 50) hx hb dX4_remember_6 (by decide) (fun c1 => ?_) (fun c1 => ?_)
  · have hw := hw.2 c1
    refine lv_aload_n hx hb dX4_remember_50 rfl (lv_at hl 0 rfl) ?_
    refine va_get (D := D) (ci := 4) (v := .ref (q 2)) (C := RX4) (T := TX4) (N := 11) hx hb hts (h_X4_X4_remember) hown hK hP 0 rfl rfl 3 (by decide) (z_w hts 3 rfl) (fun _ h9 => h9) rfl dX4_remember_51 ?_
    refine lv_iconst (v := (0 : Int32)) hx hb dX4_remember_54 (by decide) ?_
    refine lv_aload_n hx hb dX4_remember_55 rfl (lv_at hl 0 rfl) ?_
    refine va_get (D := D) (ci := 4) (v := .ref (q 4)) (C := RX4) (T := TX4) (N := 11) hx hb hts (h_X4_X4_remember) hown hK hP 0 rfl rfl 5 (by decide) (z_w hts 2 rfl) (fun _ h9 => h9) rfl dX4_remember_56 ?_
    refine lv_sipush (v := (336 : Int32)) hx hb dX4_remember_59 (by decide) ?_
    refine lv_aload_n hx hb dX4_remember_62 rfl (lv_at hl 0 rfl) ?_
    refine va_get (D := D) (ci := 4) (v := .int (M 0 2)) (C := RX4) (T := TX4) (N := 11) hx hb hts (h_X4_X4_remember) hown hK hP 0 rfl rfl 6 (by decide) (z_w hts 1 rfl) (fun _ h9 => h9) rfl dX4_remember_63 ?_
    refine lv_imul hx hb dX4_remember_66 ?_
    have hPc := hP.sub (ws' := w_Row cs (q 2) 336 (M 2) ++ w_Row cs (q 4) 4704 (M 4)) [2, 4] rfl
    have hDc := hD.sub (ws' := w_Row cs (q 2) 336 (M 2) ++ w_Row cs (q 4) 4704 (M 4)) [2, 4] (by decide) rfl
    have hFc := va_free (wc := w_Row cs (q 2) 336 (M 2) ++ w_Row cs (q 4) 4704 (M 4)) hD hS hA [2, 4] rfl
    refine va_callv (va_runS (As := [.ref (q 2), .int (0 : Int32), .ref (q 4), .int ((336 : Int32) * (M 0 2))]) (rest := []) ⟨hx, hb, hml, hown, hts⟩ (c_X4_copyLine l D cs (q 2) (q 4) H.size 336 4704 (M 2) (M 4) (0 : Int32) ((336 : Int32) * (M 0 2)) _ hw) (va_cwS 4 hts gX4_remember_X4_copyLine rfl rfl rfl (by decide +kernel) ⟨Nat.le_of_ble_eq_true rfl, Nat.le_of_ble_eq_true rfl⟩) (PC_S hPc hDc hKK) rfl rfl hl.1 rfl (lv_room (Nat.le_of_ble_eq_true rfl)) dX4_remember_67 ⟨Nat.le_of_ble_eq_true rfl, Nat.le_of_ble_eq_true rfl⟩) hS (fun q _ h => hFc q h) hFc (fun u2 t H locs ht hvm hw hB hz1 hk1 hS => ?_)
    obtain ⟨hP1, hD1⟩ := hB
    rw [ht] at hP1
    obtain ⟨hP, hD⟩ := va_join (wr := ([0, 1, 3, 5, 6, 7, 8].filterMap (fun i => (w_Mod cs q M)[i]?))) (w1 := w_Row cs (q 2) 336 (M 2) ++ w_Row cs (q 4) 4704 u2) hP hD [2, 4] [0, 1, 3, 5, 6, 7, 8] rfl rfl (by decide) (by decide) hk1 hFc hP1 hD1
    have hP : va_P D vwCl (w_Mod cs q (zr2 M 4 u2)) H := hP.sub (ws' := w_Mod cs q (zr2 M 4 u2)) [0, 1, 7, 2, 8, 3, 4, 5, 6] rfl
    have hD : va_D A (w_Mod cs q (zr2 M 4 u2)) := hD.sub (ws' := w_Mod cs q (zr2 M 4 u2)) [0, 1, 7, 2, 8, 3, 4, 5, 6] (by decide) rfl
    refine lv_aload_n hx hb dX4_remember_70 rfl (lv_at hl 0 rfl) ?_
    refine lv_dup hx hb dX4_remember_71 rfl ?_
    refine va_get (D := D) (ci := 4) (v := .int (M 0 2)) (C := RX4) (T := TX4) (N := 11) hx hb hts (h_X4_X4_remember) hown hK hP 0 rfl rfl 6 (by decide) (z_w hts 1 rfl) (fun _ h9 => h9) rfl dX4_remember_72 ?_
    refine lv_iconst (v := (1 : Int32)) hx hb dX4_remember_75 (by decide) ?_
    refine lv_iadd hx hb dX4_remember_76 ?_
    refine va_put (D := D) (ci := 4) (v := .int ((M 0 2) + (1 : Int32))) (ty := .int) (C := RX4) (T := TX4) (N := 11) hx hb hts (h_X4_X4_remember) tyX4 tyX4_ok nmX4 hown hK hP hD hS 0 rfl rfl 6 (by decide) (z_w hts 1 rfl) (fun _ h9 => h9) rfl (by decide +kernel) rfl rfl (Nat.le_of_ble_eq_true rfl) dX4_remember_77 (fun H locs hP hD hS => ?_)
    have hP : va_P D vwCl (w_Mod cs q (zs2 (zr2 M 4 u2) 0 2 ((M 0 2) + (1 : Int32)))) H := hP
    have hD : va_D A (w_Mod cs q (zs2 (zr2 M 4 u2) 0 2 ((M 0 2) + (1 : Int32)))) := hD
    exact W.vret hx hb hr (fun t ht hW => ⟨⟨(zs2 (zr2 M 4 u2) 0 2 ((M 0 2) + (1 : Int32))), rfl, hw, by rw [ht]; exact hP, hD⟩, hS.F ht⟩) hS.2.2 dX4_remember_80 hlocks
  · have hw := hw.1 c1
    refine lv_iconst (v := (0 : Int32)) hx hb dX4_remember_9 (by decide) ?_
    refine lv_istore_n (lv' := [(1, .int (0 : Int32)), (0, .ref (q 0))]) hx hb dX4_remember_10 rfl hl (by decide) rfl (fun ls hl => ?_)
    obtain ⟨n7, hw⟩ := hw
    exact t_X4_remember_11 hC q _ hA n7 _ _ hw H locs hP hD hS ls (lv_sub hl [1, 0] rfl)
set_option maxHeartbeats 4000000 in
set_option maxRecDepth 100000 in
theorem c_X4_remember (l : Launch) (D : va_G) (cs : Nat → ClassId) (q : Nat → Nat) (sz : Nat) (M : MS) (Q : MS → Prop) (hw : wp_X4_remember M Q) : Met l yX4_remember wsX4_remember ({ frames := 1, cells := 0, slots := 0, locals := 24 } : Room) (va_Pc [.ref (q 0)] (PC D cs (w_Mod cs q M) sz)) (va_Qv (fun (u : MS) => Q u) (fun (u : MS) t => va_P D vwCl (w_Mod cs q u) t.heap ∧ va_D (va_A (w_Mod cs q M) sz) (w_Mod cs q u)) (va_A (w_Mod cs q M) sz)) 0 0 (va_A (w_Mod cs q M) sz) := by
  refine Met.ofW (cc := cX4_remember) (maxL := 2) (ret := none) (by decide) rfl ?_
  intro p e s m args below meth c s₁ B hml hv
  obtain ⟨rfl, hsz, hP, hKK, hD0⟩ := hv
  have hC : MAt p s m _ meth c RX4 cX4_remember 2 none wsX4_remember D cs := ⟨B.exec, B.bytes, B.returns, hml, findClass_of_methodNamed B.named, atoms_spec (ws := wsX4_remember) B.pre, B.notSynchronized, hKK⟩
  have hl := lv_entry ([.ref (q 0)]) (n := 2) (Nat.le_of_ble_eq_true rfl)
  rw [lg_entry_eq]
  generalize (lg_sl ([.ref (q 0)]) ++ List.replicate (2 - (lg_sl ([.ref (q 0)])).length) Slot.unset).toArray = ls at hl ⊢
  subst hsz
  have hD := hD0.self (sz := s.heap.size)
  have hA : ∀ z : Nat, s.heap.size ≤ z → va_A (w_Mod cs q M) s.heap.size z := fun z h => Or.inr h
  exact t_X4_remember hC q M Q hA hw s.heap [] hP hD va_S.rf ls hl

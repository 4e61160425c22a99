theorem h_X2_X3_append : ∀ w ∈ u_ws RX2 TX2 2, w ∈ wsX3_append := fun _ h => List.mem_cons_of_mem _ (List.mem_append_left _ (List.mem_append_left _ (List.mem_append_right _ h)))
theorem h_X3_X3_append : ∀ w ∈ u_ws RX3 TX3 7, w ∈ wsX3_append := fun _ h => List.mem_cons_of_mem _ (List.mem_append_left _ (List.mem_append_left _ (List.mem_append_left _ (List.mem_append_right _ h))))
set_option maxHeartbeats 4000000 in
set_option maxRecDepth 100000 in
theorem t_X3_append {p : Program} {l : Launch} {e : Env} {s : State} {m : MethodId} {args : Array Value} {below : List Frame} {meth : Method} {c : Code} {D : va_G} {cs : Nat → ClassId} {A : Nat → Prop} (hC : MAt p s m args meth c RX3 cX3_append 2 (some .int) wsX3_append D cs) (hfl : l.stackTraces = false) (hT0 : ∀ x ∈ c.exceptionTable.toList, False) {sa : Nat → Nat} (hTW : TW sa s) (hTZ : TZ A s s.heap) (x : Nat → Nat) (tq : Nat → Nat) (h : Nat → Nat) (a : Nat → Nat → Nat) (S : XO) (tx : TS) (hs : HS) (Ls : (Nat → LnS)) (x1 : Int32) (Q : Int32 → XO → TS → HS → (Nat → LnS) → Prop) (QX : String → XO → TS → HS → (Nat → LnS) → Prop) (hA : ∀ q : Nat, s.heap.size ≤ q → A q) (hw : wp_X3_append S tx hs Ls x1 Q QX) (H : Heap) (locs : List Loc) (hP : va_P D vwCl (w_Xo cs x tq h a S ++ w_Text cs tq tx ++ w_Hist cs h a hs ++ linesW cs a 18 Ls) H) (hD : va_D A (w_Xo cs x tq h a S ++ w_Text cs tq tx ++ w_Hist cs h a hs ++ linesW cs a 18 Ls)) (hS : va_S A s.heap H locs) (ls : Array Slot) (hl : lv_has ls 2 [(0, .ref (x 0)), (1, .int x1)]) : W p l e ({ frames := 7, cells := 2, slots := 12, locals := 104 } : Room) s m args below meth c H locs 0 0 (vx_MQ below (va_Qi (fun r (u : XO × TS × HS × (Nat → LnS)) => Q r u.1 u.2.1 u.2.2.1 u.2.2.2) (fun (u : XO × TS × HS × (Nat → LnS)) t => va_P D vwCl (w_Xo cs x tq h a u.1 ++ w_Text cs tq u.2.1 ++ w_Hist cs h a u.2.2.1 ++ linesW cs a 18 u.2.2.2) t.heap ∧ va_D A (w_Xo cs x tq h a u.1 ++ w_Text cs tq u.2.1 ++ w_Hist cs h a u.2.2.1 ++ linesW cs a 18 u.2.2.2)) A) (vx_X (fun (_ : XO × TS × HS × (Nat → LnS)) => True) (fun E (u : XO × TS × HS × (Nat → LnS)) t => QX E u.1 u.2.1 u.2.2.1 u.2.2.2 ∧ va_P D vwCl (w_Xo cs x tq h a u.1 ++ w_Text cs tq u.2.1 ++ w_Hist cs h a u.2.2.1 ++ linesW cs a 18 u.2.2.2) t.heap ∧ va_D A (w_Xo cs x tq h a u.1 ++ w_Text cs tq u.2.1 ++ w_Hist cs h a u.2.2.1 ++ linesW cs a 18 u.2.2.2)) A) args s 2 12 A) (F0 m 0 ls []) := by
  obtain ⟨hx, hb, hr, hml, hown, hts, hlocks, hKK⟩ := id hC
  have hK := hKK.1
  refine lv_iload_n hx hb dX3_append_0 rfl (lv_at hl 1 rfl) ?_
  refine lv_iconst (v := (0 : Int32)) hx hb dX3_append_1 (by decide) ?_
  refine lv_sipush (v := (255 : Int32)) hx hb dX3_append_2 (by decide) ?_
  have hPc : va_P D vwCl ([] : va_W) H := z_nilP
  have hDc : va_D A ([] : va_W) := z_nilD
  have hFc := z_free (wc := []) hD hS hA
  refine vx_callv (vx_runS (As := [.int x1, .int (0 : Int32), .int (255 : Int32)]) (rest := []) ⟨hx, hb, hml, hown, hts⟩ (c_X3_requireRange l hfl D cs  H.size sa x1 (0 : Int32) (255 : Int32) _ _ hw) (va_cwS 3 hts gX3_append_X3_requireRange rfl rfl rfl (by decide +kernel) ⟨Nat.le_of_ble_eq_true rfl, Nat.le_of_ble_eq_true rfl⟩) (PX_S hPc hDc hKK hTW hTZ hS hFc) rfl rfl hl.1 rfl (lv_room (Nat.le_of_ble_eq_true rfl)) dX3_append_5 ⟨Nat.le_of_ble_eq_true rfl, Nat.le_of_ble_eq_true rfl⟩) hS (fun q _ h => hFc q h) hFc (fun q _ h => hFc q h) ?_ (fun u1 t H locs ht hvm hw hB hz1 hk1 hS => ?_)
  · intro E ce q9 u1 t H locs ht hvm hpx hB hz1 hk1 hS hq9 hce hcl
    obtain ⟨hw, hP1, hD1⟩ := hB
    rw [ht] at hP1
    obtain ⟨hP, hD⟩ := z_join (wc := []) hP hD hk1 hFc hP1 hD1
    have hP : va_P D vwCl (w_Xo cs x tq h a S ++ w_Text cs tq tx ++ w_Hist cs h a hs ++ linesW cs a 18 Ls) H := hP
    have hD : va_D A (w_Xo cs x tq h a S ++ w_Text cs tq tx ++ w_Hist cs h a hs ++ linesW cs a 18 Ls) := hD
    exact vx_out (fun x h => (hT0 x h).elim) hlocks hq9 hce hcl (fun t2 ht2 hvm2 => ⟨(S, tx, hs, Ls), trivial, ⟨hw, by rw [ht2]; exact hP, hD⟩, hS.F ht2⟩) hS.2.2 (Nat.le_of_ble_eq_true rfl) (Nat.le_of_ble_eq_true rfl)
  obtain ⟨hP1, hD1⟩ := hB
  rw [ht] at hP1
  obtain ⟨hP, hD⟩ := z_join (wc := []) hP hD hk1 hFc hP1 hD1
  have hP : va_P D vwCl (w_Xo cs x tq h a S ++ w_Text cs tq tx ++ w_Hist cs h a hs ++ linesW cs a 18 Ls) H := hP
  have hD : va_D A (w_Xo cs x tq h a S ++ w_Text cs tq tx ++ w_Hist cs h a hs ++ linesW cs a 18 Ls) := hD
  refine lv_aload_n hx hb dX3_append_8 rfl (lv_at hl 0 rfl) ?_
  refine va_get (D := D) (ci := 3) (v := .ref (tq 0)) (C := RX3) (T := TX3) (N := 7) hx hb hts (h_X3_X3_append) hown hK hP 0 rfl rfl 0 (by decide) (z_w hts 3 rfl) (fun _ h9 => h9) rfl dX3_append_9 ?_
  refine va_get (D := D) (ci := 2) (v := .int tx.1) (C := RX2) (T := TX2) (N := 2) hx hb hts (h_X2_X3_append) hown hK hP 4 rfl rfl 1 (by decide) (z_w hts 4 rfl) (fun _ h9 => h9) rfl dX3_append_12 ?_
  refine lv_bipush (v := (100 : Int32)) hx hb dX3_append_15 (by decide) ?_
  refine lv_icmp_lt (tgt := 30) hx hb dX3_append_17 (by decide) (fun c2 => ?_) (fun c2 => ?_)
  · have hw := hw.1 c2
    refine lv_aload_n hx hb dX3_append_30 rfl (lv_at hl 0 rfl) ?_
    refine va_get (D := D) (ci := 3) (v := .ref (tq 0)) (C := RX3) (T := TX3) (N := 7) hx hb hts (h_X3_X3_append) hown hK hP 0 rfl rfl 0 (by decide) (z_w hts 3 rfl) (fun _ h9 => h9) rfl dX3_append_31 ?_
    refine lv_iload_n hx hb dX3_append_34 rfl (lv_at hl 1 rfl) ?_
    refine lv_i2c (v := (x1.toUInt32 % 65536).toInt32) hx hb dX3_append_35 rfl ?_
    have hPx := z_perm_P z_mid2 hP
    have hDx := z_perm_D z_mid2 hD
    have hPc := (z_app_P hPx).1
    have hDc := (z_app_D hDx).1
    have hFc := z_free hDx hS hA
    refine va_callv (va_runV (As := [.int ((x1.toUInt32 % 65536).toInt32)]) (rest := []) ⟨hx, hb, hml, hown, hts⟩ (c_X2_put l D cs tq H.size tx ((x1.toUInt32 % 65536).toInt32) _ hw) (cwV 1 hts gX3_append_X2_put rfl rfl rfl (by decide +kernel) ⟨Nat.le_of_ble_eq_true rfl, Nat.le_of_ble_eq_true rfl⟩) (PC_V hPc hDc hKK 0 2 rfl rfl) rfl rfl hl.1 rfl (lv_room (Nat.le_of_ble_eq_true rfl)) dX3_append_36 ⟨Nat.le_of_ble_eq_true rfl, Nat.le_of_ble_eq_true rfl⟩) hS (fun q _ h => hFc q h) hFc (fun u3 t H locs ht hvm hw hB hz1 hk1 hS => ?_)
    obtain ⟨hP1, hD1⟩ := hB
    rw [ht] at hP1
    obtain ⟨hPx, hDx⟩ := z_join hPx hDx hk1 hFc hP1 hD1
    have hP : va_P D vwCl (w_Xo cs x tq h a S ++ w_Text cs tq u3 ++ w_Hist cs h a hs ++ linesW cs a 18 Ls) H := z_perm_P z_mid2b hPx
    have hD : va_D A (w_Xo cs x tq h a S ++ w_Text cs tq u3 ++ w_Hist cs h a hs ++ linesW cs a 18 Ls) := z_perm_D z_mid2b hDx
    refine lv_aload_n hx hb dX3_append_39 rfl (lv_at hl 0 rfl) ?_
    refine va_get (D := D) (ci := 3) (v := .ref (tq 0)) (C := RX3) (T := TX3) (N := 7) hx hb hts (h_X3_X3_append) hown hK hP 0 rfl rfl 0 (by decide) (z_w hts 3 rfl) (fun _ h9 => h9) rfl dX3_append_40 ?_
    refine va_get (D := D) (ci := 2) (v := .int u3.1) (C := RX2) (T := TX2) (N := 2) hx hb hts (h_X2_X3_append) hown hK hP 4 rfl rfl 1 (by decide) (z_w hts 4 rfl) (fun _ h9 => h9) rfl dX3_append_43 ?_
    refine W.widen (k := 2) (n := 12) (Nat.le_of_ble_eq_true rfl) (Nat.le_of_ble_eq_true rfl) (vx_ret ?_)
    exact W.iret (v := u3.1) hx hb hr (fun t ht hW => ⟨⟨u3.1, (S, u3, hs, Ls), rfl, hw, by rw [ht]; exact hP, hD⟩, hS.F ht⟩) hS.2.2 dX3_append_46 hlocks
  · have hw := hw.2 c2
    exact vx_throwS hx hb hfl hown (by decide +kernel) (by decide +kernel) (z_w hts 1 rfl) (z_w hts 2 rfl) (show vk_R RX3 55 "the text is full" (sa 0) s from hTW.1 0 (by decide)) (vx_hat (fun w h => hts w (List.mem_cons_of_mem _ (List.mem_append_left _ (List.mem_append_right _ h)))) zb_eISE (vx_c (va_Nw.use rfl hTW.2.1) (vx_c (va_Nw.use rfl hTW.2.2.2.2.2.2.2.2.2.2.1) (vx_c (va_Nw.use rfl hTW.2.2.2.2.2.2.2.2.2.2.2.1) (vx_c (va_Nw.use rfl hTW.2.2.2.2.2.2.2.2.2.2.2.2) vx_n))))) zh_eISE hTZ.1 hTZ.2 hS (hl.1.trans hml.symm) dX3_append_20 dX3_append_23 dX3_append_24 dX3_append_26 dX3_append_29 (fun x h => (hT0 x h).elim) (Nat.le_of_ble_eq_true rfl) (Nat.le_of_ble_eq_true rfl) (Nat.le_of_ble_eq_true rfl) (Nat.le_of_ble_eq_true rfl) hlocks (fun t ha hz hk => ⟨(S, tx, hs, Ls), trivial, ⟨hw, hP.kept (fun k q hq => hk q.1 (hP k q hq).lt), hD⟩, ⟨Nat.le_trans hS.1 hz, fun q h1 h2 => (hk q (Nat.lt_of_lt_of_le h1 hS.1)).trans (hS.2.1 q h1 h2)⟩⟩) hS.2.2 (Nat.le_of_ble_eq_true rfl) (Nat.le_of_ble_eq_true rfl)
set_option maxHeartbeats 4000000 in
set_option maxRecDepth 100000 in
theorem c_X3_append (l : Launch) (hfl : l.stackTraces = false) (D : va_G) (cs : Nat → ClassId) (x : Nat → Nat) (tq : Nat → Nat) (h : Nat → Nat) (a : Nat → Nat → Nat) (sz : Nat) (sa : Nat → Nat) (S : XO) (tx : TS) (hs : HS) (Ls : (Nat → LnS)) (x1 : Int32) (Q : Int32 → XO → TS → HS → (Nat → LnS) → Prop) (QX : String → XO → TS → HS → (Nat → LnS) → Prop) (hw : wp_X3_append S tx hs Ls x1 Q QX) : vx_Met l yX3_append wsX3_append ({ frames := 7, cells := 2, slots := 12, locals := 104 } : Room) (va_Pc [.ref (x 0), .int x1] (PX D cs (w_Xo cs x tq h a S ++ w_Text cs tq tx ++ w_Hist cs h a hs ++ linesW cs a 18 Ls) sa sz)) (va_Qi (fun r (u : XO × TS × HS × (Nat → LnS)) => Q r u.1 u.2.1 u.2.2.1 u.2.2.2) (fun (u : XO × TS × HS × (Nat → LnS)) t => va_P D vwCl (w_Xo cs x tq h a u.1 ++ w_Text cs tq u.2.1 ++ w_Hist cs h a u.2.2.1 ++ linesW cs a 18 u.2.2.2) t.heap ∧ va_D (va_A (w_Xo cs x tq h a S ++ w_Text cs tq tx ++ w_Hist cs h a hs ++ linesW cs a 18 Ls) sz) (w_Xo cs x tq h a u.1 ++ w_Text cs tq u.2.1 ++ w_Hist cs h a u.2.2.1 ++ linesW cs a 18 u.2.2.2)) (va_A (w_Xo cs x tq h a S ++ w_Text cs tq tx ++ w_Hist cs h a hs ++ linesW cs a 18 Ls) sz)) (vx_X (fun (_ : XO × TS × HS × (Nat → LnS)) => True) (fun E (u : XO × TS × HS × (Nat → LnS)) t => QX E u.1 u.2.1 u.2.2.1 u.2.2.2 ∧ va_P D vwCl (w_Xo cs x tq h a u.1 ++ w_Text cs tq u.2.1 ++ w_Hist cs h a u.2.2.1 ++ linesW cs a 18 u.2.2.2) t.heap ∧ va_D (va_A (w_Xo cs x tq h a S ++ w_Text cs tq tx ++ w_Hist cs h a hs ++ linesW cs a 18 Ls) sz) (w_Xo cs x tq h a u.1 ++ w_Text cs tq u.2.1 ++ w_Hist cs h a u.2.2.1 ++ linesW cs a 18 u.2.2.2)) (va_A (w_Xo cs x tq h a S ++ w_Text cs tq tx ++ w_Hist cs h a hs ++ linesW cs a 18 Ls) sz)) 2 12 (va_A (w_Xo cs x tq h a S ++ w_Text cs tq tx ++ w_Hist cs h a hs ++ linesW cs a 18 Ls) sz) := by
  refine vx_ofW (cc := cX3_append) (maxL := 2) (ret := (some .int)) (by decide) rfl ?_
  intro p e s m args below meth c s₁ B hml hT0 hv
  obtain ⟨rfl, ⟨hsz, hP, hKK, hD0⟩, hTW, hTZ⟩ := hv
  have hC : MAt p s m _ meth c RX3 cX3_append 2 (some .int) wsX3_append D cs := ⟨B.exec, B.bytes, B.returns, hml, findClass_of_methodNamed B.named, atoms_spec (ws := wsX3_append) B.pre, B.notSynchronized, hKK⟩
  have hl := lv_entry ([.ref (x 0), .int x1]) (n := 2) (Nat.le_of_ble_eq_true rfl)
  rw [lg_entry_eq]
  generalize (lg_sl ([.ref (x 0), .int x1]) ++ List.replicate (2 - (lg_sl ([.ref (x 0), .int x1])).length) Slot.unset).toArray = ls at hl ⊢
  subst hsz
  have hD := hD0.self (sz := s.heap.size)
  have hA : ∀ z : Nat, s.heap.size ≤ z → va_A (w_Xo cs x tq h a S ++ w_Text cs tq tx ++ w_Hist cs h a hs ++ linesW cs a 18 Ls) s.heap.size z := fun z h => Or.inr h
  exact t_X3_append hC hfl hT0 hTW hTZ x tq h a S tx hs Ls x1 Q QX hA hw s.heap [] hP hD va_S.rf ls hl
theorem h_X1_X3_load : ∀ w ∈ u_ws RX1 TX1 13, w ∈ wsX3_load := fun _ h => List.mem_cons_of_mem _ (List.mem_append_left _ (List.mem_append_left _ (List.mem_append_left _ (List.mem_append_right _ h))))
theorem h_X3_X3_load : ∀ w ∈ u_ws RX3 TX3 7, w ∈ wsX3_load := fun _ h => List.mem_cons_of_mem _ (List.mem_append_left _ (List.mem_append_left _ (List.mem_append_left _ (List.mem_append_left _ (List.mem_append_right _ h)))))
set_option maxHeartbeats 4000000 in
set_option maxRecDepth 100000 in
theorem t_X3_load_48 {p : Program} {l : Launch} {e : Env} {s : State} {m : MethodId} {args : Array Value} {below : List Frame} {meth : Method} {c : Code} {D : va_G} {cs : Nat → ClassId} {A : Nat → Prop} (hC : MAt p s m args meth c RX3 cX3_load 2 (some .int) wsX3_load D cs) (hfl : l.stackTraces = false) (hT0 : ∀ x ∈ c.exceptionTable.toList, False) {sa : Nat → Nat} (hTW : TW sa s) (hTZ : TZ A s s.heap) (x : Nat → Nat) (tq : Nat → Nat) (h : Nat → Nat) (a : Nat → Nat → Nat) (Q : Int32 → XO → TS → HS → (Nat → LnS) → Prop) (QX : String → XO → TS → HS → (Nat → LnS) → Prop) (hA : ∀ q : Nat, s.heap.size ≤ q → A q) : ∀ (n : Nat) (S : XO) (tx : TS) (hs : HS) (Ls : (Nat → LnS)) (x1 : Int32), wl_X3_load_48 Q QX n S tx hs Ls x1 → ∀ (H : Heap) (locs : List Loc), va_P D vwCl (w_Xo cs x tq h a S ++ w_Text cs tq tx ++ w_Hist cs h a hs ++ linesW cs a 18 Ls) H → va_D A (w_Xo cs x tq h a S ++ w_Text cs tq tx ++ w_Hist cs h a hs ++ linesW cs a 18 Ls) → va_S A s.heap H locs → ∀ ls : Array Slot, lv_has ls 2 [(0, .ref (x 0)), (1, .int x1)] → W p l e ({ frames := 6, cells := 1, slots := 6, locals := 82 } : Room) s m args below meth c H locs 0 0 (vx_MQ below (va_Qi (fun r (u : XO × TS × HS × (Nat → LnS)) => Q r u.1 u.2.1 u.2.2.1 u.2.2.2) (fun (u : XO × TS × HS × (Nat → LnS)) t => va_P D vwCl (w_Xo cs x tq h a u.1 ++ w_Text cs tq u.2.1 ++ w_Hist cs h a u.2.2.1 ++ linesW cs a 18 u.2.2.2) t.heap ∧ va_D A (w_Xo cs x tq h a u.1 ++ w_Text cs tq u.2.1 ++ w_Hist cs h a u.2.2.1 ++ linesW cs a 18 u.2.2.2)) A) (vx_X (fun (_ : XO × TS × HS × (Nat → LnS)) => True) (fun E (u : XO × TS × HS × (Nat → LnS)) t => QX E u.1 u.2.1 u.2.2.1 u.2.2.2 ∧ va_P D vwCl (w_Xo cs x tq h a u.1 ++ w_Text cs tq u.2.1 ++ w_Hist cs h a u.2.2.1 ++ linesW cs a 18 u.2.2.2) t.heap ∧ va_D A (w_Xo cs x tq h a u.1 ++ w_Text cs tq u.2.1 ++ w_Hist cs h a u.2.2.1 ++ linesW cs a 18 u.2.2.2)) A) args s 1 6 A) (F0 m 48 ls []) := by
  obtain ⟨hx, hb, hr, hml, hown, hts, hlocks, hKK⟩ := id hC
  have hK := hKK.1
  intro n
  induction n with
  | zero =>
    intro S tx hs Ls x1 hw
    exact False.elim hw
  | succ n ih =>
    intro S tx hs Ls x1 hw H locs hP hD hS ls hl
    refine lv_iload_n hx hb dX3_load_48 rfl (lv_at hl 1 rfl) ?_
    refine lv_iconst (v := (2 : Int32)) hx hb dX3_load_49 (by decide) ?_
    refine lv_icmp_ge (tgt := 66) hx hb dX3_load_50 (by decide) (fun c6 => ?_) (fun c6 => ?_)
    · have hw := hw.1 c6
      refine lv_aload_n hx hb dX3_load_66 rfl (lv_at hl 0 rfl) ?_
      refine va_get (D := D) (ci := 3) (v := .ref (a 0 0)) (C := RX3) (T := TX3) (N := 7) hx hb hts (h_X3_X3_load) hown hK hP 0 rfl rfl 1 (by decide) (z_w hts 4 rfl) (fun _ h9 => h9) rfl dX3_load_67 ?_
      refine va_get (D := D) (ci := 1) (v := .int ((Ls 0).1 0 0)) (C := RX1) (T := TX1) (N := 13) hx hb hts (h_X1_X3_load) hown hK hP 8 rfl rfl 0 (by decide) (z_w hts 7 rfl) (fun _ h9 => h9) rfl dX3_load_70 ?_
      refine W.widen (k := 1) (n := 6) (Nat.le_of_ble_eq_true rfl) (Nat.le_of_ble_eq_true rfl) (vx_ret ?_)
      exact W.iret (v := (Ls 0).1 0 0) hx hb hr (fun t ht hW => ⟨⟨(Ls 0).1 0 0, (S, tx, hs, Ls), rfl, hw, by rw [ht]; exact hP, hD⟩, hS.F ht⟩) hS.2.2 dX3_load_73 hlocks
    · have hw := hw.2 c6
      refine lv_aload_n hx hb dX3_load_53 rfl (lv_at hl 0 rfl) ?_
      refine va_get (D := D) (ci := 3) (v := .ref (x 2)) (C := RX3) (T := TX3) (N := 7) hx hb hts (h_X3_X3_load) hown hK hP 0 rfl rfl 4 (by decide) (z_w hts 6 rfl) (fun _ h9 => h9) rfl dX3_load_54 ?_
      refine lv_iload_n hx hb dX3_load_57 rfl (lv_at hl 1 rfl) ?_
      refine lv_iconst (v := (0 : Int32)) hx hb dX3_load_58 (by decide) ?_
      obtain ⟨h7, hw⟩ := hw
      refine va_zast hx hb hK hP hD hS 2 1 rfl rfl h7 dX3_load_59 (fun H locs hP hD hS => ?_)
      have hP : va_P D vwCl (w_Xo cs x tq h a (upd S.1 x1.toNatClampNeg (vp_nar .boolean (0 : Int32)), S.2) ++ w_Text cs tq tx ++ w_Hist cs h a hs ++ linesW cs a 18 Ls) H := hP
      have hD : va_D A (w_Xo cs x tq h a (upd S.1 x1.toNatClampNeg (vp_nar .boolean (0 : Int32)), S.2) ++ w_Text cs tq tx ++ w_Hist cs h a hs ++ linesW cs a 18 Ls) := hD
      refine lv_iinc (v := x1 + 1) (lv' := [(1, .int (x1 + 1)), (0, .ref (x 0))]) hx hb dX3_load_60 hl (k := 1) rfl rfl (by decide) rfl (fun ls hl => ?_)
      refine lv_goto (tgt := 48) hx hb dX3_load_63 (by decide) ?_
      exact ih _ _ _ _ _ hw _ _ hP hD hS ls (lv_sub hl [1, 0] rfl)
set_option maxHeartbeats 4000000 in
set_option maxRecDepth 100000 in
theorem t_X3_load {p : Program} {l : Launch} {e : Env} {s : State} {m : MethodId} {args : Array Value} {below : List Frame} {meth : Method} {c : Code} {D : va_G} {cs : Nat → ClassId} {A : Nat → Prop} (hC : MAt p s m args meth c RX3 cX3_load 2 (some .int) wsX3_load D cs) (hfl : l.stackTraces = false) (hT0 : ∀ x ∈ c.exceptionTable.toList, False) {sa : Nat → Nat} (hTW : TW sa s) (hTZ : TZ A s s.heap) (x : Nat → Nat) (tq : Nat → Nat) (h : Nat → Nat) (a : Nat → Nat → Nat) (S : XO) (tx : TS) (hs : HS) (Ls : (Nat → LnS)) (Q : Int32 → XO → TS → HS → (Nat → LnS) → Prop) (QX : String → XO → TS → HS → (Nat → LnS) → Prop) (hA : ∀ q : Nat, s.heap.size ≤ q → A q) (hw : wp_X3_load S tx hs Ls Q QX) (H : Heap) (locs : List Loc) (hP : va_P D vwCl (w_Xo cs x tq h a S ++ w_Text cs tq tx ++ w_Hist cs h a hs ++ linesW cs a 18 Ls) H) (hD : va_D A (w_Xo cs x tq h a S ++ w_Text cs tq tx ++ w_Hist cs h a hs ++ linesW cs a 18 Ls)) (hS : va_S A s.heap H locs) (ls : Array Slot) (hl : lv_has ls 2 [(0, .ref (x 0))]) : W p l e ({ frames := 6, cells := 1, slots := 6, locals := 82 } : Room) s m args below meth c H locs 0 0 (vx_MQ below (va_Qi (fun r (u : XO × TS × HS × (Nat → LnS)) => Q r u.1 u.2.1 u.2.2.1 u.2.2.2) (fun (u : XO × TS × HS × (Nat → LnS)) t => va_P D vwCl (w_Xo cs x tq h a u.1 ++ w_Text cs tq u.2.1 ++ w_Hist cs h a u.2.2.1 ++ linesW cs a 18 u.2.2.2) t.heap ∧ va_D A (w_Xo cs x tq h a u.1 ++ w_Text cs tq u.2.1 ++ w_Hist cs h a u.2.2.1 ++ linesW cs a 18 u.2.2.2)) A) (vx_X (fun (_ : XO × TS × HS × (Nat → LnS)) => True) (fun E (u : XO × TS × HS × (Nat → LnS)) t => QX E u.1 u.2.1 u.2.2.1 u.2.2.2 ∧ va_P D vwCl (w_Xo cs x tq h a u.1 ++ w_Text cs tq u.2.1 ++ w_Hist cs h a u.2.2.1 ++ linesW cs a 18 u.2.2.2) t.heap ∧ va_D A (w_Xo cs x tq h a u.1 ++ w_Text cs tq u.2.1 ++ w_Hist cs h a u.2.2.1 ++ linesW cs a 18 u.2.2.2)) A) args s 1 6 A) (F0 m 0 ls []) := by
  obtain ⟨hx, hb, hr, hml, hown, hts, hlocks, hKK⟩ := id hC
  have hK := hKK.1
  refine lv_aload_n hx hb dX3_load_0 rfl (lv_at hl 0 rfl) ?_
  refine va_get (D := D) (ci := 3) (v := .ref (tq 0)) (C := RX3) (T := TX3) (N := 7) hx hb hts (h_X3_X3_load) hown hK hP 0 rfl rfl 0 (by decide) (z_w hts 3 rfl) (fun _ h9 => h9) rfl dX3_load_1 ?_
  have hPx := z_perm_P z_mid2 hP
  have hDx := z_perm_D z_mid2 hD
  have hPc := (z_app_P hPx).1
  have hDc := (z_app_D hDx).1
  refine z_calli (va_runV (As := []) (rest := []) ⟨hx, hb, hml, hown, hts⟩ (c_X2_firstWrong l D cs tq H.size tx _ hw) (cwV 0 hts gX3_load_X2_firstWrong rfl rfl rfl (by decide +kernel) ⟨Nat.le_of_ble_eq_true rfl, Nat.le_of_ble_eq_true rfl⟩) (PC_V hPc hDc hKK 0 2 rfl rfl) rfl rfl hl.1 rfl (lv_room (Nat.le_of_ble_eq_true rfl)) dX3_load_4 ⟨Nat.le_of_ble_eq_true rfl, Nat.le_of_ble_eq_true rfl⟩) (fun r1 hw => ?_)
  refine lv_iconst (v := (-1 : Int32)) hx hb dX3_load_7 (by decide) ?_
  refine lv_icmp_eq (tgt := 21) hx hb dX3_load_8 (by decide) (fun c2 => ?_) (fun c2 => ?_)
  · have hw := hw.1 c2
    refine lv_aload_n hx hb dX3_load_21 rfl (lv_at hl 0 rfl) ?_
    refine va_get (D := D) (ci := 3) (v := .ref (a 0 0)) (C := RX3) (T := TX3) (N := 7) hx hb hts (h_X3_X3_load) hown hK hP 0 rfl rfl 1 (by decide) (z_w hts 4 rfl) (fun _ h9 => h9) rfl dX3_load_22 ?_
    have hPx := z_perm_P (lines_1 (cs := cs) (a := a) (n := 18) (i := 0) Ls (w_Xo cs x tq h a S ++ w_Text cs tq tx ++ w_Hist cs h a hs) (by decide)) hP
    have hDx := z_perm_D (lines_1 (cs := cs) (a := a) (n := 18) (i := 0) Ls (w_Xo cs x tq h a S ++ w_Text cs tq tx ++ w_Hist cs h a hs) (by decide)) hD
    have hPc := (z_app_P hPx).1
    have hDc := (z_app_D hDx).1
    have hFc := z_free hDx hS hA
    refine va_callv (va_runV (As := []) (rest := []) ⟨hx, hb, hml, hown, hts⟩ (c_X1_clear l D cs (a 0) H.size (Ls 0) _ hw) (cwV 0 hts gX3_load_X1_clear rfl rfl rfl (by decide +kernel) ⟨Nat.le_of_ble_eq_true rfl, Nat.le_of_ble_eq_true rfl⟩) (PC_V hPc hDc hKK 0 1 rfl rfl) rfl rfl hl.1 rfl (lv_room (Nat.le_of_ble_eq_true rfl)) dX3_load_25 ⟨Nat.le_of_ble_eq_true rfl, Nat.le_of_ble_eq_true rfl⟩) hS (fun q _ h => hFc q h) hFc (fun u3 t H locs ht hvm hw hB hz1 hk1 hS => ?_)
    obtain ⟨hP1, hD1⟩ := hB
    rw [ht] at hP1
    obtain ⟨hPx, hDx⟩ := z_join hPx hDx hk1 hFc hP1 hD1
    have hP : va_P D vwCl (w_Xo cs x tq h a S ++ w_Text cs tq tx ++ w_Hist cs h a hs ++ linesW cs a 18 (va_up Ls 0 u3)) H := z_perm_P (lines_1b (cs := cs) (a := a) (n := 18) (i := 0) Ls (w_Xo cs x tq h a S ++ w_Text cs tq tx ++ w_Hist cs h a hs) (by decide) u3) hPx
    have hD : va_D A (w_Xo cs x tq h a S ++ w_Text cs tq tx ++ w_Hist cs h a hs ++ linesW cs a 18 (va_up Ls 0 u3)) := z_perm_D (lines_1b (cs := cs) (a := a) (n := 18) (i := 0) Ls (w_Xo cs x tq h a S ++ w_Text cs tq tx ++ w_Hist cs h a hs) (by decide) u3) hDx
    refine lv_aload_n hx hb dX3_load_28 rfl (lv_at hl 0 rfl) ?_
    refine va_get (D := D) (ci := 3) (v := .ref (tq 0)) (C := RX3) (T := TX3) (N := 7) hx hb hts (h_X3_X3_load) hown hK hP 0 rfl rfl 0 (by decide) (z_w hts 3 rfl) (fun _ h9 => h9) rfl dX3_load_29 ?_
    refine lv_aload_n hx hb dX3_load_32 rfl (lv_at hl 0 rfl) ?_
    refine va_get (D := D) (ci := 3) (v := .ref (a 0 0)) (C := RX3) (T := TX3) (N := 7) hx hb hts (h_X3_X3_load) hown hK hP 0 rfl rfl 1 (by decide) (z_w hts 4 rfl) (fun _ h9 => h9) rfl dX3_load_33 ?_
    have hPx := z_perm_P (lines_t (cs := cs) (a := a) (n := 18) (i := 0) (va_up Ls 0 u3) (w_Xo cs x tq h a S) (w_Text cs tq tx) (w_Hist cs h a hs) (by decide)) hP
    have hDx := z_perm_D (lines_t (cs := cs) (a := a) (n := 18) (i := 0) (va_up Ls 0 u3) (w_Xo cs x tq h a S) (w_Text cs tq tx) (w_Hist cs h a hs) (by decide)) hD
    have hPc := (z_app_P hPx).1
    have hDc := (z_app_D hDx).1
    have hFc := z_free hDx hS hA
    refine va_callv (va_runV (As := [.ref (a 0 0)]) (rest := []) ⟨hx, hb, hml, hown, hts⟩ (c_X2_writeInto l D cs tq (a 0) H.size tx u3 _ hw) (cwV 1 hts gX3_load_X2_writeInto rfl rfl rfl (by decide +kernel) ⟨Nat.le_of_ble_eq_true rfl, Nat.le_of_ble_eq_true rfl⟩) (PC_V hPc hDc hKK 0 2 rfl rfl) rfl rfl hl.1 rfl (lv_room (Nat.le_of_ble_eq_true rfl)) dX3_load_36 ⟨Nat.le_of_ble_eq_true rfl, Nat.le_of_ble_eq_true rfl⟩) hS (fun q _ h => hFc q h) hFc (fun u4 t H locs ht hvm hw hB hz1 hk1 hS => ?_)
    obtain ⟨hP1, hD1⟩ := hB
    rw [ht] at hP1
    obtain ⟨hPx, hDx⟩ := z_join hPx hDx hk1 hFc hP1 hD1
    have hP : va_P D vwCl (w_Xo cs x tq h a S ++ w_Text cs tq tx ++ w_Hist cs h a hs ++ linesW cs a 18 (va_up Ls 0 u4)) H := z_perm_P (lines_tb (cs := cs) (a := a) (n := 18) (i := 0) (va_up Ls 0 u3) (w_Xo cs x tq h a S) (w_Text cs tq tx) (w_Hist cs h a hs) (by decide) u4) hPx
    have hD : va_D A (w_Xo cs x tq h a S ++ w_Text cs tq tx ++ w_Hist cs h a hs ++ linesW cs a 18 (va_up Ls 0 u4)) := z_perm_D (lines_tb (cs := cs) (a := a) (n := 18) (i := 0) (va_up Ls 0 u3) (w_Xo cs x tq h a S) (w_Text cs tq tx) (w_Hist cs h a hs) (by decide) u4) hDx
    refine lv_aload_n hx hb dX3_load_39 rfl (lv_at hl 0 rfl) ?_
    refine va_get (D := D) (ci := 3) (v := .ref (h 0)) (C := RX3) (T := TX3) (N := 7) hx hb hts (h_X3_X3_load) hown hK hP 0 rfl rfl 2 (by decide) (z_w hts 5 rfl) (fun _ h9 => h9) rfl dX3_load_40 ?_
    have hPx := z_perm_P z_rot hP
    have hDx := z_perm_D z_rot hD
    have hPc := (z_app_P hPx).1
    have hDc := (z_app_D hDx).1
    have hFc := z_free hDx hS hA
    refine va_callv (va_runV (As := []) (rest := []) ⟨hx, hb, hml, hown, hts⟩ (c_X0_forget l D cs h a H.size hs (va_up Ls 0 u4) _ hw) (cwV 0 hts gX3_load_X0_forget rfl rfl rfl (by decide +kernel) ⟨Nat.le_of_ble_eq_true rfl, Nat.le_of_ble_eq_true rfl⟩) (PC_V hPc hDc hKK 0 0 rfl rfl) rfl rfl hl.1 rfl (lv_room (Nat.le_of_ble_eq_true rfl)) dX3_load_43 ⟨Nat.le_of_ble_eq_true rfl, Nat.le_of_ble_eq_true rfl⟩) hS (fun q _ h => hFc q h) hFc (fun u5 t H locs ht hvm hw hB hz1 hk1 hS => ?_)
    obtain ⟨hP1, hD1⟩ := hB
    rw [ht] at hP1
    obtain ⟨hPx, hDx⟩ := z_join hPx hDx hk1 hFc hP1 hD1
    have hP : va_P D vwCl (w_Xo cs x tq h a S ++ w_Text cs tq tx ++ w_Hist cs h a u5 ++ linesW cs a 18 (va_up Ls 0 u4)) H := z_perm_P z_rotb hPx
    have hD : va_D A (w_Xo cs x tq h a S ++ w_Text cs tq tx ++ w_Hist cs h a u5 ++ linesW cs a 18 (va_up Ls 0 u4)) := z_perm_D z_rotb hDx
    refine lv_iconst (v := (0 : Int32)) hx hb dX3_load_46 (by decide) ?_
    refine lv_istore_n (lv' := [(1, .int (0 : Int32)), (0, .ref (x 0))]) hx hb dX3_load_47 rfl hl (by decide) rfl (fun ls hl => ?_)
    obtain ⟨n8, hw⟩ := hw
    exact t_X3_load_48 hC hfl hT0 hTW hTZ x tq h a _ _ hA n8 _ _ _ _ _ hw H locs hP hD hS ls (lv_sub hl [1, 0] rfl)
  · have hw := hw.2 c2
    exact vx_throwS hx hb hfl hown (by decide +kernel) (by decide +kernel) (z_w hts 1 rfl) (z_w hts 2 rfl) (show vk_R RX3 68 "the text is not a line" (sa 1) s from hTW.1 1 (by decide)) (vx_hat (fun w h => hts w (List.mem_cons_of_mem _ (List.mem_append_right _ h))) zb_eISE (vx_c (va_Nw.use rfl hTW.2.1) (vx_c (va_Nw.use rfl hTW.2.2.2.2.2.2.2.2.2.2.1) (vx_c (va_Nw.use rfl hTW.2.2.2.2.2.2.2.2.2.2.2.1) (vx_c (va_Nw.use rfl hTW.2.2.2.2.2.2.2.2.2.2.2.2) vx_n))))) zh_eISE hTZ.1 hTZ.2 hS (hl.1.trans hml.symm) dX3_load_11 dX3_load_14 dX3_load_15 dX3_load_17 dX3_load_20 (fun x h => (hT0 x h).elim) (Nat.le_of_ble_eq_true rfl) (Nat.le_of_ble_eq_true rfl) (Nat.le_of_ble_eq_true rfl) (Nat.le_of_ble_eq_true rfl) hlocks (fun t ha hz hk => ⟨(S, tx, hs, Ls), trivial, ⟨hw, hP.kept (fun k q hq => hk q.1 (hP k q hq).lt), hD⟩, ⟨Nat.le_trans hS.1 hz, fun q h1 h2 => (hk q (Nat.lt_of_lt_of_le h1 hS.1)).trans (hS.2.1 q h1 h2)⟩⟩) hS.2.2 (Nat.le_of_ble_eq_true rfl) (Nat.le_of_ble_eq_true rfl)
set_option maxHeartbeats 4000000 in
set_option maxRecDepth 100000 in
theorem c_X3_load (l : Launch) (hfl : l.stackTraces = false) (D : va_G) (cs : Nat → ClassId) (x : Nat → Nat) (tq : Nat → Nat) (h : Nat → Nat) (a : Nat → Nat → Nat) (sz : Nat) (sa : Nat → Nat) (S : XO) (tx : TS) (hs : HS) (Ls : (Nat → LnS)) (Q : Int32 → XO → TS → HS → (Nat → LnS) → Prop) (QX : String → XO → TS → HS → (Nat → LnS) → Prop) (hw : wp_X3_load S tx hs Ls Q QX) : vx_Met l yX3_load wsX3_load ({ frames := 6, cells := 1, slots := 6, locals := 82 } : Room) (va_Pc [.ref (x 0)] (PX D cs (w_Xo cs x tq h a S ++ w_Text cs tq tx ++ w_Hist cs h a hs ++ linesW cs a 18 Ls) sa sz)) (va_Qi (fun r (u : XO × TS × HS × (Nat → LnS)) => Q r u.1 u.2.1 u.2.2.1 u.2.2.2) (fun (u : XO × TS × HS × (Nat → LnS)) t => va_P D vwCl (w_Xo cs x tq h a u.1 ++ w_Text cs tq u.2.1 ++ w_Hist cs h a u.2.2.1 ++ linesW cs a 18 u.2.2.2) t.heap ∧ va_D (va_A (w_Xo cs x tq h a S ++ w_Text cs tq tx ++ w_Hist cs h a hs ++ linesW cs a 18 Ls) sz) (w_Xo cs x tq h a u.1 ++ w_Text cs tq u.2.1 ++ w_Hist cs h a u.2.2.1 ++ linesW cs a 18 u.2.2.2)) (va_A (w_Xo cs x tq h a S ++ w_Text cs tq tx ++ w_Hist cs h a hs ++ linesW cs a 18 Ls) sz)) (vx_X (fun (_ : XO × TS × HS × (Nat → LnS)) => True) (fun E (u : XO × TS × HS × (Nat → LnS)) t => QX E u.1 u.2.1 u.2.2.1 u.2.2.2 ∧ va_P D vwCl (w_Xo cs x tq h a u.1 ++ w_Text cs tq u.2.1 ++ w_Hist cs h a u.2.2.1 ++ linesW cs a 18 u.2.2.2) t.heap ∧ va_D (va_A (w_Xo cs x tq h a S ++ w_Text cs tq tx ++ w_Hist cs h a hs ++ linesW cs a 18 Ls) sz) (w_Xo cs x tq h a u.1 ++ w_Text cs tq u.2.1 ++ w_Hist cs h a u.2.2.1 ++ linesW cs a 18 u.2.2.2)) (va_A (w_Xo cs x tq h a S ++ w_Text cs tq tx ++ w_Hist cs h a hs ++ linesW cs a 18 Ls) sz)) 1 6 (va_A (w_Xo cs x tq h a S ++ w_Text cs tq tx ++ w_Hist cs h a hs ++ linesW cs a 18 Ls) sz) := by
  refine vx_ofW (cc := cX3_load) (maxL := 2) (ret := (some .int)) (by decide) rfl ?_
  intro p e s m args below meth c s₁ B hml hT0 hv
  obtain ⟨rfl, ⟨hsz, hP, hKK, hD0⟩, hTW, hTZ⟩ := hv
  have hC : MAt p s m _ meth c RX3 cX3_load 2 (some .int) wsX3_load D cs := ⟨B.exec, B.bytes, B.returns, hml, findClass_of_methodNamed B.named, atoms_spec (ws := wsX3_load) B.pre, B.notSynchronized, hKK⟩
  have hl := lv_entry ([.ref (x 0)]) (n := 2) (Nat.le_of_ble_eq_true rfl)
  rw [lg_entry_eq]
  generalize (lg_sl ([.ref (x 0)]) ++ List.replicate (2 - (lg_sl ([.ref (x 0)])).length) Slot.unset).toArray = ls at hl ⊢
  subst hsz
  have hD := hD0.self (sz := s.heap.size)
  have hA : ∀ z : Nat, s.heap.size ≤ z → va_A (w_Xo cs x tq h a S ++ w_Text cs tq tx ++ w_Hist cs h a hs ++ linesW cs a 18 Ls) s.heap.size z := fun z h => Or.inr h
  exact t_X3_load hC hfl hT0 hTW hTZ x tq h a S tx hs Ls Q QX hA hw s.heap [] hP hD va_S.rf ls hl
theorem h_X1_X3_about : ∀ w ∈ u_ws RX1 TX1 13, w ∈ wsX3_about := fun _ h => List.mem_cons_of_mem _ (List.mem_append_left _ (List.mem_append_right _ h))
theorem h_X3_X3_about : ∀ w ∈ u_ws RX3 TX3 7, w ∈ wsX3_about := fun _ h => List.mem_cons_of_mem _ (List.mem_append_left _ (List.mem_append_left _ (List.mem_append_right _ h)))
set_option maxHeartbeats 4000000 in
set_option maxRecDepth 100000 in
theorem t_X3_about {p : Program} {l : Launch} {e : Env} {s : State} {m : MethodId} {args : Array Value} {below : List Frame} {meth : Method} {c : Code} {D : va_G} {cs : Nat → ClassId} {A : Nat → Prop} (hC : MAt p s m args meth c RX3 cX3_about 2 (some .int) wsX3_about D cs) (hfl : l.stackTraces = false) (hT0 : ∀ x ∈ c.exceptionTable.toList, False) {sa : Nat → Nat} (hTW : TW sa s) (hTZ : TZ A s s.heap) (x : Nat → Nat) (tq : Nat → Nat) (h : Nat → Nat) (a : Nat → Nat → Nat) (S : XO) (tx : TS) (hs : HS) (Ls : (Nat → LnS)) (x1 : Int32) (Q : Int32 → XO → TS → HS → (Nat → LnS) → Prop) (QX : String → XO → TS → HS → (Nat → LnS) → Prop) (hA : ∀ q : Nat, s.heap.size ≤ q → A q) (hw : wp_X3_about S tx hs Ls x1 Q QX) (H : Heap) (locs : List Loc) (hP : va_P D vwCl (w_Xo cs x tq h a S ++ w_Text cs tq tx ++ w_Hist cs h a hs ++ linesW cs a 18 Ls) H) (hD : va_D A (w_Xo cs x tq h a S ++ w_Text cs tq tx ++ w_Hist cs h a hs ++ linesW cs a 18 Ls)) (hS : va_S A s.heap H locs) (ls : Array Slot) (hl : lv_has ls 2 [(0, .ref (x 0)), (1, .int x1)]) : W p l e ({ frames := 7, cells := 1, slots := 6, locals := 104 } : Room) s m args below meth c H locs 0 0 (vx_MQ below (va_Qi (fun r (u : XO × TS × HS × (Nat → LnS)) => Q r u.1 u.2.1 u.2.2.1 u.2.2.2) (fun (u : XO × TS × HS × (Nat → LnS)) t => va_P D vwCl (w_Xo cs x tq h a u.1 ++ w_Text cs tq u.2.1 ++ w_Hist cs h a u.2.2.1 ++ linesW cs a 18 u.2.2.2) t.heap ∧ va_D A (w_Xo cs x tq h a u.1 ++ w_Text cs tq u.2.1 ++ w_Hist cs h a u.2.2.1 ++ linesW cs a 18 u.2.2.2)) A) (vx_X (fun (_ : XO × TS × HS × (Nat → LnS)) => True) (fun E (u : XO × TS × HS × (Nat → LnS)) t => QX E u.1 u.2.1 u.2.2.1 u.2.2.2 ∧ va_P D vwCl (w_Xo cs x tq h a u.1 ++ w_Text cs tq u.2.1 ++ w_Hist cs h a u.2.2.1 ++ linesW cs a 18 u.2.2.2) t.heap ∧ va_D A (w_Xo cs x tq h a u.1 ++ w_Text cs tq u.2.1 ++ w_Hist cs h a u.2.2.1 ++ linesW cs a 18 u.2.2.2)) A) args s 1 6 A) (F0 m 0 ls []) := by
  obtain ⟨hx, hb, hr, hml, hown, hts, hlocks, hKK⟩ := id hC
  have hK := hKK.1
  refine lv_iload_n hx hb dX3_about_0 rfl (lv_at hl 1 rfl) ?_
  refine lv_iconst (v := (0 : Int32)) hx hb dX3_about_1 (by decide) ?_
  refine lv_bipush (v := (6 : Int32)) hx hb dX3_about_2 (by decide) ?_
  have hPc : va_P D vwCl ([] : va_W) H := z_nilP
  have hDc : va_D A ([] : va_W) := z_nilD
  have hFc := z_free (wc := []) hD hS hA
  refine vx_callv (vx_runS (As := [.int x1, .int (0 : Int32), .int (6 : Int32)]) (rest := []) ⟨hx, hb, hml, hown, hts⟩ (c_X3_requireRange l hfl D cs  H.size sa x1 (0 : Int32) (6 : Int32) _ _ hw) (va_cwS 3 hts gX3_about_X3_requireRange rfl rfl rfl (by decide +kernel) ⟨Nat.le_of_ble_eq_true rfl, Nat.le_of_ble_eq_true rfl⟩) (PX_S hPc hDc hKK hTW hTZ hS hFc) rfl rfl hl.1 rfl (lv_room (Nat.le_of_ble_eq_true rfl)) dX3_about_4 ⟨Nat.le_of_ble_eq_true rfl, Nat.le_of_ble_eq_true rfl⟩) hS (fun q _ h => hFc q h) hFc (fun q _ h => hFc q h) ?_ (fun u1 t H locs ht hvm hw hB hz1 hk1 hS => ?_)
  · intro E ce q9 u1 t H locs ht hvm hpx hB hz1 hk1 hS hq9 hce hcl
    obtain ⟨hw, hP1, hD1⟩ := hB
    rw [ht] at hP1
    obtain ⟨hP, hD⟩ := z_join (wc := []) hP hD hk1 hFc hP1 hD1
    have hP : va_P D vwCl (w_Xo cs x tq h a S ++ w_Text cs tq tx ++ w_Hist cs h a hs ++ linesW cs a 18 Ls) H := hP
    have hD : va_D A (w_Xo cs x tq h a S ++ w_Text cs tq tx ++ w_Hist cs h a hs ++ linesW cs a 18 Ls) := hD
    exact vx_out (fun x h => (hT0 x h).elim) hlocks hq9 hce hcl (fun t2 ht2 hvm2 => ⟨(S, tx, hs, Ls), trivial, ⟨hw, by rw [ht2]; exact hP, hD⟩, hS.F ht2⟩) hS.2.2 (Nat.le_of_ble_eq_true rfl) (Nat.le_of_ble_eq_true rfl)
  obtain ⟨hP1, hD1⟩ := hB
  rw [ht] at hP1
  obtain ⟨hP, hD⟩ := z_join (wc := []) hP hD hk1 hFc hP1 hD1
  have hP : va_P D vwCl (w_Xo cs x tq h a S ++ w_Text cs tq tx ++ w_Hist cs h a hs ++ linesW cs a 18 Ls) H := hP
  have hD : va_D A (w_Xo cs x tq h a S ++ w_Text cs tq tx ++ w_Hist cs h a hs ++ linesW cs a 18 Ls) := hD
  refine lv_iload_n hx hb dX3_about_7 rfl (lv_at hl 1 rfl) ?_
  by_cases c2_0 : x1 = 0
  · have hw := hw.1 c2_0
    refine lv_tableIn (off := 40) (tgt := 48) hx hb dX3_about_8 (by rw [c2_0]; decide) (by rw [c2_0]; decide) (by rw [c2_0]; rfl) (by decide) ?_
    refine lv_aload_n hx hb dX3_about_48 rfl (lv_at hl 0 rfl) ?_
    refine va_get (D := D) (ci := 3) (v := .ref (a 0 0)) (C := RX3) (T := TX3) (N := 7) hx hb hts (h_X3_X3_about) hown hK hP 0 rfl rfl 1 (by decide) (z_w hts 1 rfl) (fun _ h9 => h9) rfl dX3_about_49 ?_
    refine va_get (D := D) (ci := 1) (v := .int ((Ls 0).1 0 0)) (C := RX1) (T := TX1) (N := 13) hx hb hts (h_X1_X3_about) hown hK hP 8 rfl rfl 0 (by decide) (z_w hts 2 rfl) (fun _ h9 => h9) rfl dX3_about_52 ?_
    refine W.widen (k := 1) (n := 6) (Nat.le_of_ble_eq_true rfl) (Nat.le_of_ble_eq_true rfl) (vx_ret ?_)
    exact W.iret (v := (Ls 0).1 0 0) hx hb hr (fun t ht hW => ⟨⟨(Ls 0).1 0 0, (S, tx, hs, Ls), rfl, hw, by rw [ht]; exact hP, hD⟩, hS.F ht⟩) hS.2.2 dX3_about_55 hlocks
  have hw := hw.2 c2_0
  by_cases c2_1 : x1 = 1
  · have hw := hw.1 c2_1
    refine lv_tableIn (off := 48) (tgt := 56) hx hb dX3_about_8 (by rw [c2_1]; decide) (by rw [c2_1]; decide) (by rw [c2_1]; rfl) (by decide) ?_
    refine lv_aload_n hx hb dX3_about_56 rfl (lv_at hl 0 rfl) ?_
    refine va_get (D := D) (ci := 3) (v := .ref (a 0 0)) (C := RX3) (T := TX3) (N := 7) hx hb hts (h_X3_X3_about) hown hK hP 0 rfl rfl 1 (by decide) (z_w hts 1 rfl) (fun _ h9 => h9) rfl dX3_about_57 ?_
    refine va_get (D := D) (ci := 1) (v := .int ((Ls 0).1 0 1)) (C := RX1) (T := TX1) (N := 13) hx hb hts (h_X1_X3_about) hown hK hP 8 rfl rfl 1 (by decide) (z_w hts 3 rfl) (fun _ h9 => h9) rfl dX3_about_60 ?_
    refine W.widen (k := 1) (n := 6) (Nat.le_of_ble_eq_true rfl) (Nat.le_of_ble_eq_true rfl) (vx_ret ?_)
    exact W.iret (v := (Ls 0).1 0 1) hx hb hr (fun t ht hW => ⟨⟨(Ls 0).1 0 1, (S, tx, hs, Ls), rfl, hw, by rw [ht]; exact hP, hD⟩, hS.F ht⟩) hS.2.2 dX3_about_63 hlocks
  have hw := hw.2 c2_1
  by_cases c2_2 : x1 = 2
  · have hw := hw.1 c2_2
    refine lv_tableIn (off := 56) (tgt := 64) hx hb dX3_about_8 (by rw [c2_2]; decide) (by rw [c2_2]; decide) (by rw [c2_2]; rfl) (by decide) ?_
    refine lv_aload_n hx hb dX3_about_64 rfl (lv_at hl 0 rfl) ?_
    refine va_get (D := D) (ci := 3) (v := .ref (a 0 0)) (C := RX3) (T := TX3) (N := 7) hx hb hts (h_X3_X3_about) hown hK hP 0 rfl rfl 1 (by decide) (z_w hts 1 rfl) (fun _ h9 => h9) rfl dX3_about_65 ?_
    refine va_get (D := D) (ci := 1) (v := .int ((Ls 0).1 0 2)) (C := RX1) (T := TX1) (N := 13) hx hb hts (h_X1_X3_about) hown hK hP 8 rfl rfl 2 (by decide) (z_w hts 4 rfl) (fun _ h9 => h9) rfl dX3_about_68 ?_
    refine W.widen (k := 1) (n := 6) (Nat.le_of_ble_eq_true rfl) (Nat.le_of_ble_eq_true rfl) (vx_ret ?_)
    exact W.iret (v := (Ls 0).1 0 2) hx hb hr (fun t ht hW => ⟨⟨(Ls 0).1 0 2, (S, tx, hs, Ls), rfl, hw, by rw [ht]; exact hP, hD⟩, hS.F ht⟩) hS.2.2 dX3_about_71 hlocks
  have hw := hw.2 c2_2
  by_cases c2_3 : x1 = 3
  · have hw := hw.1 c2_3
    refine lv_tableIn (off := 64) (tgt := 72) hx hb dX3_about_8 (by rw [c2_3]; decide) (by rw [c2_3]; decide) (by rw [c2_3]; rfl) (by decide) ?_
    refine lv_aload_n hx hb dX3_about_72 rfl (lv_at hl 0 rfl) ?_
    refine va_get (D := D) (ci := 3) (v := .ref (a 0 0)) (C := RX3) (T := TX3) (N := 7) hx hb hts (h_X3_X3_about) hown hK hP 0 rfl rfl 1 (by decide) (z_w hts 1 rfl) (fun _ h9 => h9) rfl dX3_about_73 ?_
    refine va_get (D := D) (ci := 1) (v := .int ((Ls 0).1 0 3)) (C := RX1) (T := TX1) (N := 13) hx hb hts (h_X1_X3_about) hown hK hP 8 rfl rfl 3 (by decide) (z_w hts 5 rfl) (fun _ h9 => h9) rfl dX3_about_76 ?_
    refine W.widen (k := 1) (n := 6) (Nat.le_of_ble_eq_true rfl) (Nat.le_of_ble_eq_true rfl) (vx_ret ?_)
    exact W.iret (v := (Ls 0).1 0 3) hx hb hr (fun t ht hW => ⟨⟨(Ls 0).1 0 3, (S, tx, hs, Ls), rfl, hw, by rw [ht]; exact hP, hD⟩, hS.F ht⟩) hS.2.2 dX3_about_79 hlocks
  have hw := hw.2 c2_3
  by_cases c2_4 : x1 = 4
  · have hw := hw.1 c2_4
    refine lv_tableIn (off := 72) (tgt := 80) hx hb dX3_about_8 (by rw [c2_4]; decide) (by rw [c2_4]; decide) (by rw [c2_4]; rfl) (by decide) ?_
    refine lv_aload_n hx hb dX3_about_80 rfl (lv_at hl 0 rfl) ?_
    refine va_get (D := D) (ci := 3) (v := .ref (a 0 0)) (C := RX3) (T := TX3) (N := 7) hx hb hts (h_X3_X3_about) hown hK hP 0 rfl rfl 1 (by decide) (z_w hts 1 rfl) (fun _ h9 => h9) rfl dX3_about_81 ?_
    have hPx := z_perm_P (lines_1 (cs := cs) (a := a) (n := 18) (i := 0) Ls (w_Xo cs x tq h a S ++ w_Text cs tq tx ++ w_Hist cs h a hs) (by decide)) hP
    have hDx := z_perm_D (lines_1 (cs := cs) (a := a) (n := 18) (i := 0) Ls (w_Xo cs x tq h a S ++ w_Text cs tq tx ++ w_Hist cs h a hs) (by decide)) hD
    have hPc := (z_app_P hPx).1
    have hDc := (z_app_D hDx).1
    refine z_calli (va_runV (As := []) (rest := []) ⟨hx, hb, hml, hown, hts⟩ (c_X1_countersAtRest l D cs (a 0) H.size (Ls 0) _ hw) (cwV 0 hts gX3_about_X1_countersAtRest rfl rfl rfl (by decide +kernel) ⟨Nat.le_of_ble_eq_true rfl, Nat.le_of_ble_eq_true rfl⟩) (PC_V hPc hDc hKK 0 1 rfl rfl) rfl rfl hl.1 rfl (lv_room (Nat.le_of_ble_eq_true rfl)) dX3_about_84 ⟨Nat.le_of_ble_eq_true rfl, Nat.le_of_ble_eq_true rfl⟩) (fun r3 hw => ?_)
    refine W.widen (k := 1) (n := 6) (Nat.le_of_ble_eq_true rfl) (Nat.le_of_ble_eq_true rfl) (vx_ret ?_)
    exact W.iret (v := r3) hx hb hr (fun t ht hW => ⟨⟨r3, (S, tx, hs, Ls), rfl, hw, by rw [ht]; exact hP, hD⟩, hS.F ht⟩) hS.2.2 dX3_about_87 hlocks
  have hw := hw.2 c2_4
  by_cases c2_5 : x1 = 5
  · have hw := hw.1 c2_5
    refine lv_tableIn (off := 80) (tgt := 88) hx hb dX3_about_8 (by rw [c2_5]; decide) (by rw [c2_5]; decide) (by rw [c2_5]; rfl) (by decide) ?_
    refine lv_aload_n hx hb dX3_about_88 rfl (lv_at hl 0 rfl) ?_
    refine va_get (D := D) (ci := 3) (v := .ref (a 0 0)) (C := RX3) (T := TX3) (N := 7) hx hb hts (h_X3_X3_about) hown hK hP 0 rfl rfl 1 (by decide) (z_w hts 1 rfl) (fun _ h9 => h9) rfl dX3_about_89 ?_
    have hPx := z_perm_P (lines_1 (cs := cs) (a := a) (n := 18) (i := 0) Ls (w_Xo cs x tq h a S ++ w_Text cs tq tx ++ w_Hist cs h a hs) (by decide)) hP
    have hDx := z_perm_D (lines_1 (cs := cs) (a := a) (n := 18) (i := 0) Ls (w_Xo cs x tq h a S ++ w_Text cs tq tx ++ w_Hist cs h a hs) (by decide)) hD
    have hPc := (z_app_P hPx).1
    have hDc := (z_app_D hDx).1
    refine z_calli (va_runV (As := []) (rest := []) ⟨hx, hb, hml, hown, hts⟩ (c_X1_waitingInAll l D cs (a 0) H.size (Ls 0) _ hw) (cwV 0 hts gX3_about_X1_waitingInAll rfl rfl rfl (by decide +kernel) ⟨Nat.le_of_ble_eq_true rfl, Nat.le_of_ble_eq_true rfl⟩) (PC_V hPc hDc hKK 0 1 rfl rfl) rfl rfl hl.1 rfl (lv_room (Nat.le_of_ble_eq_true rfl)) dX3_about_92 ⟨Nat.le_of_ble_eq_true rfl, Nat.le_of_ble_eq_true rfl⟩) (fun r4 hw => ?_)
    refine W.widen (k := 1) (n := 6) (Nat.le_of_ble_eq_true rfl) (Nat.le_of_ble_eq_true rfl) (vx_ret ?_)
    exact W.iret (v := r4) hx hb hr (fun t ht hW => ⟨⟨r4, (S, tx, hs, Ls), rfl, hw, by rw [ht]; exact hP, hD⟩, hS.F ht⟩) hS.2.2 dX3_about_95 hlocks
  have hw := hw.2 c2_5
  have e2_0 : ¬ (x1).toInt = 0 := fun h => c2_0 (Int32.toInt_inj.mp h)
  have e2_1 : ¬ (x1).toInt = 1 := fun h => c2_1 (Int32.toInt_inj.mp h)
  have e2_2 : ¬ (x1).toInt = 2 := fun h => c2_2 (Int32.toInt_inj.mp h)
  have e2_3 : ¬ (x1).toInt = 3 := fun h => c2_3 (Int32.toInt_inj.mp h)
  have e2_4 : ¬ (x1).toInt = 4 := fun h => c2_4 (Int32.toInt_inj.mp h)
  have e2_5 : ¬ (x1).toInt = 5 := fun h => c2_5 (Int32.toInt_inj.mp h)
  refine lv_tableOut (tgt := 96) hx hb dX3_about_8 (by omega) (by decide) ?_
  refine lv_aload_n hx hb dX3_about_96 rfl (lv_at hl 0 rfl) ?_
  refine va_get (D := D) (ci := 3) (v := .ref (a 0 0)) (C := RX3) (T := TX3) (N := 7) hx hb hts (h_X3_X3_about) hown hK hP 0 rfl rfl 1 (by decide) (z_w hts 1 rfl) (fun _ h9 => h9) rfl dX3_about_97 ?_
  have hPx := z_perm_P (lines_1 (cs := cs) (a := a) (n := 18) (i := 0) Ls (w_Xo cs x tq h a S ++ w_Text cs tq tx ++ w_Hist cs h a hs) (by decide)) hP
  have hDx := z_perm_D (lines_1 (cs := cs) (a := a) (n := 18) (i := 0) Ls (w_Xo cs x tq h a S ++ w_Text cs tq tx ++ w_Hist cs h a hs) (by decide)) hD
  have hPc := (z_app_P hPx).1
  have hDc := (z_app_D hDx).1
  refine z_calli (va_runV (As := []) (rest := []) ⟨hx, hb, hml, hown, hts⟩ (c_X1_pairs l D cs (a 0) H.size (Ls 0) _ hw) (cwV 0 hts gX3_about_X1_pairs rfl rfl rfl (by decide +kernel) ⟨Nat.le_of_ble_eq_true rfl, Nat.le_of_ble_eq_true rfl⟩) (PC_V hPc hDc hKK 0 1 rfl rfl) rfl rfl hl.1 rfl (lv_room (Nat.le_of_ble_eq_true rfl)) dX3_about_100 ⟨Nat.le_of_ble_eq_true rfl, Nat.le_of_ble_eq_true rfl⟩) (fun r5 hw => ?_)
  refine W.widen (k := 1) (n := 6) (Nat.le_of_ble_eq_true rfl) (Nat.le_of_ble_eq_true rfl) (vx_ret ?_)
  exact W.iret (v := r5) hx hb hr (fun t ht hW => ⟨⟨r5, (S, tx, hs, Ls), rfl, hw, by rw [ht]; exact hP, hD⟩, hS.F ht⟩) hS.2.2 dX3_about_103 hlocks
set_option maxHeartbeats 4000000 in
set_option maxRecDepth 100000 in
theorem c_X3_about (l : Launch) (hfl : l.stackTraces = false) (D : va_G) (cs : Nat → ClassId) (x : Nat → Nat) (tq : Nat → Nat) (h : Nat → Nat) (a : Nat → Nat → Nat) (sz : Nat) (sa : Nat → Nat) (S : XO) (tx : TS) (hs : HS) (Ls : (Nat → LnS)) (x1 : Int32) (Q : Int32 → XO → TS → HS → (Nat → LnS) → Prop) (QX : String → XO → TS → HS → (Nat → LnS) → Prop) (hw : wp_X3_about S tx hs Ls x1 Q QX) : vx_Met l yX3_about wsX3_about ({ frames := 7, cells := 1, slots := 6, locals := 104 } : Room) (va_Pc [.ref (x 0), .int x1] (PX D cs (w_Xo cs x tq h a S ++ w_Text cs tq tx ++ w_Hist cs h a hs ++ linesW cs a 18 Ls) sa sz)) (va_Qi (fun r (u : XO × TS × HS × (Nat → LnS)) => Q r u.1 u.2.1 u.2.2.1 u.2.2.2) (fun (u : XO × TS × HS × (Nat → LnS)) t => va_P D vwCl (w_Xo cs x tq h a u.1 ++ w_Text cs tq u.2.1 ++ w_Hist cs h a u.2.2.1 ++ linesW cs a 18 u.2.2.2) t.heap ∧ va_D (va_A (w_Xo cs x tq h a S ++ w_Text cs tq tx ++ w_Hist cs h a hs ++ linesW cs a 18 Ls) sz) (w_Xo cs x tq h a u.1 ++ w_Text cs tq u.2.1 ++ w_Hist cs h a u.2.2.1 ++ linesW cs a 18 u.2.2.2)) (va_A (w_Xo cs x tq h a S ++ w_Text cs tq tx ++ w_Hist cs h a hs ++ linesW cs a 18 Ls) sz)) (vx_X (fun (_ : XO × TS × HS × (Nat → LnS)) => True) (fun E (u : XO × TS × HS × (Nat → LnS)) t => QX E u.1 u.2.1 u.2.2.1 u.2.2.2 ∧ va_P D vwCl (w_Xo cs x tq h a u.1 ++ w_Text cs tq u.2.1 ++ w_Hist cs h a u.2.2.1 ++ linesW cs a 18 u.2.2.2) t.heap ∧ va_D (va_A (w_Xo cs x tq h a S ++ w_Text cs tq tx ++ w_Hist cs h a hs ++ linesW cs a 18 Ls) sz) (w_Xo cs x tq h a u.1 ++ w_Text cs tq u.2.1 ++ w_Hist cs h a u.2.2.1 ++ linesW cs a 18 u.2.2.2)) (va_A (w_Xo cs x tq h a S ++ w_Text cs tq tx ++ w_Hist cs h a hs ++ linesW cs a 18 Ls) sz)) 1 6 (va_A (w_Xo cs x tq h a S ++ w_Text cs tq tx ++ w_Hist cs h a hs ++ linesW cs a 18 Ls) sz) := by
  refine vx_ofW (cc := cX3_about) (maxL := 2) (ret := (some .int)) (by decide) rfl ?_
  intro p e s m args below meth c s₁ B hml hT0 hv
  obtain ⟨rfl, ⟨hsz, hP, hKK, hD0⟩, hTW, hTZ⟩ := hv
  have hC : MAt p s m _ meth c RX3 cX3_about 2 (some .int) wsX3_about D cs := ⟨B.exec, B.bytes, B.returns, hml, findClass_of_methodNamed B.named, atoms_spec (ws := wsX3_about) B.pre, B.notSynchronized, hKK⟩
  have hl := lv_entry ([.ref (x 0), .int x1]) (n := 2) (Nat.le_of_ble_eq_true rfl)
  rw [lg_entry_eq]
  generalize (lg_sl ([.ref (x 0), .int x1]) ++ List.replicate (2 - (lg_sl ([.ref (x 0), .int x1])).length) Slot.unset).toArray = ls at hl ⊢
  subst hsz
  have hD := hD0.self (sz := s.heap.size)
  have hA : ∀ z : Nat, s.heap.size ≤ z → va_A (w_Xo cs x tq h a S ++ w_Text cs tq tx ++ w_Hist cs h a hs ++ linesW cs a 18 Ls) s.heap.size z := fun z h => Or.inr h
  exact t_X3_about hC hfl hT0 hTW hTZ x tq h a S tx hs Ls x1 Q QX hA hw s.heap [] hP hD va_S.rf ls hl
theorem h_X3_X3_shown : ∀ w ∈ u_ws RX3 TX3 7, w ∈ wsX3_shown := fun _ h => List.mem_cons_of_mem _ (List.mem_append_left _ (List.mem_append_left _ (List.mem_append_right _ h)))
set_option maxHeartbeats 4000000 in
set_option maxRecDepth 100000 in
theorem t_X3_shown {p : Program} {l : Launch} {e : Env} {s : State} {m : MethodId} {args : Array Value} {below : List Frame} {meth : Method} {c : Code} {D : va_G} {cs : Nat → ClassId} {A : Nat → Prop} (hC : MAt p s m args meth c RX3 cX3_shown 2 (some .int) wsX3_shown D cs) (hfl : l.stackTraces = false) (hT0 : ∀ x ∈ c.exceptionTable.toList, False) {sa : Nat → Nat} (hTW : TW sa s) (hTZ : TZ A s s.heap) (x : Nat → Nat) (tq : Nat → Nat) (h : Nat → Nat) (a : Nat → Nat → Nat) (S : XO) (tx : TS) (hs : HS) (Ls : (Nat → LnS)) (x1 : Int32) (Q : Int32 → XO → TS → HS → (Nat → LnS) → Prop) (QX : String → XO → TS → HS → (Nat → LnS) → Prop) (hA : ∀ q : Nat, s.heap.size ≤ q → A q) (hw : wp_X3_shown S tx hs Ls x1 Q QX) (H : Heap) (locs : List Loc) (hP : va_P D vwCl (w_Xo cs x tq h a S ++ w_Text cs tq tx ++ w_Hist cs h a hs ++ linesW cs a 18 Ls) H) (hD : va_D A (w_Xo cs x tq h a S ++ w_Text cs tq tx ++ w_Hist cs h a hs ++ linesW cs a 18 Ls)) (hS : va_S A s.heap H locs) (ls : Array Slot) (hl : lv_has ls 2 [(0, .ref (x 0)), (1, .int x1)]) : W p l e ({ frames := 7, cells := 1, slots := 6, locals := 103 } : Room) s m args below meth c H locs 0 0 (vx_MQ below (va_Qi (fun r (u : XO × TS × HS × (Nat → LnS)) => Q r u.1 u.2.1 u.2.2.1 u.2.2.2) (fun (u : XO × TS × HS × (Nat → LnS)) t => va_P D vwCl (w_Xo cs x tq h a u.1 ++ w_Text cs tq u.2.1 ++ w_Hist cs h a u.2.2.1 ++ linesW cs a 18 u.2.2.2) t.heap ∧ va_D A (w_Xo cs x tq h a u.1 ++ w_Text cs tq u.2.1 ++ w_Hist cs h a u.2.2.1 ++ linesW cs a 18 u.2.2.2)) A) (vx_X (fun (_ : XO × TS × HS × (Nat → LnS)) => True) (fun E (u : XO × TS × HS × (Nat → LnS)) t => QX E u.1 u.2.1 u.2.2.1 u.2.2.2 ∧ va_P D vwCl (w_Xo cs x tq h a u.1 ++ w_Text cs tq u.2.1 ++ w_Hist cs h a u.2.2.1 ++ linesW cs a 18 u.2.2.2) t.heap ∧ va_D A (w_Xo cs x tq h a u.1 ++ w_Text cs tq u.2.1 ++ w_Hist cs h a u.2.2.1 ++ linesW cs a 18 u.2.2.2)) A) args s 1 6 A) (F0 m 0 ls []) := by
  obtain ⟨hx, hb, hr, hml, hown, hts, hlocks, hKK⟩ := id hC
  have hK := hKK.1
  refine lv_aload_n hx hb dX3_shown_0 rfl (lv_at hl 0 rfl) ?_
  refine lv_iload_n hx hb dX3_shown_1 rfl (lv_at hl 1 rfl) ?_
  have hFc := z_free (wr := []) (by rw [List.append_nil]; exact hD) hS hA
  refine vx_callv (vx_runV (As := [.int x1]) (rest := []) ⟨hx, hb, hml, hown, hts⟩ (c_X3_requireCounter l hfl D cs x tq h a H.size sa S tx hs Ls x1 _ _ hw) (cwV 1 hts gX3_shown_X3_requireCounter rfl rfl rfl (by decide +kernel) ⟨Nat.le_of_ble_eq_true rfl, Nat.le_of_ble_eq_true rfl⟩) (PX_V hP hD hKK hTW hTZ hS hFc 0 3 rfl rfl) rfl rfl hl.1 rfl (lv_room (Nat.le_of_ble_eq_true rfl)) dX3_shown_2 ⟨Nat.le_of_ble_eq_true rfl, Nat.le_of_ble_eq_true rfl⟩) hS (fun q _ h => hFc q h) hFc (fun q _ h => hFc q h) ?_ (fun u1 t H locs ht hvm hw hB hz1 hk1 hS => ?_)
  · intro E ce q9 u1 t H locs ht hvm hpx hB hz1 hk1 hS hq9 hce hcl
    obtain ⟨u1_0, u1_1, u1_2, u1_3⟩ := u1
    obtain ⟨hw, hP1, hD1⟩ := hB
    rw [ht] at hP1
    have hD : va_D A (w_Xo cs x tq h a u1_0 ++ w_Text cs tq u1_1 ++ w_Hist cs h a u1_2 ++ linesW cs a 18 u1_3) := hD1.weaken (fun k q _ h => hFc q.1 h)
    have hP : va_P D vwCl (w_Xo cs x tq h a u1_0 ++ w_Text cs tq u1_1 ++ w_Hist cs h a u1_2 ++ linesW cs a 18 u1_3) H := hP1
    exact vx_out (fun x h => (hT0 x h).elim) hlocks hq9 hce hcl (fun t2 ht2 hvm2 => ⟨(u1_0, u1_1, u1_2, u1_3), trivial, ⟨hw, by rw [ht2]; exact hP, hD⟩, hS.F ht2⟩) hS.2.2 (Nat.le_of_ble_eq_true rfl) (Nat.le_of_ble_eq_true rfl)
  obtain ⟨u1_0, u1_1, u1_2, u1_3⟩ := u1
  obtain ⟨hP1, hD1⟩ := hB
  rw [ht] at hP1
  have hD : va_D A (w_Xo cs x tq h a u1_0 ++ w_Text cs tq u1_1 ++ w_Hist cs h a u1_2 ++ linesW cs a 18 u1_3) := hD1.weaken (fun k q _ h => hFc q.1 h)
  have hP : va_P D vwCl (w_Xo cs x tq h a u1_0 ++ w_Text cs tq u1_1 ++ w_Hist cs h a u1_2 ++ linesW cs a 18 u1_3) H := hP1
  refine lv_aload_n hx hb dX3_shown_5 rfl (lv_at hl 0 rfl) ?_
  refine va_get (D := D) (ci := 3) (v := .ref (a 0 0)) (C := RX3) (T := TX3) (N := 7) hx hb hts (h_X3_X3_shown) hown hK hP 0 rfl rfl 1 (by decide) (z_w hts 1 rfl) (fun _ h9 => h9) rfl dX3_shown_6 ?_
  refine lv_iload_n hx hb dX3_shown_9 rfl (lv_at hl 1 rfl) ?_
  have hPx := z_perm_P (lines_1 (cs := cs) (a := a) (n := 18) (i := 0) u1_3 (w_Xo cs x tq h a u1_0 ++ w_Text cs tq u1_1 ++ w_Hist cs h a u1_2) (by decide)) hP
  have hDx := z_perm_D (lines_1 (cs := cs) (a := a) (n := 18) (i := 0) u1_3 (w_Xo cs x tq h a u1_0 ++ w_Text cs tq u1_1 ++ w_Hist cs h a u1_2) (by decide)) hD
  have hPc := (z_app_P hPx).1
  have hDc := (z_app_D hDx).1
  refine z_calli (va_runV (As := [.int x1]) (rest := []) ⟨hx, hb, hml, hown, hts⟩ (c_X1_reading l D cs (a 0) H.size (u1_3 0) x1 _ hw) (cwV 1 hts gX3_shown_X1_reading rfl rfl rfl (by decide +kernel) ⟨Nat.le_of_ble_eq_true rfl, Nat.le_of_ble_eq_true rfl⟩) (PC_V hPc hDc hKK 0 1 rfl rfl) rfl rfl hl.1 rfl (lv_room (Nat.le_of_ble_eq_true rfl)) dX3_shown_10 ⟨Nat.le_of_ble_eq_true rfl, Nat.le_of_ble_eq_true rfl⟩) (fun r2 hw => ?_)
  refine W.widen (k := 1) (n := 6) (Nat.le_of_ble_eq_true rfl) (Nat.le_of_ble_eq_true rfl) (vx_ret ?_)
  exact W.iret (v := r2) hx hb hr (fun t ht hW => ⟨⟨r2, (u1_0, u1_1, u1_2, u1_3), rfl, hw, by rw [ht]; exact hP, hD⟩, hS.F ht⟩) hS.2.2 dX3_shown_13 hlocks
set_option maxHeartbeats 4000000 in
set_option maxRecDepth 100000 in
theorem c_X3_shown (l : Launch) (hfl : l.stackTraces = false) (D : va_G) (cs : Nat → ClassId) (x : Nat → Nat) (tq : Nat → Nat) (h : Nat → Nat) (a : Nat → Nat → Nat) (sz : Nat) (sa : Nat → Nat) (S : XO) (tx : TS) (hs : HS) (Ls : (Nat → LnS)) (x1 : Int32) (Q : Int32 → XO → TS → HS → (Nat → LnS) → Prop) (QX : String → XO → TS → HS → (Nat → LnS) → Prop) (hw : wp_X3_shown S tx hs Ls x1 Q QX) : vx_Met l yX3_shown wsX3_shown ({ frames := 7, cells := 1, slots := 6, locals := 103 } : Room) (va_Pc [.ref (x 0), .int x1] (PX D cs (w_Xo cs x tq h a S ++ w_Text cs tq tx ++ w_Hist cs h a hs ++ linesW cs a 18 Ls) sa sz)) (va_Qi (fun r (u : XO × TS × HS × (Nat → LnS)) => Q r u.1 u.2.1 u.2.2.1 u.2.2.2) (fun (u : XO × TS × HS × (Nat → LnS)) t => va_P D vwCl (w_Xo cs x tq h a u.1 ++ w_Text cs tq u.2.1 ++ w_Hist cs h a u.2.2.1 ++ linesW cs a 18 u.2.2.2) t.heap ∧ va_D (va_A (w_Xo cs x tq h a S ++ w_Text cs tq tx ++ w_Hist cs h a hs ++ linesW cs a 18 Ls) sz) (w_Xo cs x tq h a u.1 ++ w_Text cs tq u.2.1 ++ w_Hist cs h a u.2.2.1 ++ linesW cs a 18 u.2.2.2)) (va_A (w_Xo cs x tq h a S ++ w_Text cs tq tx ++ w_Hist cs h a hs ++ linesW cs a 18 Ls) sz)) (vx_X (fun (_ : XO × TS × HS × (Nat → LnS)) => True) (fun E (u : XO × TS × HS × (Nat → LnS)) t => QX E u.1 u.2.1 u.2.2.1 u.2.2.2 ∧ va_P D vwCl (w_Xo cs x tq h a u.1 ++ w_Text cs tq u.2.1 ++ w_Hist cs h a u.2.2.1 ++ linesW cs a 18 u.2.2.2) t.heap ∧ va_D (va_A (w_Xo cs x tq h a S ++ w_Text cs tq tx ++ w_Hist cs h a hs ++ linesW cs a 18 Ls) sz) (w_Xo cs x tq h a u.1 ++ w_Text cs tq u.2.1 ++ w_Hist cs h a u.2.2.1 ++ linesW cs a 18 u.2.2.2)) (va_A (w_Xo cs x tq h a S ++ w_Text cs tq tx ++ w_Hist cs h a hs ++ linesW cs a 18 Ls) sz)) 1 6 (va_A (w_Xo cs x tq h a S ++ w_Text cs tq tx ++ w_Hist cs h a hs ++ linesW cs a 18 Ls) sz) := by
  refine vx_ofW (cc := cX3_shown) (maxL := 2) (ret := (some .int)) (by decide) rfl ?_
  intro p e s m args below meth c s₁ B hml hT0 hv
  obtain ⟨rfl, ⟨hsz, hP, hKK, hD0⟩, hTW, hTZ⟩ := hv
  have hC : MAt p s m _ meth c RX3 cX3_shown 2 (some .int) wsX3_shown D cs := ⟨B.exec, B.bytes, B.returns, hml, findClass_of_methodNamed B.named, atoms_spec (ws := wsX3_shown) B.pre, B.notSynchronized, hKK⟩
  have hl := lv_entry ([.ref (x 0), .int x1]) (n := 2) (Nat.le_of_ble_eq_true rfl)
  rw [lg_entry_eq]
  generalize (lg_sl ([.ref (x 0), .int x1]) ++ List.replicate (2 - (lg_sl ([.ref (x 0), .int x1])).length) Slot.unset).toArray = ls at hl ⊢
  subst hsz
  have hD := hD0.self (sz := s.heap.size)
  have hA : ∀ z : Nat, s.heap.size ≤ z → va_A (w_Xo cs x tq h a S ++ w_Text cs tq tx ++ w_Hist cs h a hs ++ linesW cs a 18 Ls) s.heap.size z := fun z h => Or.inr h
  exact t_X3_shown hC hfl hT0 hTW hTZ x tq h a S tx hs Ls x1 Q QX hA hw s.heap [] hP hD va_S.rf ls hl
theorem h_X3_X3_worth : ∀ w ∈ u_ws RX3 TX3 7, w ∈ wsX3_worth := fun _ h => List.mem_cons_of_mem _ (List.mem_append_left _ (List.mem_append_left _ (List.mem_append_right _ h)))
set_option maxHeartbeats 4000000 in
set_option maxRecDepth 100000 in
theorem t_X3_worth {p : Program} {l : Launch} {e : Env} {s : State} {m : MethodId} {args : Array Value} {below : List Frame} {meth : Method} {c : Code} {D : va_G} {cs : Nat → ClassId} {A : Nat → Prop} (hC : MAt p s m args meth c RX3 cX3_worth 2 (some .long) wsX3_worth D cs) (hfl : l.stackTraces = false) (hT0 : ∀ x ∈ c.exceptionTable.toList, False) {sa : Nat → Nat} (hTW : TW sa s) (hTZ : TZ A s s.heap) (x : Nat → Nat) (tq : Nat → Nat) (h : Nat → Nat) (a : Nat → Nat → Nat) (S : XO) (tx : TS) (hs : HS) (Ls : (Nat → LnS)) (x1 : Int32) (Q : Int64 → XO → TS → HS → (Nat → LnS) → Prop) (QX : String → XO → TS → HS → (Nat → LnS) → Prop) (hA : ∀ q : Nat, s.heap.size ≤ q → A q) (hw : wp_X3_worth S tx hs Ls x1 Q QX) (H : Heap) (locs : List Loc) (hP : va_P D vwCl (w_Xo cs x tq h a S ++ w_Text cs tq tx ++ w_Hist cs h a hs ++ linesW cs a 18 Ls) H) (hD : va_D A (w_Xo cs x tq h a S ++ w_Text cs tq tx ++ w_Hist cs h a hs ++ linesW cs a 18 Ls)) (hS : va_S A s.heap H locs) (ls : Array Slot) (hl : lv_has ls 2 [(0, .ref (x 0)), (1, .int x1)]) : W p l e ({ frames := 7, cells := 1, slots := 6, locals := 103 } : Room) s m args below meth c H locs 0 0 (vx_MQ below (va_Ql (fun r (u : XO × TS × HS × (Nat → LnS)) => Q r u.1 u.2.1 u.2.2.1 u.2.2.2) (fun (u : XO × TS × HS × (Nat → LnS)) t => va_P D vwCl (w_Xo cs x tq h a u.1 ++ w_Text cs tq u.2.1 ++ w_Hist cs h a u.2.2.1 ++ linesW cs a 18 u.2.2.2) t.heap ∧ va_D A (w_Xo cs x tq h a u.1 ++ w_Text cs tq u.2.1 ++ w_Hist cs h a u.2.2.1 ++ linesW cs a 18 u.2.2.2)) A) (vx_X (fun (_ : XO × TS × HS × (Nat → LnS)) => True) (fun E (u : XO × TS × HS × (Nat → LnS)) t => QX E u.1 u.2.1 u.2.2.1 u.2.2.2 ∧ va_P D vwCl (w_Xo cs x tq h a u.1 ++ w_Text cs tq u.2.1 ++ w_Hist cs h a u.2.2.1 ++ linesW cs a 18 u.2.2.2) t.heap ∧ va_D A (w_Xo cs x tq h a u.1 ++ w_Text cs tq u.2.1 ++ w_Hist cs h a u.2.2.1 ++ linesW cs a 18 u.2.2.2)) A) args s 1 6 A) (F0 m 0 ls []) := by
  obtain ⟨hx, hb, hr, hml, hown, hts, hlocks, hKK⟩ := id hC
  have hK := hKK.1
  refine lv_aload_n hx hb dX3_worth_0 rfl (lv_at hl 0 rfl) ?_
  refine lv_iload_n hx hb dX3_worth_1 rfl (lv_at hl 1 rfl) ?_
  have hFc := z_free (wr := []) (by rw [List.append_nil]; exact hD) hS hA
  refine vx_callv (vx_runV (As := [.int x1]) (rest := []) ⟨hx, hb, hml, hown, hts⟩ (c_X3_requireCounter l hfl D cs x tq h a H.size sa S tx hs Ls x1 _ _ hw) (cwV 1 hts gX3_worth_X3_requireCounter rfl rfl rfl (by decide +kernel) ⟨Nat.le_of_ble_eq_true rfl, Nat.le_of_ble_eq_true rfl⟩) (PX_V hP hD hKK hTW hTZ hS hFc 0 3 rfl rfl) rfl rfl hl.1 rfl (lv_room (Nat.le_of_ble_eq_true rfl)) dX3_worth_2 ⟨Nat.le_of_ble_eq_true rfl, Nat.le_of_ble_eq_true rfl⟩) hS (fun q _ h => hFc q h) hFc (fun q _ h => hFc q h) ?_ (fun u1 t H locs ht hvm hw hB hz1 hk1 hS => ?_)
  · intro E ce q9 u1 t H locs ht hvm hpx hB hz1 hk1 hS hq9 hce hcl
    obtain ⟨u1_0, u1_1, u1_2, u1_3⟩ := u1
    obtain ⟨hw, hP1, hD1⟩ := hB
    rw [ht] at hP1
    have hD : va_D A (w_Xo cs x tq h a u1_0 ++ w_Text cs tq u1_1 ++ w_Hist cs h a u1_2 ++ linesW cs a 18 u1_3) := hD1.weaken (fun k q _ h => hFc q.1 h)
    have hP : va_P D vwCl (w_Xo cs x tq h a u1_0 ++ w_Text cs tq u1_1 ++ w_Hist cs h a u1_2 ++ linesW cs a 18 u1_3) H := hP1
    exact vx_out (fun x h => (hT0 x h).elim) hlocks hq9 hce hcl (fun t2 ht2 hvm2 => ⟨(u1_0, u1_1, u1_2, u1_3), trivial, ⟨hw, by rw [ht2]; exact hP, hD⟩, hS.F ht2⟩) hS.2.2 (Nat.le_of_ble_eq_true rfl) (Nat.le_of_ble_eq_true rfl)
  obtain ⟨u1_0, u1_1, u1_2, u1_3⟩ := u1
  obtain ⟨hP1, hD1⟩ := hB
  rw [ht] at hP1
  have hD : va_D A (w_Xo cs x tq h a u1_0 ++ w_Text cs tq u1_1 ++ w_Hist cs h a u1_2 ++ linesW cs a 18 u1_3) := hD1.weaken (fun k q _ h => hFc q.1 h)
  have hP : va_P D vwCl (w_Xo cs x tq h a u1_0 ++ w_Text cs tq u1_1 ++ w_Hist cs h a u1_2 ++ linesW cs a 18 u1_3) H := hP1
  refine lv_aload_n hx hb dX3_worth_5 rfl (lv_at hl 0 rfl) ?_
  refine va_get (D := D) (ci := 3) (v := .ref (a 0 0)) (C := RX3) (T := TX3) (N := 7) hx hb hts (h_X3_X3_worth) hown hK hP 0 rfl rfl 1 (by decide) (z_w hts 1 rfl) (fun _ h9 => h9) rfl dX3_worth_6 ?_
  refine lv_iload_n hx hb dX3_worth_9 rfl (lv_at hl 1 rfl) ?_
  have hPx := z_perm_P (lines_1 (cs := cs) (a := a) (n := 18) (i := 0) u1_3 (w_Xo cs x tq h a u1_0 ++ w_Text cs tq u1_1 ++ w_Hist cs h a u1_2) (by decide)) hP
  have hDx := z_perm_D (lines_1 (cs := cs) (a := a) (n := 18) (i := 0) u1_3 (w_Xo cs x tq h a u1_0 ++ w_Text cs tq u1_1 ++ w_Hist cs h a u1_2) (by decide)) hD
  have hPc := (z_app_P hPx).1
  have hDc := (z_app_D hDx).1
  refine z_calll (va_runV (As := [.int x1]) (rest := []) ⟨hx, hb, hml, hown, hts⟩ (c_X1_fullReading l D cs (a 0) H.size (u1_3 0) x1 _ hw) (cwV 1 hts gX3_worth_X1_fullReading rfl rfl rfl (by decide +kernel) ⟨Nat.le_of_ble_eq_true rfl, Nat.le_of_ble_eq_true rfl⟩) (PC_V hPc hDc hKK 0 1 rfl rfl) rfl rfl hl.1 rfl (lv_room (Nat.le_of_ble_eq_true rfl)) dX3_worth_10 ⟨Nat.le_of_ble_eq_true rfl, Nat.le_of_ble_eq_true rfl⟩) (fun r2 hw => ?_)
  refine W.widen (k := 1) (n := 6) (Nat.le_of_ble_eq_true rfl) (Nat.le_of_ble_eq_true rfl) (vx_ret ?_)
  exact W.lret (v := r2) hx hb hr (fun t ht hW => ⟨⟨r2, (u1_0, u1_1, u1_2, u1_3), rfl, hw, by rw [ht]; exact hP, hD⟩, hS.F ht⟩) hS.2.2 dX3_worth_13 hlocks
set_option maxHeartbeats 4000000 in
set_option maxRecDepth 100000 in
theorem c_X3_worth (l : Launch) (hfl : l.stackTraces = false) (D : va_G) (cs : Nat → ClassId) (x : Nat → Nat) (tq : Nat → Nat) (h : Nat → Nat) (a : Nat → Nat → Nat) (sz : Nat) (sa : Nat → Nat) (S : XO) (tx : TS) (hs : HS) (Ls : (Nat → LnS)) (x1 : Int32) (Q : Int64 → XO → TS → HS → (Nat → LnS) → Prop) (QX : String → XO → TS → HS → (Nat → LnS) → Prop) (hw : wp_X3_worth S tx hs Ls x1 Q QX) : vx_Met l yX3_worth wsX3_worth ({ frames := 7, cells := 1, slots := 6, locals := 103 } : Room) (va_Pc [.ref (x 0), .int x1] (PX D cs (w_Xo cs x tq h a S ++ w_Text cs tq tx ++ w_Hist cs h a hs ++ linesW cs a 18 Ls) sa sz)) (va_Ql (fun r (u : XO × TS × HS × (Nat → LnS)) => Q r u.1 u.2.1 u.2.2.1 u.2.2.2) (fun (u : XO × TS × HS × (Nat → LnS)) t => va_P D vwCl (w_Xo cs x tq h a u.1 ++ w_Text cs tq u.2.1 ++ w_Hist cs h a u.2.2.1 ++ linesW cs a 18 u.2.2.2) t.heap ∧ va_D (va_A (w_Xo cs x tq h a S ++ w_Text cs tq tx ++ w_Hist cs h a hs ++ linesW cs a 18 Ls) sz) (w_Xo cs x tq h a u.1 ++ w_Text cs tq u.2.1 ++ w_Hist cs h a u.2.2.1 ++ linesW cs a 18 u.2.2.2)) (va_A (w_Xo cs x tq h a S ++ w_Text cs tq tx ++ w_Hist cs h a hs ++ linesW cs a 18 Ls) sz)) (vx_X (fun (_ : XO × TS × HS × (Nat → LnS)) => True) (fun E (u : XO × TS × HS × (Nat → LnS)) t => QX E u.1 u.2.1 u.2.2.1 u.2.2.2 ∧ va_P D vwCl (w_Xo cs x tq h a u.1 ++ w_Text cs tq u.2.1 ++ w_Hist cs h a u.2.2.1 ++ linesW cs a 18 u.2.2.2) t.heap ∧ va_D (va_A (w_Xo cs x tq h a S ++ w_Text cs tq tx ++ w_Hist cs h a hs ++ linesW cs a 18 Ls) sz) (w_Xo cs x tq h a u.1 ++ w_Text cs tq u.2.1 ++ w_Hist cs h a u.2.2.1 ++ linesW cs a 18 u.2.2.2)) (va_A (w_Xo cs x tq h a S ++ w_Text cs tq tx ++ w_Hist cs h a hs ++ linesW cs a 18 Ls) sz)) 1 6 (va_A (w_Xo cs x tq h a S ++ w_Text cs tq tx ++ w_Hist cs h a hs ++ linesW cs a 18 Ls) sz) := by
  refine vx_ofW (cc := cX3_worth) (maxL := 2) (ret := (some .long)) (by decide) rfl ?_
  intro p e s m args below meth c s₁ B hml hT0 hv
  obtain ⟨rfl, ⟨hsz, hP, hKK, hD0⟩, hTW, hTZ⟩ := hv
  have hC : MAt p s m _ meth c RX3 cX3_worth 2 (some .long) wsX3_worth D cs := ⟨B.exec, B.bytes, B.returns, hml, findClass_of_methodNamed B.named, atoms_spec (ws := wsX3_worth) B.pre, B.notSynchronized, hKK⟩
  have hl := lv_entry ([.ref (x 0), .int x1]) (n := 2) (Nat.le_of_ble_eq_true rfl)
  rw [lg_entry_eq]
  generalize (lg_sl ([.ref (x 0), .int x1]) ++ List.replicate (2 - (lg_sl ([.ref (x 0), .int x1])).length) Slot.unset).toArray = ls at hl ⊢
  subst hsz
  have hD := hD0.self (sz := s.heap.size)
  have hA : ∀ z : Nat, s.heap.size ≤ z → va_A (w_Xo cs x tq h a S ++ w_Text cs tq tx ++ w_Hist cs h a hs ++ linesW cs a 18 Ls) s.heap.size z := fun z h => Or.inr h
  exact t_X3_worth hC hfl hT0 hTW hTZ x tq h a S tx hs Ls x1 Q QX hA hw s.heap [] hP hD va_S.rf ls hl
theorem h_X1_X3_counter : ∀ w ∈ u_ws RX1 TX1 13, w ∈ wsX3_counter := fun _ h => List.mem_cons_of_mem _ (List.mem_append_left _ (List.mem_append_left _ (List.mem_append_right _ h)))
theorem h_X3_X3_counter : ∀ w ∈ u_ws RX3 TX3 7, w ∈ wsX3_counter := fun _ h => List.mem_cons_of_mem _ (List.mem_append_left _ (List.mem_append_left _ (List.mem_append_left _ (List.mem_append_right _ h))))
set_option maxHeartbeats 4000000 in
set_option maxRecDepth 100000 in
theorem t_X3_counter {p : Program} {l : Launch} {e : Env} {s : State} {m : MethodId} {args : Array Value} {below : List Frame} {meth : Method} {c : Code} {D : va_G} {cs : Nat → ClassId} {A : Nat → Prop} (hC : MAt p s m args meth c RX3 cX3_counter 3 (some .int) wsX3_counter D cs) (hfl : l.stackTraces = false) (hT0 : ∀ x ∈ c.exceptionTable.toList, False) {sa : Nat → Nat} (hTW : TW sa s) (hTZ : TZ A s s.heap) (x : Nat → Nat) (tq : Nat → Nat) (h : Nat → Nat) (a : Nat → Nat → Nat) (S : XO) (tx : TS) (hs : HS) (Ls : (Nat → LnS)) (x1 : Int32) (x2 : Int32) (Q : Int32 → XO → TS → HS → (Nat → LnS) → Prop) (QX : String → XO → TS → HS → (Nat → LnS) → Prop) (hA : ∀ q : Nat, s.heap.size ≤ q → A q) (hw : wp_X3_counter S tx hs Ls x1 x2 Q QX) (H : Heap) (locs : List Loc) (hP : va_P D vwCl (w_Xo cs x tq h a S ++ w_Text cs tq tx ++ w_Hist cs h a hs ++ linesW cs a 18 Ls) H) (hD : va_D A (w_Xo cs x tq h a S ++ w_Text cs tq tx ++ w_Hist cs h a hs ++ linesW cs a 18 Ls)) (hS : va_S A s.heap H locs) (ls : Array Slot) (hl : lv_has ls 3 [(0, .ref (x 0)), (1, .int x1), (2, .int x2)]) : W p l e ({ frames := 7, cells := 2, slots := 12, locals := 104 } : Room) s m args below meth c H locs 0 0 (vx_MQ below (va_Qi (fun r (u : XO × TS × HS × (Nat → LnS)) => Q r u.1 u.2.1 u.2.2.1 u.2.2.2) (fun (u : XO × TS × HS × (Nat → LnS)) t => va_P D vwCl (w_Xo cs x tq h a u.1 ++ w_Text cs tq u.2.1 ++ w_Hist cs h a u.2.2.1 ++ linesW cs a 18 u.2.2.2) t.heap ∧ va_D A (w_Xo cs x tq h a u.1 ++ w_Text cs tq u.2.1 ++ w_Hist cs h a u.2.2.1 ++ linesW cs a 18 u.2.2.2)) A) (vx_X (fun (_ : XO × TS × HS × (Nat → LnS)) => True) (fun E (u : XO × TS × HS × (Nat → LnS)) t => QX E u.1 u.2.1 u.2.2.1 u.2.2.2 ∧ va_P D vwCl (w_Xo cs x tq h a u.1 ++ w_Text cs tq u.2.1 ++ w_Hist cs h a u.2.2.1 ++ linesW cs a 18 u.2.2.2) t.heap ∧ va_D A (w_Xo cs x tq h a u.1 ++ w_Text cs tq u.2.1 ++ w_Hist cs h a u.2.2.1 ++ linesW cs a 18 u.2.2.2)) A) args s 2 12 A) (F0 m 0 ls []) := by
  obtain ⟨hx, hb, hr, hml, hown, hts, hlocks, hKK⟩ := id hC
  have hK := hKK.1
  refine lv_aload_n hx hb dX3_counter_0 rfl (lv_at hl 0 rfl) ?_
  refine lv_iload_n hx hb dX3_counter_1 rfl (lv_at hl 1 rfl) ?_
  have hFc := z_free (wr := []) (by rw [List.append_nil]; exact hD) hS hA
  refine vx_callv (vx_runV (As := [.int x1]) (rest := []) ⟨hx, hb, hml, hown, hts⟩ (c_X3_requireCounter l hfl D cs x tq h a H.size sa S tx hs Ls x1 _ _ hw) (cwV 1 hts gX3_counter_X3_requireCounter rfl rfl rfl (by decide +kernel) ⟨Nat.le_of_ble_eq_true rfl, Nat.le_of_ble_eq_true rfl⟩) (PX_V hP hD hKK hTW hTZ hS hFc 0 3 rfl rfl) rfl rfl hl.1 rfl (lv_room (Nat.le_of_ble_eq_true rfl)) dX3_counter_2 ⟨Nat.le_of_ble_eq_true rfl, Nat.le_of_ble_eq_true rfl⟩) hS (fun q _ h => hFc q h) hFc (fun q _ h => hFc q h) ?_ (fun u1 t H locs ht hvm hw hB hz1 hk1 hS => ?_)
  · intro E ce q9 u1 t H locs ht hvm hpx hB hz1 hk1 hS hq9 hce hcl
    obtain ⟨u1_0, u1_1, u1_2, u1_3⟩ := u1
    obtain ⟨hw, hP1, hD1⟩ := hB
    rw [ht] at hP1
    have hD : va_D A (w_Xo cs x tq h a u1_0 ++ w_Text cs tq u1_1 ++ w_Hist cs h a u1_2 ++ linesW cs a 18 u1_3) := hD1.weaken (fun k q _ h => hFc q.1 h)
    have hP : va_P D vwCl (w_Xo cs x tq h a u1_0 ++ w_Text cs tq u1_1 ++ w_Hist cs h a u1_2 ++ linesW cs a 18 u1_3) H := hP1
    exact vx_out (fun x h => (hT0 x h).elim) hlocks hq9 hce hcl (fun t2 ht2 hvm2 => ⟨(u1_0, u1_1, u1_2, u1_3), trivial, ⟨hw, by rw [ht2]; exact hP, hD⟩, hS.F ht2⟩) hS.2.2 (Nat.le_of_ble_eq_true rfl) (Nat.le_of_ble_eq_true rfl)
  obtain ⟨u1_0, u1_1, u1_2, u1_3⟩ := u1
  obtain ⟨hP1, hD1⟩ := hB
  rw [ht] at hP1
  have hD : va_D A (w_Xo cs x tq h a u1_0 ++ w_Text cs tq u1_1 ++ w_Hist cs h a u1_2 ++ linesW cs a 18 u1_3) := hD1.weaken (fun k q _ h => hFc q.1 h)
  have hP : va_P D vwCl (w_Xo cs x tq h a u1_0 ++ w_Text cs tq u1_1 ++ w_Hist cs h a u1_2 ++ linesW cs a 18 u1_3) H := hP1
  refine lv_iload_n hx hb dX3_counter_5 rfl (lv_at hl 2 rfl) ?_
  refine lv_iconst (v := (0 : Int32)) hx hb dX3_counter_6 (by decide) ?_
  refine lv_iconst (v := (5 : Int32)) hx hb dX3_counter_7 (by decide) ?_
  have hPc : va_P D vwCl ([] : va_W) H := z_nilP
  have hDc : va_D A ([] : va_W) := z_nilD
  have hFc := z_free (wc := []) hD hS hA
  refine vx_callv (vx_runS (As := [.int x2, .int (0 : Int32), .int (5 : Int32)]) (rest := []) ⟨hx, hb, hml, hown, hts⟩ (c_X3_requireRange l hfl D cs  H.size sa x2 (0 : Int32) (5 : Int32) _ _ hw) (va_cwS 3 hts gX3_counter_X3_requireRange rfl rfl rfl (by decide +kernel) ⟨Nat.le_of_ble_eq_true rfl, Nat.le_of_ble_eq_true rfl⟩) (PX_S hPc hDc hKK hTW hTZ hS hFc) rfl rfl hl.1 rfl (lv_room (Nat.le_of_ble_eq_true rfl)) dX3_counter_8 ⟨Nat.le_of_ble_eq_true rfl, Nat.le_of_ble_eq_true rfl⟩) hS (fun q _ h => hFc q h) hFc (fun q _ h => hFc q h) ?_ (fun u2 t H locs ht hvm hw hB hz1 hk1 hS => ?_)
  · intro E ce q9 u2 t H locs ht hvm hpx hB hz1 hk1 hS hq9 hce hcl
    obtain ⟨hw, hP1, hD1⟩ := hB
    rw [ht] at hP1
    obtain ⟨hP, hD⟩ := z_join (wc := []) hP hD hk1 hFc hP1 hD1
    have hP : va_P D vwCl (w_Xo cs x tq h a u1_0 ++ w_Text cs tq u1_1 ++ w_Hist cs h a u1_2 ++ linesW cs a 18 u1_3) H := hP
    have hD : va_D A (w_Xo cs x tq h a u1_0 ++ w_Text cs tq u1_1 ++ w_Hist cs h a u1_2 ++ linesW cs a 18 u1_3) := hD
    exact vx_out (fun x h => (hT0 x h).elim) hlocks hq9 hce hcl (fun t2 ht2 hvm2 => ⟨(u1_0, u1_1, u1_2, u1_3), trivial, ⟨hw, by rw [ht2]; exact hP, hD⟩, hS.F ht2⟩) hS.2.2 (Nat.le_of_ble_eq_true rfl) (Nat.le_of_ble_eq_true rfl)
  obtain ⟨hP1, hD1⟩ := hB
  rw [ht] at hP1
  obtain ⟨hP, hD⟩ := z_join (wc := []) hP hD hk1 hFc hP1 hD1
  have hP : va_P D vwCl (w_Xo cs x tq h a u1_0 ++ w_Text cs tq u1_1 ++ w_Hist cs h a u1_2 ++ linesW cs a 18 u1_3) H := hP
  have hD : va_D A (w_Xo cs x tq h a u1_0 ++ w_Text cs tq u1_1 ++ w_Hist cs h a u1_2 ++ linesW cs a 18 u1_3) := hD
  refine lv_iload_n hx hb dX3_counter_11 rfl (lv_at hl 2 rfl) ?_
  by_cases c3_0 : x2 = 0
  · have hw := hw.1 c3_0
    refine lv_tableIn (off := 36) (tgt := 48) hx hb dX3_counter_12 (by rw [c3_0]; decide) (by rw [c3_0]; decide) (by rw [c3_0]; rfl) (by decide) ?_
    refine lv_aload_n hx hb dX3_counter_48 rfl (lv_at hl 0 rfl) ?_
    refine va_get (D := D) (ci := 3) (v := .ref (a 0 0)) (C := RX3) (T := TX3) (N := 7) hx hb hts (h_X3_X3_counter) hown hK hP 0 rfl rfl 1 (by decide) (z_w hts 1 rfl) (fun _ h9 => h9) rfl dX3_counter_49 ?_
    refine va_get (D := D) (ci := 1) (v := .ref (a 0 1)) (C := RX1) (T := TX1) (N := 13) hx hb hts (h_X1_X3_counter) hown hK hP 8 rfl rfl 4 (by decide) (z_w hts 2 rfl) (fun _ h9 => h9) rfl dX3_counter_52 ?_
    refine lv_iload_n hx hb dX3_counter_55 rfl (lv_at hl 1 rfl) ?_
    obtain ⟨h4, hw⟩ := hw
    refine va_iald hx hb hK hP 9 0 rfl rfl h4 dX3_counter_56 ?_
    refine W.widen (k := 2) (n := 12) (Nat.le_of_ble_eq_true rfl) (Nat.le_of_ble_eq_true rfl) (vx_ret ?_)
    exact W.iret (v := (u1_3 0).1 1 x1.toNatClampNeg) hx hb hr (fun t ht hW => ⟨⟨(u1_3 0).1 1 x1.toNatClampNeg, (u1_0, u1_1, u1_2, u1_3), rfl, hw, by rw [ht]; exact hP, hD⟩, hS.F ht⟩) hS.2.2 dX3_counter_57 hlocks
  have hw := hw.2 c3_0
  by_cases c3_1 : x2 = 1
  · have hw := hw.1 c3_1
    refine lv_tableIn (off := 46) (tgt := 58) hx hb dX3_counter_12 (by rw [c3_1]; decide) (by rw [c3_1]; decide) (by rw [c3_1]; rfl) (by decide) ?_
    refine lv_aload_n hx hb dX3_counter_58 rfl (lv_at hl 0 rfl) ?_
    refine va_get (D := D) (ci := 3) (v := .ref (a 0 0)) (C := RX3) (T := TX3) (N := 7) hx hb hts (h_X3_X3_counter) hown hK hP 0 rfl rfl 1 (by decide) (z_w hts 1 rfl) (fun _ h9 => h9) rfl dX3_counter_59 ?_
    refine va_get (D := D) (ci := 1) (v := .ref (a 0 2)) (C := RX1) (T := TX1) (N := 13) hx hb hts (h_X1_X3_counter) hown hK hP 8 rfl rfl 5 (by decide) (z_w hts 3 rfl) (fun _ h9 => h9) rfl dX3_counter_62 ?_
    refine lv_iload_n hx hb dX3_counter_65 rfl (lv_at hl 1 rfl) ?_
    obtain ⟨h5, hw⟩ := hw
    refine va_zald hx hb hK hP 10 1 rfl rfl h5 dX3_counter_66 ?_
    refine lv_if_eq (tgt := 74) hx hb dX3_counter_67 (by decide) (fun c6 => ?_) (fun c6 => ?_)
    · have hw := hw.1 c6
      refine lv_iconst (v := (0 : Int32)) hx hb dX3_counter_74 (by decide) ?_
      refine W.widen (k := 2) (n := 12) (Nat.le_of_ble_eq_true rfl) (Nat.le_of_ble_eq_true rfl) (vx_ret ?_)
      exact W.iret (v := (0 : Int32)) hx hb hr (fun t ht hW => ⟨⟨(0 : Int32), (u1_0, u1_1, u1_2, u1_3), rfl, hw, by rw [ht]; exact hP, hD⟩, hS.F ht⟩) hS.2.2 dX3_counter_75 hlocks
    · have hw := hw.2 c6
      refine lv_iconst (v := (1 : Int32)) hx hb dX3_counter_70 (by decide) ?_
      refine lv_goto (tgt := 75) hx hb dX3_counter_71 (by decide) ?_
      refine W.widen (k := 2) (n := 12) (Nat.le_of_ble_eq_true rfl) (Nat.le_of_ble_eq_true rfl) (vx_ret ?_)
      exact W.iret (v := (1 : Int32)) hx hb hr (fun t ht hW => ⟨⟨(1 : Int32), (u1_0, u1_1, u1_2, u1_3), rfl, hw, by rw [ht]; exact hP, hD⟩, hS.F ht⟩) hS.2.2 dX3_counter_75 hlocks
  have hw := hw.2 c3_1
  by_cases c3_2 : x2 = 2
  · have hw := hw.1 c3_2
    refine lv_tableIn (off := 64) (tgt := 76) hx hb dX3_counter_12 (by rw [c3_2]; decide) (by rw [c3_2]; decide) (by rw [c3_2]; rfl) (by decide) ?_
    refine lv_aload_n hx hb dX3_counter_76 rfl (lv_at hl 0 rfl) ?_
    refine va_get (D := D) (ci := 3) (v := .ref (a 0 0)) (C := RX3) (T := TX3) (N := 7) hx hb hts (h_X3_X3_counter) hown hK hP 0 rfl rfl 1 (by decide) (z_w hts 1 rfl) (fun _ h9 => h9) rfl dX3_counter_77 ?_
    refine va_get (D := D) (ci := 1) (v := .ref (a 0 3)) (C := RX1) (T := TX1) (N := 13) hx hb hts (h_X1_X3_counter) hown hK hP 8 rfl rfl 6 (by decide) (z_w hts 4 rfl) (fun _ h9 => h9) rfl dX3_counter_80 ?_
    refine lv_iload_n hx hb dX3_counter_83 rfl (lv_at hl 1 rfl) ?_
    obtain ⟨h7, hw⟩ := hw
    refine va_iald hx hb hK hP 11 0 rfl rfl h7 dX3_counter_84 ?_
    refine W.widen (k := 2) (n := 12) (Nat.le_of_ble_eq_true rfl) (Nat.le_of_ble_eq_true rfl) (vx_ret ?_)
    exact W.iret (v := (u1_3 0).1 3 x1.toNatClampNeg) hx hb hr (fun t ht hW => ⟨⟨(u1_3 0).1 3 x1.toNatClampNeg, (u1_0, u1_1, u1_2, u1_3), rfl, hw, by rw [ht]; exact hP, hD⟩, hS.F ht⟩) hS.2.2 dX3_counter_85 hlocks
  have hw := hw.2 c3_2
  by_cases c3_3 : x2 = 3
  · have hw := hw.1 c3_3
    refine lv_tableIn (off := 74) (tgt := 86) hx hb dX3_counter_12 (by rw [c3_3]; decide) (by rw [c3_3]; decide) (by rw [c3_3]; rfl) (by decide) ?_
    refine lv_aload_n hx hb dX3_counter_86 rfl (lv_at hl 0 rfl) ?_
    refine va_get (D := D) (ci := 3) (v := .ref (a 0 0)) (C := RX3) (T := TX3) (N := 7) hx hb hts (h_X3_X3_counter) hown hK hP 0 rfl rfl 1 (by decide) (z_w hts 1 rfl) (fun _ h9 => h9) rfl dX3_counter_87 ?_
    refine lv_iload_n hx hb dX3_counter_90 rfl (lv_at hl 1 rfl) ?_
    have hPx := z_perm_P (lines_1 (cs := cs) (a := a) (n := 18) (i := 0) u1_3 (w_Xo cs x tq h a u1_0 ++ w_Text cs tq u1_1 ++ w_Hist cs h a u1_2) (by decide)) hP
    have hDx := z_perm_D (lines_1 (cs := cs) (a := a) (n := 18) (i := 0) u1_3 (w_Xo cs x tq h a u1_0 ++ w_Text cs tq u1_1 ++ w_Hist cs h a u1_2) (by decide)) hD
    have hPc := (z_app_P hPx).1
    have hDc := (z_app_D hDx).1
    refine z_calli (va_runV (As := [.int x1]) (rest := []) ⟨hx, hb, hml, hown, hts⟩ (c_X1_ticketsOf l D cs (a 0) H.size (u1_3 0) x1 _ hw) (cwV 1 hts gX3_counter_X1_ticketsOf rfl rfl rfl (by decide +kernel) ⟨Nat.le_of_ble_eq_true rfl, Nat.le_of_ble_eq_true rfl⟩) (PC_V hPc hDc hKK 0 1 rfl rfl) rfl rfl hl.1 rfl (lv_room (Nat.le_of_ble_eq_true rfl)) dX3_counter_91 ⟨Nat.le_of_ble_eq_true rfl, Nat.le_of_ble_eq_true rfl⟩) (fun r8 hw => ?_)
    refine W.widen (k := 2) (n := 12) (Nat.le_of_ble_eq_true rfl) (Nat.le_of_ble_eq_true rfl) (vx_ret ?_)
    exact W.iret (v := r8) hx hb hr (fun t ht hW => ⟨⟨r8, (u1_0, u1_1, u1_2, u1_3), rfl, hw, by rw [ht]; exact hP, hD⟩, hS.F ht⟩) hS.2.2 dX3_counter_94 hlocks
  have hw := hw.2 c3_3
  by_cases c3_4 : x2 = 4
  · have hw := hw.1 c3_4
    refine lv_tableIn (off := 83) (tgt := 95) hx hb dX3_counter_12 (by rw [c3_4]; decide) (by rw [c3_4]; decide) (by rw [c3_4]; rfl) (by decide) ?_
    refine lv_aload_n hx hb dX3_counter_95 rfl (lv_at hl 0 rfl) ?_
    refine va_get (D := D) (ci := 3) (v := .ref (a 0 0)) (C := RX3) (T := TX3) (N := 7) hx hb hts (h_X3_X3_counter) hown hK hP 0 rfl rfl 1 (by decide) (z_w hts 1 rfl) (fun _ h9 => h9) rfl dX3_counter_96 ?_
    refine lv_iload_n hx hb dX3_counter_99 rfl (lv_at hl 1 rfl) ?_
    have hPx := z_perm_P (lines_1 (cs := cs) (a := a) (n := 18) (i := 0) u1_3 (w_Xo cs x tq h a u1_0 ++ w_Text cs tq u1_1 ++ w_Hist cs h a u1_2) (by decide)) hP
    have hDx := z_perm_D (lines_1 (cs := cs) (a := a) (n := 18) (i := 0) u1_3 (w_Xo cs x tq h a u1_0 ++ w_Text cs tq u1_1 ++ w_Hist cs h a u1_2) (by decide)) hD
    have hPc := (z_app_P hPx).1
    have hDc := (z_app_D hDx).1
    refine z_calli (va_runV (As := [.int x1]) (rest := []) ⟨hx, hb, hml, hown, hts⟩ (c_X1_waitingAt l D cs (a 0) H.size (u1_3 0) x1 _ hw) (cwV 1 hts gX3_counter_X1_waitingAt rfl rfl rfl (by decide +kernel) ⟨Nat.le_of_ble_eq_true rfl, Nat.le_of_ble_eq_true rfl⟩) (PC_V hPc hDc hKK 0 1 rfl rfl) rfl rfl hl.1 rfl (lv_room (Nat.le_of_ble_eq_true rfl)) dX3_counter_100 ⟨Nat.le_of_ble_eq_true rfl, Nat.le_of_ble_eq_true rfl⟩) (fun r9 hw => ?_)
    refine W.widen (k := 2) (n := 12) (Nat.le_of_ble_eq_true rfl) (Nat.le_of_ble_eq_true rfl) (vx_ret ?_)
    exact W.iret (v := r9) hx hb hr (fun t ht hW => ⟨⟨r9, (u1_0, u1_1, u1_2, u1_3), rfl, hw, by rw [ht]; exact hP, hD⟩, hS.F ht⟩) hS.2.2 dX3_counter_103 hlocks
  have hw := hw.2 c3_4
  have e3_0 : ¬ (x2).toInt = 0 := fun h => c3_0 (Int32.toInt_inj.mp h)
  have e3_1 : ¬ (x2).toInt = 1 := fun h => c3_1 (Int32.toInt_inj.mp h)
  have e3_2 : ¬ (x2).toInt = 2 := fun h => c3_2 (Int32.toInt_inj.mp h)
  have e3_3 : ¬ (x2).toInt = 3 := fun h => c3_3 (Int32.toInt_inj.mp h)
  have e3_4 : ¬ (x2).toInt = 4 := fun h => c3_4 (Int32.toInt_inj.mp h)
  refine lv_tableOut (tgt := 104) hx hb dX3_counter_12 (by omega) (by decide) ?_
  refine lv_aload_n hx hb dX3_counter_104 rfl (lv_at hl 0 rfl) ?_
  refine va_get (D := D) (ci := 3) (v := .ref (a 0 0)) (C := RX3) (T := TX3) (N := 7) hx hb hts (h_X3_X3_counter) hown hK hP 0 rfl rfl 1 (by decide) (z_w hts 1 rfl) (fun _ h9 => h9) rfl dX3_counter_105 ?_
  refine lv_iload_n hx hb dX3_counter_108 rfl (lv_at hl 1 rfl) ?_
  have hPx := z_perm_P (lines_1 (cs := cs) (a := a) (n := 18) (i := 0) u1_3 (w_Xo cs x tq h a u1_0 ++ w_Text cs tq u1_1 ++ w_Hist cs h a u1_2) (by decide)) hP
  have hDx := z_perm_D (lines_1 (cs := cs) (a := a) (n := 18) (i := 0) u1_3 (w_Xo cs x tq h a u1_0 ++ w_Text cs tq u1_1 ++ w_Hist cs h a u1_2) (by decide)) hD
  have hPc := (z_app_P hPx).1
  have hDc := (z_app_D hDx).1
  refine z_calli (va_runV (As := [.int x1]) (rest := []) ⟨hx, hb, hml, hown, hts⟩ (c_X1_digitSum l D cs (a 0) H.size (u1_3 0) x1 _ hw) (cwV 1 hts gX3_counter_X1_digitSum rfl rfl rfl (by decide +kernel) ⟨Nat.le_of_ble_eq_true rfl, Nat.le_of_ble_eq_true rfl⟩) (PC_V hPc hDc hKK 0 1 rfl rfl) rfl rfl hl.1 rfl (lv_room (Nat.le_of_ble_eq_true rfl)) dX3_counter_109 ⟨Nat.le_of_ble_eq_true rfl, Nat.le_of_ble_eq_true rfl⟩) (fun r10 hw => ?_)
  refine W.widen (k := 2) (n := 12) (Nat.le_of_ble_eq_true rfl) (Nat.le_of_ble_eq_true rfl) (vx_ret ?_)
  exact W.iret (v := r10) hx hb hr (fun t ht hW => ⟨⟨r10, (u1_0, u1_1, u1_2, u1_3), rfl, hw, by rw [ht]; exact hP, hD⟩, hS.F ht⟩) hS.2.2 dX3_counter_112 hlocks
set_option maxHeartbeats 4000000 in
set_option maxRecDepth 100000 in
theorem c_X3_counter (l : Launch) (hfl : l.stackTraces = false) (D : va_G) (cs : Nat → ClassId) (x : Nat → Nat) (tq : Nat → Nat) (h : Nat → Nat) (a : Nat → Nat → Nat) (sz : Nat) (sa : Nat → Nat) (S : XO) (tx : TS) (hs : HS) (Ls : (Nat → LnS)) (x1 : Int32) (x2 : Int32) (Q : Int32 → XO → TS → HS → (Nat → LnS) → Prop) (QX : String → XO → TS → HS → (Nat → LnS) → Prop) (hw : wp_X3_counter S tx hs Ls x1 x2 Q QX) : vx_Met l yX3_counter wsX3_counter ({ frames := 7, cells := 2, slots := 12, locals := 104 } : Room) (va_Pc [.ref (x 0), .int x1, .int x2] (PX D cs (w_Xo cs x tq h a S ++ w_Text cs tq tx ++ w_Hist cs h a hs ++ linesW cs a 18 Ls) sa sz)) (va_Qi (fun r (u : XO × TS × HS × (Nat → LnS)) => Q r u.1 u.2.1 u.2.2.1 u.2.2.2) (fun (u : XO × TS × HS × (Nat → LnS)) t => va_P D vwCl (w_Xo cs x tq h a u.1 ++ w_Text cs tq u.2.1 ++ w_Hist cs h a u.2.2.1 ++ linesW cs a 18 u.2.2.2) t.heap ∧ va_D (va_A (w_Xo cs x tq h a S ++ w_Text cs tq tx ++ w_Hist cs h a hs ++ linesW cs a 18 Ls) sz) (w_Xo cs x tq h a u.1 ++ w_Text cs tq u.2.1 ++ w_Hist cs h a u.2.2.1 ++ linesW cs a 18 u.2.2.2)) (va_A (w_Xo cs x tq h a S ++ w_Text cs tq tx ++ w_Hist cs h a hs ++ linesW cs a 18 Ls) sz)) (vx_X (fun (_ : XO × TS × HS × (Nat → LnS)) => True) (fun E (u : XO × TS × HS × (Nat → LnS)) t => QX E u.1 u.2.1 u.2.2.1 u.2.2.2 ∧ va_P D vwCl (w_Xo cs x tq h a u.1 ++ w_Text cs tq u.2.1 ++ w_Hist cs h a u.2.2.1 ++ linesW cs a 18 u.2.2.2) t.heap ∧ va_D (va_A (w_Xo cs x tq h a S ++ w_Text cs tq tx ++ w_Hist cs h a hs ++ linesW cs a 18 Ls) sz) (w_Xo cs x tq h a u.1 ++ w_Text cs tq u.2.1 ++ w_Hist cs h a u.2.2.1 ++ linesW cs a 18 u.2.2.2)) (va_A (w_Xo cs x tq h a S ++ w_Text cs tq tx ++ w_Hist cs h a hs ++ linesW cs a 18 Ls) sz)) 2 12 (va_A (w_Xo cs x tq h a S ++ w_Text cs tq tx ++ w_Hist cs h a hs ++ linesW cs a 18 Ls) sz) := by
  refine vx_ofW (cc := cX3_counter) (maxL := 3) (ret := (some .int)) (by decide) rfl ?_
  intro p e s m args below meth c s₁ B hml hT0 hv
  obtain ⟨rfl, ⟨hsz, hP, hKK, hD0⟩, hTW, hTZ⟩ := hv
  have hC : MAt p s m _ meth c RX3 cX3_counter 3 (some .int) wsX3_counter D cs := ⟨B.exec, B.bytes, B.returns, hml, findClass_of_methodNamed B.named, atoms_spec (ws := wsX3_counter) B.pre, B.notSynchronized, hKK⟩
  have hl := lv_entry ([.ref (x 0), .int x1, .int x2]) (n := 3) (Nat.le_of_ble_eq_true rfl)
  rw [lg_entry_eq]
  generalize (lg_sl ([.ref (x 0), .int x1, .int x2]) ++ List.replicate (3 - (lg_sl ([.ref (x 0), .int x1, .int x2])).length) Slot.unset).toArray = ls at hl ⊢
  subst hsz
  have hD := hD0.self (sz := s.heap.size)
  have hA : ∀ z : Nat, s.heap.size ≤ z → va_A (w_Xo cs x tq h a S ++ w_Text cs tq tx ++ w_Hist cs h a hs ++ linesW cs a 18 Ls) s.heap.size z := fun z h => Or.inr h
  exact t_X3_counter hC hfl hT0 hTW hTZ x tq h a S tx hs Ls x1 x2 Q QX hA hw s.heap [] hP hD va_S.rf ls hl
theorem h_X1_X3_place : ∀ w ∈ u_ws RX1 TX1 13, w ∈ wsX3_place := fun _ h => List.mem_cons_of_mem _ (List.mem_append_left _ (List.mem_append_left _ (List.mem_append_right _ h)))
theorem h_X3_X3_place : ∀ w ∈ u_ws RX3 TX3 7, w ∈ wsX3_place := fun _ h => List.mem_cons_of_mem _ (List.mem_append_left _ (List.mem_append_left _ (List.mem_append_left _ (List.mem_append_right _ h))))
set_option maxHeartbeats 4000000 in
set_option maxRecDepth 100000 in
theorem t_X3_place {p : Program} {l : Launch} {e : Env} {s : State} {m : MethodId} {args : Array Value} {below : List Frame} {meth : Method} {c : Code} {D : va_G} {cs : Nat → ClassId} {A : Nat → Prop} (hC : MAt p s m args meth c RX3 cX3_place 5 (some .int) wsX3_place D cs) (hfl : l.stackTraces = false) (hT0 : ∀ x ∈ c.exceptionTable.toList, False) {sa : Nat → Nat} (hTW : TW sa s) (hTZ : TZ A s s.heap) (x : Nat → Nat) (tq : Nat → Nat) (h : Nat → Nat) (a : Nat → Nat → Nat) (S : XO) (tx : TS) (hs : HS) (Ls : (Nat → LnS)) (x1 : Int32) (x2 : Int32) (x3 : Int32) (Q : Int32 → XO → TS → HS → (Nat → LnS) → Prop) (QX : String → XO → TS → HS → (Nat → LnS) → Prop) (hA : ∀ q : Nat, s.heap.size ≤ q → A q) (hw : wp_X3_place S tx hs Ls x1 x2 x3 Q QX) (H : Heap) (locs : List Loc) (hP : va_P D vwCl (w_Xo cs x tq h a S ++ w_Text cs tq tx ++ w_Hist cs h a hs ++ linesW cs a 18 Ls) H) (hD : va_D A (w_Xo cs x tq h a S ++ w_Text cs tq tx ++ w_Hist cs h a hs ++ linesW cs a 18 Ls)) (hS : va_S A s.heap H locs) (ls : Array Slot) (hl : lv_has ls 5 [(0, .ref (x 0)), (1, .int x1), (2, .int x2), (3, .int x3)]) : W p l e ({ frames := 7, cells := 2, slots := 12, locals := 104 } : Room) s m args below meth c H locs 0 0 (vx_MQ below (va_Qi (fun r (u : XO × TS × HS × (Nat → LnS)) => Q r u.1 u.2.1 u.2.2.1 u.2.2.2) (fun (u : XO × TS × HS × (Nat → LnS)) t => va_P D vwCl (w_Xo cs x tq h a u.1 ++ w_Text cs tq u.2.1 ++ w_Hist cs h a u.2.2.1 ++ linesW cs a 18 u.2.2.2) t.heap ∧ va_D A (w_Xo cs x tq h a u.1 ++ w_Text cs tq u.2.1 ++ w_Hist cs h a u.2.2.1 ++ linesW cs a 18 u.2.2.2)) A) (vx_X (fun (_ : XO × TS × HS × (Nat → LnS)) => True) (fun E (u : XO × TS × HS × (Nat → LnS)) t => QX E u.1 u.2.1 u.2.2.1 u.2.2.2 ∧ va_P D vwCl (w_Xo cs x tq h a u.1 ++ w_Text cs tq u.2.1 ++ w_Hist cs h a u.2.2.1 ++ linesW cs a 18 u.2.2.2) t.heap ∧ va_D A (w_Xo cs x tq h a u.1 ++ w_Text cs tq u.2.1 ++ w_Hist cs h a u.2.2.1 ++ linesW cs a 18 u.2.2.2)) A) args s 2 12 A) (F0 m 0 ls []) := by
  obtain ⟨hx, hb, hr, hml, hown, hts, hlocks, hKK⟩ := id hC
  have hK := hKK.1
  refine lv_aload_n hx hb dX3_place_0 rfl (lv_at hl 0 rfl) ?_
  refine lv_iload_n hx hb dX3_place_1 rfl (lv_at hl 1 rfl) ?_
  have hFc := z_free (wr := []) (by rw [List.append_nil]; exact hD) hS hA
  refine vx_callv (vx_runV (As := [.int x1]) (rest := []) ⟨hx, hb, hml, hown, hts⟩ (c_X3_requireCounter l hfl D cs x tq h a H.size sa S tx hs Ls x1 _ _ hw) (cwV 1 hts gX3_place_X3_requireCounter rfl rfl rfl (by decide +kernel) ⟨Nat.le_of_ble_eq_true rfl, Nat.le_of_ble_eq_true rfl⟩) (PX_V hP hD hKK hTW hTZ hS hFc 0 3 rfl rfl) rfl rfl hl.1 rfl (lv_room (Nat.le_of_ble_eq_true rfl)) dX3_place_2 ⟨Nat.le_of_ble_eq_true rfl, Nat.le_of_ble_eq_true rfl⟩) hS (fun q _ h => hFc q h) hFc (fun q _ h => hFc q h) ?_ (fun u1 t H locs ht hvm hw hB hz1 hk1 hS => ?_)
  · intro E ce q9 u1 t H locs ht hvm hpx hB hz1 hk1 hS hq9 hce hcl
    obtain ⟨u1_0, u1_1, u1_2, u1_3⟩ := u1
    obtain ⟨hw, hP1, hD1⟩ := hB
    rw [ht] at hP1
    have hD : va_D A (w_Xo cs x tq h a u1_0 ++ w_Text cs tq u1_1 ++ w_Hist cs h a u1_2 ++ linesW cs a 18 u1_3) := hD1.weaken (fun k q _ h => hFc q.1 h)
    have hP : va_P D vwCl (w_Xo cs x tq h a u1_0 ++ w_Text cs tq u1_1 ++ w_Hist cs h a u1_2 ++ linesW cs a 18 u1_3) H := hP1
    exact vx_out (fun x h => (hT0 x h).elim) hlocks hq9 hce hcl (fun t2 ht2 hvm2 => ⟨(u1_0, u1_1, u1_2, u1_3), trivial, ⟨hw, by rw [ht2]; exact hP, hD⟩, hS.F ht2⟩) hS.2.2 (Nat.le_of_ble_eq_true rfl) (Nat.le_of_ble_eq_true rfl)
  obtain ⟨u1_0, u1_1, u1_2, u1_3⟩ := u1
  obtain ⟨hP1, hD1⟩ := hB
  rw [ht] at hP1
  have hD : va_D A (w_Xo cs x tq h a u1_0 ++ w_Text cs tq u1_1 ++ w_Hist cs h a u1_2 ++ linesW cs a 18 u1_3) := hD1.weaken (fun k q _ h => hFc q.1 h)
  have hP : va_P D vwCl (w_Xo cs x tq h a u1_0 ++ w_Text cs tq u1_1 ++ w_Hist cs h a u1_2 ++ linesW cs a 18 u1_3) H := hP1
  refine lv_iload_n hx hb dX3_place_5 rfl (lv_at hl 2 rfl) ?_
  refine lv_if_lt (tgt := 22) hx hb dX3_place_6 (by decide) (fun c2 => ?_) (fun c2 => ?_)
  · have hw := hw.1 c2
    exact vx_throwS hx hb hfl hown (by decide +kernel) (by decide +kernel) (z_w hts 1 rfl) (z_w hts 2 rfl) (show vk_R RX3 133 "no such place" (sa 2) s from hTW.1 2 (by decide)) (vx_hat (fun w h => hts w (List.mem_cons_of_mem _ (List.mem_append_left _ (List.mem_append_right _ h)))) zb_eIOB (vx_c (va_Nw.use rfl hTW.2.2.2.1) (vx_c (va_Nw.use rfl hTW.2.2.2.2.2.2.2.2.2.2.1) (vx_c (va_Nw.use rfl hTW.2.2.2.2.2.2.2.2.2.2.2.1) (vx_c (va_Nw.use rfl hTW.2.2.2.2.2.2.2.2.2.2.2.2) vx_n))))) zh_eIOB hTZ.1 hTZ.2 hS (hl.1.trans hml.symm) dX3_place_22 dX3_place_25 dX3_place_26 dX3_place_28 dX3_place_31 (fun x h => (hT0 x h).elim) (Nat.le_of_ble_eq_true rfl) (Nat.le_of_ble_eq_true rfl) (Nat.le_of_ble_eq_true rfl) (Nat.le_of_ble_eq_true rfl) hlocks (fun t ha hz hk => ⟨(u1_0, u1_1, u1_2, u1_3), trivial, ⟨hw, hP.kept (fun k q hq => hk q.1 (hP k q hq).lt), hD⟩, ⟨Nat.le_trans hS.1 hz, fun q h1 h2 => (hk q (Nat.lt_of_lt_of_le h1 hS.1)).trans (hS.2.1 q h1 h2)⟩⟩) hS.2.2 (Nat.le_of_ble_eq_true rfl) (Nat.le_of_ble_eq_true rfl)
  · have hw := hw.2 c2
    refine lv_iload_n hx hb dX3_place_9 rfl (lv_at hl 2 rfl) ?_
    refine lv_aload_n hx hb dX3_place_10 rfl (lv_at hl 0 rfl) ?_
    refine va_get (D := D) (ci := 3) (v := .ref (a 0 0)) (C := RX3) (T := TX3) (N := 7) hx hb hts (h_X3_X3_place) hown hK hP 0 rfl rfl 1 (by decide) (z_w hts 3 rfl) (fun _ h9 => h9) rfl dX3_place_11 ?_
    refine va_get (D := D) (ci := 1) (v := .ref (a 0 1)) (C := RX1) (T := TX1) (N := 13) hx hb hts (h_X1_X3_place) hown hK hP 8 rfl rfl 4 (by decide) (z_w hts 4 rfl) (fun _ h9 => h9) rfl dX3_place_14 ?_
    refine lv_iload_n hx hb dX3_place_17 rfl (lv_at hl 1 rfl) ?_
    obtain ⟨h3, hw⟩ := hw
    refine va_iald hx hb hK hP 9 0 rfl rfl h3 dX3_place_18 ?_
    refine lv_icmp_lt (tgt := 32) hx hb dX3_place_19 (by decide) (fun c4 => ?_) (fun c4 => ?_)
    · have hw := hw.1 c4
      refine lv_iload_n hx hb dX3_place_32 rfl (lv_at hl 3 rfl) ?_
      refine lv_iconst (v := (0 : Int32)) hx hb dX3_place_33 (by decide) ?_
      refine lv_iconst (v := (1 : Int32)) hx hb dX3_place_34 (by decide) ?_
      have hPc : va_P D vwCl ([] : va_W) H := z_nilP
      have hDc : va_D A ([] : va_W) := z_nilD
      have hFc := z_free (wc := []) hD hS hA
      refine vx_callv (vx_runS (As := [.int x3, .int (0 : Int32), .int (1 : Int32)]) (rest := []) ⟨hx, hb, hml, hown, hts⟩ (c_X3_requireRange l hfl D cs  H.size sa x3 (0 : Int32) (1 : Int32) _ _ hw) (va_cwS 3 hts gX3_place_X3_requireRange rfl rfl rfl (by decide +kernel) ⟨Nat.le_of_ble_eq_true rfl, Nat.le_of_ble_eq_true rfl⟩) (PX_S hPc hDc hKK hTW hTZ hS hFc) rfl rfl hl.1 rfl (lv_room (Nat.le_of_ble_eq_true rfl)) dX3_place_35 ⟨Nat.le_of_ble_eq_true rfl, Nat.le_of_ble_eq_true rfl⟩) hS (fun q _ h => hFc q h) hFc (fun q _ h => hFc q h) ?_ (fun u5 t H locs ht hvm hw hB hz1 hk1 hS => ?_)
      · intro E ce q9 u5 t H locs ht hvm hpx hB hz1 hk1 hS hq9 hce hcl
        obtain ⟨hw, hP1, hD1⟩ := hB
        rw [ht] at hP1
        obtain ⟨hP, hD⟩ := z_join (wc := []) hP hD hk1 hFc hP1 hD1
        have hP : va_P D vwCl (w_Xo cs x tq h a u1_0 ++ w_Text cs tq u1_1 ++ w_Hist cs h a u1_2 ++ linesW cs a 18 u1_3) H := hP
        have hD : va_D A (w_Xo cs x tq h a u1_0 ++ w_Text cs tq u1_1 ++ w_Hist cs h a u1_2 ++ linesW cs a 18 u1_3) := hD
        exact vx_out (fun x h => (hT0 x h).elim) hlocks hq9 hce hcl (fun t2 ht2 hvm2 => ⟨(u1_0, u1_1, u1_2, u1_3), trivial, ⟨hw, by rw [ht2]; exact hP, hD⟩, hS.F ht2⟩) hS.2.2 (Nat.le_of_ble_eq_true rfl) (Nat.le_of_ble_eq_true rfl)
      obtain ⟨hP1, hD1⟩ := hB
      rw [ht] at hP1
      obtain ⟨hP, hD⟩ := z_join (wc := []) hP hD hk1 hFc hP1 hD1
      have hP : va_P D vwCl (w_Xo cs x tq h a u1_0 ++ w_Text cs tq u1_1 ++ w_Hist cs h a u1_2 ++ linesW cs a 18 u1_3) H := hP
      have hD : va_D A (w_Xo cs x tq h a u1_0 ++ w_Text cs tq u1_1 ++ w_Hist cs h a u1_2 ++ linesW cs a 18 u1_3) := hD
      refine lv_iload_n hx hb dX3_place_38 rfl (lv_at hl 1 rfl) ?_
      refine lv_iload_n hx hb dX3_place_39 rfl (lv_at hl 2 rfl) ?_
      have hPc : va_P D vwCl ([] : va_W) H := z_nilP
      have hDc : va_D A ([] : va_W) := z_nilD
      refine z_calli (va_runS (As := [.int x1, .int x2]) (rest := []) ⟨hx, hb, hml, hown, hts⟩ (c_X3_cellOf l D cs  H.size x1 x2 _ hw) (va_cwS 2 hts gX3_place_X3_cellOf rfl rfl rfl (by decide +kernel) ⟨Nat.le_of_ble_eq_true rfl, Nat.le_of_ble_eq_true rfl⟩) (PC_S hPc hDc hKK) rfl rfl hl.1 rfl (lv_room (Nat.le_of_ble_eq_true rfl)) dX3_place_40 ⟨Nat.le_of_ble_eq_true rfl, Nat.le_of_ble_eq_true rfl⟩) (fun r6 hw => ?_)
      refine lv_istore (lv' := [(4, .int r6), (0, .ref (x 0)), (1, .int x1), (2, .int x2), (3, .int x3)]) hx hb dX3_place_43 hl (by decide) rfl (fun ls hl => ?_)
      refine lv_iload_n hx hb dX3_place_45 rfl (lv_at hl 4 rfl) ?_
      refine lv_if_ne (tgt := 62) hx hb dX3_place_46 (by decide) (fun c7 => ?_) (fun c7 => ?_)
      · have hw := hw.2 c7
        refine lv_aload_n hx hb dX3_place_62 rfl (lv_at hl 1 rfl) ?_
        refine va_get (D := D) (ci := 3) (v := .ref (a 0 0)) (C := RX3) (T := TX3) (N := 7) hx hb hts (h_X3_X3_place) hown hK hP 0 rfl rfl 1 (by decide) (z_w hts 3 rfl) (fun _ h9 => h9) rfl dX3_place_63 ?_
        refine va_get (D := D) (ci := 1) (v := .ref (a 0 5)) (C := RX1) (T := TX1) (N := 13) hx hb hts (h_X1_X3_place) hown hK hP 8 rfl rfl 8 (by decide) (z_w hts 6 rfl) (fun _ h9 => h9) rfl dX3_place_66 ?_
        refine lv_iload hx hb dX3_place_69 (lv_at hl 0 rfl) ?_
        obtain ⟨h8, hw⟩ := hw
        refine va_iald hx hb hK hP 13 0 rfl rfl h8 dX3_place_71 ?_
        refine W.widen (k := 2) (n := 12) (Nat.le_of_ble_eq_true rfl) (Nat.le_of_ble_eq_true rfl) (vx_ret ?_)
        exact W.iret (v := (u1_3 0).1 5 r6.toNatClampNeg) hx hb hr (fun t ht hW => ⟨⟨(u1_3 0).1 5 r6.toNatClampNeg, (u1_0, u1_1, u1_2, u1_3), rfl, hw, by rw [ht]; exact hP, hD⟩, hS.F ht⟩) hS.2.2 dX3_place_72 hlocks
      · have hw := hw.1 c7
        refine lv_aload_n hx hb dX3_place_49 rfl (lv_at hl 1 rfl) ?_
        refine va_get (D := D) (ci := 3) (v := .ref (a 0 0)) (C := RX3) (T := TX3) (N := 7) hx hb hts (h_X3_X3_place) hown hK hP 0 rfl rfl 1 (by decide) (z_w hts 3 rfl) (fun _ h9 => h9) rfl dX3_place_50 ?_
        refine va_get (D := D) (ci := 1) (v := .ref (a 0 4)) (C := RX1) (T := TX1) (N := 13) hx hb hts (h_X1_X3_place) hown hK hP 8 rfl rfl 7 (by decide) (z_w hts 5 rfl) (fun _ h9 => h9) rfl dX3_place_53 ?_
        refine lv_iload hx hb dX3_place_56 (lv_at hl 0 rfl) ?_
        obtain ⟨h9, hw⟩ := hw
        refine va_iald hx hb hK hP 12 0 rfl rfl h9 dX3_place_58 ?_
        refine lv_goto (tgt := 72) hx hb dX3_place_59 (by decide) ?_
        refine W.widen (k := 2) (n := 12) (Nat.le_of_ble_eq_true rfl) (Nat.le_of_ble_eq_true rfl) (vx_ret ?_)
        exact W.iret (v := (u1_3 0).1 4 r6.toNatClampNeg) hx hb hr (fun t ht hW => ⟨⟨(u1_3 0).1 4 r6.toNatClampNeg, (u1_0, u1_1, u1_2, u1_3), rfl, hw, by rw [ht]; exact hP, hD⟩, hS.F ht⟩) hS.2.2 dX3_place_72 hlocks
    · have hw := hw.2 c4
      exact vx_throwS hx hb hfl hown (by decide +kernel) (by decide +kernel) (z_w hts 1 rfl) (z_w hts 2 rfl) (show vk_R RX3 133 "no such place" (sa 2) s from hTW.1 2 (by decide)) (vx_hat (fun w h => hts w (List.mem_cons_of_mem _ (List.mem_append_left _ (List.mem_append_right _ h)))) zb_eIOB (vx_c (va_Nw.use rfl hTW.2.2.2.1) (vx_c (va_Nw.use rfl hTW.2.2.2.2.2.2.2.2.2.2.1) (vx_c (va_Nw.use rfl hTW.2.2.2.2.2.2.2.2.2.2.2.1) (vx_c (va_Nw.use rfl hTW.2.2.2.2.2.2.2.2.2.2.2.2) vx_n))))) zh_eIOB hTZ.1 hTZ.2 hS (hl.1.trans hml.symm) dX3_place_22 dX3_place_25 dX3_place_26 dX3_place_28 dX3_place_31 (fun x h => (hT0 x h).elim) (Nat.le_of_ble_eq_true rfl) (Nat.le_of_ble_eq_true rfl) (Nat.le_of_ble_eq_true rfl) (Nat.le_of_ble_eq_true rfl) hlocks (fun t ha hz hk => ⟨(u1_0, u1_1, u1_2, u1_3), trivial, ⟨hw, hP.kept (fun k q hq => hk q.1 (hP k q hq).lt), hD⟩, ⟨Nat.le_trans hS.1 hz, fun q h1 h2 => (hk q (Nat.lt_of_lt_of_le h1 hS.1)).trans (hS.2.1 q h1 h2)⟩⟩) hS.2.2 (Nat.le_of_ble_eq_true rfl) (Nat.le_of_ble_eq_true rfl)
set_option maxHeartbeats 4000000 in
set_option maxRecDepth 100000 in
theorem c_X3_place (l : Launch) (hfl : l.stackTraces = false) (D : va_G) (cs : Nat → ClassId) (x : Nat → Nat) (tq : Nat → Nat) (h : Nat → Nat) (a : Nat → Nat → Nat) (sz : Nat) (sa : Nat → Nat) (S : XO) (tx : TS) (hs : HS) (Ls : (Nat → LnS)) (x1 : Int32) (x2 : Int32) (x3 : Int32) (Q : Int32 → XO → TS → HS → (Nat → LnS) → Prop) (QX : String → XO → TS → HS → (Nat → LnS) → Prop) (hw : wp_X3_place S tx hs Ls x1 x2 x3 Q QX) : vx_Met l yX3_place wsX3_place ({ frames := 7, cells := 2, slots := 12, locals := 104 } : Room) (va_Pc [.ref (x 0), .int x1, .int x2, .int x3] (PX D cs (w_Xo cs x tq h a S ++ w_Text cs tq tx ++ w_Hist cs h a hs ++ linesW cs a 18 Ls) sa sz)) (va_Qi (fun r (u : XO × TS × HS × (Nat → LnS)) => Q r u.1 u.2.1 u.2.2.1 u.2.2.2) (fun (u : XO × TS × HS × (Nat → LnS)) t => va_P D vwCl (w_Xo cs x tq h a u.1 ++ w_Text cs tq u.2.1 ++ w_Hist cs h a u.2.2.1 ++ linesW cs a 18 u.2.2.2) t.heap ∧ va_D (va_A (w_Xo cs x tq h a S ++ w_Text cs tq tx ++ w_Hist cs h a hs ++ linesW cs a 18 Ls) sz) (w_Xo cs x tq h a u.1 ++ w_Text cs tq u.2.1 ++ w_Hist cs h a u.2.2.1 ++ linesW cs a 18 u.2.2.2)) (va_A (w_Xo cs x tq h a S ++ w_Text cs tq tx ++ w_Hist cs h a hs ++ linesW cs a 18 Ls) sz)) (vx_X (fun (_ : XO × TS × HS × (Nat → LnS)) => True) (fun E (u : XO × TS × HS × (Nat → LnS)) t => QX E u.1 u.2.1 u.2.2.1 u.2.2.2 ∧ va_P D vwCl (w_Xo cs x tq h a u.1 ++ w_Text cs tq u.2.1 ++ w_Hist cs h a u.2.2.1 ++ linesW cs a 18 u.2.2.2) t.heap ∧ va_D (va_A (w_Xo cs x tq h a S ++ w_Text cs tq tx ++ w_Hist cs h a hs ++ linesW cs a 18 Ls) sz) (w_Xo cs x tq h a u.1 ++ w_Text cs tq u.2.1 ++ w_Hist cs h a u.2.2.1 ++ linesW cs a 18 u.2.2.2)) (va_A (w_Xo cs x tq h a S ++ w_Text cs tq tx ++ w_Hist cs h a hs ++ linesW cs a 18 Ls) sz)) 2 12 (va_A (w_Xo cs x tq h a S ++ w_Text cs tq tx ++ w_Hist cs h a hs ++ linesW cs a 18 Ls) sz) := by
  refine vx_ofW (cc := cX3_place) (maxL := 5) (ret := (some .int)) (by decide) rfl ?_
  intro p e s m args below meth c s₁ B hml hT0 hv
  obtain ⟨rfl, ⟨hsz, hP, hKK, hD0⟩, hTW, hTZ⟩ := hv
  have hC : MAt p s m _ meth c RX3 cX3_place 5 (some .int) wsX3_place D cs := ⟨B.exec, B.bytes, B.returns, hml, findClass_of_methodNamed B.named, atoms_spec (ws := wsX3_place) B.pre, B.notSynchronized, hKK⟩
  have hl := lv_entry ([.ref (x 0), .int x1, .int x2, .int x3]) (n := 5) (Nat.le_of_ble_eq_true rfl)
  rw [lg_entry_eq]
  generalize (lg_sl ([.ref (x 0), .int x1, .int x2, .int x3]) ++ List.replicate (5 - (lg_sl ([.ref (x 0), .int x1, .int x2, .int x3])).length) Slot.unset).toArray = ls at hl ⊢
  subst hsz
  have hD := hD0.self (sz := s.heap.size)
  have hA : ∀ z : Nat, s.heap.size ≤ z → va_A (w_Xo cs x tq h a S ++ w_Text cs tq tx ++ w_Hist cs h a hs ++ linesW cs a 18 Ls) s.heap.size z := fun z h => Or.inr h
  exact t_X3_place hC hfl hT0 hTW hTZ x tq h a S tx hs Ls x1 x2 x3 Q QX hA hw s.heap [] hP hD va_S.rf ls hl
theorem h_X1_X3_ticket : ∀ w ∈ u_ws RX1 TX1 13, w ∈ wsX3_ticket := fun _ h => List.mem_cons_of_mem _ (List.mem_append_left _ (List.mem_append_left _ (List.mem_append_right _ h)))
theorem h_X3_X3_ticket : ∀ w ∈ u_ws RX3 TX3 7, w ∈ wsX3_ticket := fun _ h => List.mem_cons_of_mem _ (List.mem_append_left _ (List.mem_append_left _ (List.mem_append_left _ (List.mem_append_right _ h))))
set_option maxHeartbeats 4000000 in
set_option maxRecDepth 100000 in
theorem t_X3_ticket {p : Program} {l : Launch} {e : Env} {s : State} {m : MethodId} {args : Array Value} {below : List Frame} {meth : Method} {c : Code} {D : va_G} {cs : Nat → ClassId} {A : Nat → Prop} (hC : MAt p s m args meth c RX3 cX3_ticket 3 (some .long) wsX3_ticket D cs) (hfl : l.stackTraces = false) (hT0 : ∀ x ∈ c.exceptionTable.toList, False) {sa : Nat → Nat} (hTW : TW sa s) (hTZ : TZ A s s.heap) (x : Nat → Nat) (tq : Nat → Nat) (h : Nat → Nat) (a : Nat → Nat → Nat) (S : XO) (tx : TS) (hs : HS) (Ls : (Nat → LnS)) (x1 : Int32) (x2 : Int32) (Q : Int64 → XO → TS → HS → (Nat → LnS) → Prop) (QX : String → XO → TS → HS → (Nat → LnS) → Prop) (hA : ∀ q : Nat, s.heap.size ≤ q → A q) (hw : wp_X3_ticket S tx hs Ls x1 x2 Q QX) (H : Heap) (locs : List Loc) (hP : va_P D vwCl (w_Xo cs x tq h a S ++ w_Text cs tq tx ++ w_Hist cs h a hs ++ linesW cs a 18 Ls) H) (hD : va_D A (w_Xo cs x tq h a S ++ w_Text cs tq tx ++ w_Hist cs h a hs ++ linesW cs a 18 Ls)) (hS : va_S A s.heap H locs) (ls : Array Slot) (hl : lv_has ls 3 [(0, .ref (x 0)), (1, .int x1), (2, .int x2)]) : W p l e ({ frames := 7, cells := 2, slots := 12, locals := 104 } : Room) s m args below meth c H locs 0 0 (vx_MQ below (va_Ql (fun r (u : XO × TS × HS × (Nat → LnS)) => Q r u.1 u.2.1 u.2.2.1 u.2.2.2) (fun (u : XO × TS × HS × (Nat → LnS)) t => va_P D vwCl (w_Xo cs x tq h a u.1 ++ w_Text cs tq u.2.1 ++ w_Hist cs h a u.2.2.1 ++ linesW cs a 18 u.2.2.2) t.heap ∧ va_D A (w_Xo cs x tq h a u.1 ++ w_Text cs tq u.2.1 ++ w_Hist cs h a u.2.2.1 ++ linesW cs a 18 u.2.2.2)) A) (vx_X (fun (_ : XO × TS × HS × (Nat → LnS)) => True) (fun E (u : XO × TS × HS × (Nat → LnS)) t => QX E u.1 u.2.1 u.2.2.1 u.2.2.2 ∧ va_P D vwCl (w_Xo cs x tq h a u.1 ++ w_Text cs tq u.2.1 ++ w_Hist cs h a u.2.2.1 ++ linesW cs a 18 u.2.2.2) t.heap ∧ va_D A (w_Xo cs x tq h a u.1 ++ w_Text cs tq u.2.1 ++ w_Hist cs h a u.2.2.1 ++ linesW cs a 18 u.2.2.2)) A) args s 2 12 A) (F0 m 0 ls []) := by
  obtain ⟨hx, hb, hr, hml, hown, hts, hlocks, hKK⟩ := id hC
  have hK := hKK.1
  refine lv_aload_n hx hb dX3_ticket_0 rfl (lv_at hl 0 rfl) ?_
  refine lv_iload_n hx hb dX3_ticket_1 rfl (lv_at hl 1 rfl) ?_
  have hFc := z_free (wr := []) (by rw [List.append_nil]; exact hD) hS hA
  refine vx_callv (vx_runV (As := [.int x1]) (rest := []) ⟨hx, hb, hml, hown, hts⟩ (c_X3_requireTicket l hfl D cs x tq h a H.size sa S tx hs Ls x1 _ _ hw) (cwV 1 hts gX3_ticket_X3_requireTicket rfl rfl rfl (by decide +kernel) ⟨Nat.le_of_ble_eq_true rfl, Nat.le_of_ble_eq_true rfl⟩) (PX_V hP hD hKK hTW hTZ hS hFc 0 3 rfl rfl) rfl rfl hl.1 rfl (lv_room (Nat.le_of_ble_eq_true rfl)) dX3_ticket_2 ⟨Nat.le_of_ble_eq_true rfl, Nat.le_of_ble_eq_true rfl⟩) hS (fun q _ h => hFc q h) hFc (fun q _ h => hFc q h) ?_ (fun u1 t H locs ht hvm hw hB hz1 hk1 hS => ?_)
  · intro E ce q9 u1 t H locs ht hvm hpx hB hz1 hk1 hS hq9 hce hcl
    obtain ⟨u1_0, u1_1, u1_2, u1_3⟩ := u1
    obtain ⟨hw, hP1, hD1⟩ := hB
    rw [ht] at hP1
    have hD : va_D A (w_Xo cs x tq h a u1_0 ++ w_Text cs tq u1_1 ++ w_Hist cs h a u1_2 ++ linesW cs a 18 u1_3) := hD1.weaken (fun k q _ h => hFc q.1 h)
    have hP : va_P D vwCl (w_Xo cs x tq h a u1_0 ++ w_Text cs tq u1_1 ++ w_Hist cs h a u1_2 ++ linesW cs a 18 u1_3) H := hP1
    exact vx_out (fun x h => (hT0 x h).elim) hlocks hq9 hce hcl (fun t2 ht2 hvm2 => ⟨(u1_0, u1_1, u1_2, u1_3), trivial, ⟨hw, by rw [ht2]; exact hP, hD⟩, hS.F ht2⟩) hS.2.2 (Nat.le_of_ble_eq_true rfl) (Nat.le_of_ble_eq_true rfl)
  obtain ⟨u1_0, u1_1, u1_2, u1_3⟩ := u1
  obtain ⟨hP1, hD1⟩ := hB
  rw [ht] at hP1
  have hD : va_D A (w_Xo cs x tq h a u1_0 ++ w_Text cs tq u1_1 ++ w_Hist cs h a u1_2 ++ linesW cs a 18 u1_3) := hD1.weaken (fun k q _ h => hFc q.1 h)
  have hP : va_P D vwCl (w_Xo cs x tq h a u1_0 ++ w_Text cs tq u1_1 ++ w_Hist cs h a u1_2 ++ linesW cs a 18 u1_3) H := hP1
  refine lv_iload_n hx hb dX3_ticket_5 rfl (lv_at hl 2 rfl) ?_
  refine lv_iconst (v := (0 : Int32)) hx hb dX3_ticket_6 (by decide) ?_
  refine lv_iconst (v := (4 : Int32)) hx hb dX3_ticket_7 (by decide) ?_
  have hPc : va_P D vwCl ([] : va_W) H := z_nilP
  have hDc : va_D A ([] : va_W) := z_nilD
  have hFc := z_free (wc := []) hD hS hA
  refine vx_callv (vx_runS (As := [.int x2, .int (0 : Int32), .int (4 : Int32)]) (rest := []) ⟨hx, hb, hml, hown, hts⟩ (c_X3_requireRange l hfl D cs  H.size sa x2 (0 : Int32) (4 : Int32) _ _ hw) (va_cwS 3 hts gX3_ticket_X3_requireRange rfl rfl rfl (by decide +kernel) ⟨Nat.le_of_ble_eq_true rfl, Nat.le_of_ble_eq_true rfl⟩) (PX_S hPc hDc hKK hTW hTZ hS hFc) rfl rfl hl.1 rfl (lv_room (Nat.le_of_ble_eq_true rfl)) dX3_ticket_8 ⟨Nat.le_of_ble_eq_true rfl, Nat.le_of_ble_eq_true rfl⟩) hS (fun q _ h => hFc q h) hFc (fun q _ h => hFc q h) ?_ (fun u2 t H locs ht hvm hw hB hz1 hk1 hS => ?_)
  · intro E ce q9 u2 t H locs ht hvm hpx hB hz1 hk1 hS hq9 hce hcl
    obtain ⟨hw, hP1, hD1⟩ := hB
    rw [ht] at hP1
    obtain ⟨hP, hD⟩ := z_join (wc := []) hP hD hk1 hFc hP1 hD1
    have hP : va_P D vwCl (w_Xo cs x tq h a u1_0 ++ w_Text cs tq u1_1 ++ w_Hist cs h a u1_2 ++ linesW cs a 18 u1_3) H := hP
    have hD : va_D A (w_Xo cs x tq h a u1_0 ++ w_Text cs tq u1_1 ++ w_Hist cs h a u1_2 ++ linesW cs a 18 u1_3) := hD
    exact vx_out (fun x h => (hT0 x h).elim) hlocks hq9 hce hcl (fun t2 ht2 hvm2 => ⟨(u1_0, u1_1, u1_2, u1_3), trivial, ⟨hw, by rw [ht2]; exact hP, hD⟩, hS.F ht2⟩) hS.2.2 (Nat.le_of_ble_eq_true rfl) (Nat.le_of_ble_eq_true rfl)
  obtain ⟨hP1, hD1⟩ := hB
  rw [ht] at hP1
  obtain ⟨hP, hD⟩ := z_join (wc := []) hP hD hk1 hFc hP1 hD1
  have hP : va_P D vwCl (w_Xo cs x tq h a u1_0 ++ w_Text cs tq u1_1 ++ w_Hist cs h a u1_2 ++ linesW cs a 18 u1_3) H := hP
  have hD : va_D A (w_Xo cs x tq h a u1_0 ++ w_Text cs tq u1_1 ++ w_Hist cs h a u1_2 ++ linesW cs a 18 u1_3) := hD
  refine lv_iload_n hx hb dX3_ticket_11 rfl (lv_at hl 2 rfl) ?_
  by_cases c3_0 : x2 = 0
  · have hw := hw.1 c3_0
    refine lv_tableIn (off := 32) (tgt := 44) hx hb dX3_ticket_12 (by rw [c3_0]; decide) (by rw [c3_0]; decide) (by rw [c3_0]; rfl) (by decide) ?_
    refine lv_aload_n hx hb dX3_ticket_44 rfl (lv_at hl 0 rfl) ?_
    refine va_get (D := D) (ci := 3) (v := .ref (a 0 0)) (C := RX3) (T := TX3) (N := 7) hx hb hts (h_X3_X3_ticket) hown hK hP 0 rfl rfl 1 (by decide) (z_w hts 1 rfl) (fun _ h9 => h9) rfl dX3_ticket_45 ?_
    refine va_get (D := D) (ci := 1) (v := .ref (a 0 6)) (C := RX1) (T := TX1) (N := 13) hx hb hts (h_X1_X3_ticket) hown hK hP 8 rfl rfl 9 (by decide) (z_w hts 2 rfl) (fun _ h9 => h9) rfl dX3_ticket_48 ?_
    refine lv_iload_n hx hb dX3_ticket_51 rfl (lv_at hl 1 rfl) ?_
    obtain ⟨h4, hw⟩ := hw
    refine va_iald hx hb hK hP 14 0 rfl rfl h4 dX3_ticket_52 ?_
    refine lv_i2l (v := ((u1_3 0).1 6 x1.toNatClampNeg).toInt64) hx hb dX3_ticket_53 rfl ?_
    refine W.widen (k := 2) (n := 12) (Nat.le_of_ble_eq_true rfl) (Nat.le_of_ble_eq_true rfl) (vx_ret ?_)
    exact W.lret (v := ((u1_3 0).1 6 x1.toNatClampNeg).toInt64) hx hb hr (fun t ht hW => ⟨⟨((u1_3 0).1 6 x1.toNatClampNeg).toInt64, (u1_0, u1_1, u1_2, u1_3), rfl, hw, by rw [ht]; exact hP, hD⟩, hS.F ht⟩) hS.2.2 dX3_ticket_54 hlocks
  have hw := hw.2 c3_0
  by_cases c3_1 : x2 = 1
  · have hw := hw.1 c3_1
    refine lv_tableIn (off := 43) (tgt := 55) hx hb dX3_ticket_12 (by rw [c3_1]; decide) (by rw [c3_1]; decide) (by rw [c3_1]; rfl) (by decide) ?_
    refine lv_aload_n hx hb dX3_ticket_55 rfl (lv_at hl 0 rfl) ?_
    refine va_get (D := D) (ci := 3) (v := .ref (a 0 0)) (C := RX3) (T := TX3) (N := 7) hx hb hts (h_X3_X3_ticket) hown hK hP 0 rfl rfl 1 (by decide) (z_w hts 1 rfl) (fun _ h9 => h9) rfl dX3_ticket_56 ?_
    refine va_get (D := D) (ci := 1) (v := .ref (a 0 7)) (C := RX1) (T := TX1) (N := 13) hx hb hts (h_X1_X3_ticket) hown hK hP 8 rfl rfl 10 (by decide) (z_w hts 3 rfl) (fun _ h9 => h9) rfl dX3_ticket_59 ?_
    refine lv_iload_n hx hb dX3_ticket_62 rfl (lv_at hl 1 rfl) ?_
    obtain ⟨h5, hw⟩ := hw
    refine va_iald hx hb hK hP 15 0 rfl rfl h5 dX3_ticket_63 ?_
    refine lv_i2l (v := ((u1_3 0).1 7 x1.toNatClampNeg).toInt64) hx hb dX3_ticket_64 rfl ?_
    refine W.widen (k := 2) (n := 12) (Nat.le_of_ble_eq_true rfl) (Nat.le_of_ble_eq_true rfl) (vx_ret ?_)
    exact W.lret (v := ((u1_3 0).1 7 x1.toNatClampNeg).toInt64) hx hb hr (fun t ht hW => ⟨⟨((u1_3 0).1 7 x1.toNatClampNeg).toInt64, (u1_0, u1_1, u1_2, u1_3), rfl, hw, by rw [ht]; exact hP, hD⟩, hS.F ht⟩) hS.2.2 dX3_ticket_65 hlocks
  have hw := hw.2 c3_1
  by_cases c3_2 : x2 = 2
  · have hw := hw.1 c3_2
    refine lv_tableIn (off := 54) (tgt := 66) hx hb dX3_ticket_12 (by rw [c3_2]; decide) (by rw [c3_2]; decide) (by rw [c3_2]; rfl) (by decide) ?_
    refine lv_aload_n hx hb dX3_ticket_66 rfl (lv_at hl 0 rfl) ?_
    refine va_get (D := D) (ci := 3) (v := .ref (a 0 0)) (C := RX3) (T := TX3) (N := 7) hx hb hts (h_X3_X3_ticket) hown hK hP 0 rfl rfl 1 (by decide) (z_w hts 1 rfl) (fun _ h9 => h9) rfl dX3_ticket_67 ?_
    refine va_get (D := D) (ci := 1) (v := .ref (a 0 8)) (C := RX1) (T := TX1) (N := 13) hx hb hts (h_X1_X3_ticket) hown hK hP 8 rfl rfl 11 (by decide) (z_w hts 4 rfl) (fun _ h9 => h9) rfl dX3_ticket_70 ?_
    refine lv_iload_n hx hb dX3_ticket_73 rfl (lv_at hl 1 rfl) ?_
    obtain ⟨h6, hw⟩ := hw
    refine va_iald hx hb hK hP 16 0 rfl rfl h6 dX3_ticket_74 ?_
    refine lv_i2l (v := ((u1_3 0).1 8 x1.toNatClampNeg).toInt64) hx hb dX3_ticket_75 rfl ?_
    refine W.widen (k := 2) (n := 12) (Nat.le_of_ble_eq_true rfl) (Nat.le_of_ble_eq_true rfl) (vx_ret ?_)
    exact W.lret (v := ((u1_3 0).1 8 x1.toNatClampNeg).toInt64) hx hb hr (fun t ht hW => ⟨⟨((u1_3 0).1 8 x1.toNatClampNeg).toInt64, (u1_0, u1_1, u1_2, u1_3), rfl, hw, by rw [ht]; exact hP, hD⟩, hS.F ht⟩) hS.2.2 dX3_ticket_76 hlocks
  have hw := hw.2 c3_2
  by_cases c3_3 : x2 = 3
  · have hw := hw.1 c3_3
    refine lv_tableIn (off := 65) (tgt := 77) hx hb dX3_ticket_12 (by rw [c3_3]; decide) (by rw [c3_3]; decide) (by rw [c3_3]; rfl) (by decide) ?_
    refine lv_aload_n hx hb dX3_ticket_77 rfl (lv_at hl 0 rfl) ?_
    refine va_get (D := D) (ci := 3) (v := .ref (a 0 0)) (C := RX3) (T := TX3) (N := 7) hx hb hts (h_X3_X3_ticket) hown hK hP 0 rfl rfl 1 (by decide) (z_w hts 1 rfl) (fun _ h9 => h9) rfl dX3_ticket_78 ?_
    refine lv_iload_n hx hb dX3_ticket_81 rfl (lv_at hl 1 rfl) ?_
    have hPx := z_perm_P (lines_1 (cs := cs) (a := a) (n := 18) (i := 0) u1_3 (w_Xo cs x tq h a u1_0 ++ w_Text cs tq u1_1 ++ w_Hist cs h a u1_2) (by decide)) hP
    have hDx := z_perm_D (lines_1 (cs := cs) (a := a) (n := 18) (i := 0) u1_3 (w_Xo cs x tq h a u1_0 ++ w_Text cs tq u1_1 ++ w_Hist cs h a u1_2) (by decide)) hD
    have hPc := (z_app_P hPx).1
    have hDc := (z_app_D hDx).1
    refine z_calli (va_runV (As := [.int x1]) (rest := []) ⟨hx, hb, hml, hown, hts⟩ (c_X1_partners l D cs (a 0) H.size (u1_3 0) x1 _ hw) (cwV 1 hts gX3_ticket_X1_partners rfl rfl rfl (by decide +kernel) ⟨Nat.le_of_ble_eq_true rfl, Nat.le_of_ble_eq_true rfl⟩) (PC_V hPc hDc hKK 0 1 rfl rfl) rfl rfl hl.1 rfl (lv_room (Nat.le_of_ble_eq_true rfl)) dX3_ticket_82 ⟨Nat.le_of_ble_eq_true rfl, Nat.le_of_ble_eq_true rfl⟩) (fun r7 hw => ?_)
    refine lv_i2l (v := r7.toInt64) hx hb dX3_ticket_85 rfl ?_
    refine W.widen (k := 2) (n := 12) (Nat.le_of_ble_eq_true rfl) (Nat.le_of_ble_eq_true rfl) (vx_ret ?_)
    exact W.lret (v := r7.toInt64) hx hb hr (fun t ht hW => ⟨⟨r7.toInt64, (u1_0, u1_1, u1_2, u1_3), rfl, hw, by rw [ht]; exact hP, hD⟩, hS.F ht⟩) hS.2.2 dX3_ticket_86 hlocks
  have hw := hw.2 c3_3
  have e3_0 : ¬ (x2).toInt = 0 := fun h => c3_0 (Int32.toInt_inj.mp h)
  have e3_1 : ¬ (x2).toInt = 1 := fun h => c3_1 (Int32.toInt_inj.mp h)
  have e3_2 : ¬ (x2).toInt = 2 := fun h => c3_2 (Int32.toInt_inj.mp h)
  have e3_3 : ¬ (x2).toInt = 3 := fun h => c3_3 (Int32.toInt_inj.mp h)
  refine lv_tableOut (tgt := 87) hx hb dX3_ticket_12 (by omega) (by decide) ?_
  refine lv_aload_n hx hb dX3_ticket_87 rfl (lv_at hl 0 rfl) ?_
  refine va_get (D := D) (ci := 3) (v := .ref (a 0 0)) (C := RX3) (T := TX3) (N := 7) hx hb hts (h_X3_X3_ticket) hown hK hP 0 rfl rfl 1 (by decide) (z_w hts 1 rfl) (fun _ h9 => h9) rfl dX3_ticket_88 ?_
  refine va_get (D := D) (ci := 1) (v := .ref (a 0 9)) (C := RX1) (T := TX1) (N := 13) hx hb hts (h_X1_X3_ticket) hown hK hP 8 rfl rfl 12 (by decide) (z_w hts 5 rfl) (fun _ h9 => h9) rfl dX3_ticket_91 ?_
  refine lv_iload_n hx hb dX3_ticket_94 rfl (lv_at hl 1 rfl) ?_
  obtain ⟨h8, hw⟩ := hw
  refine va_lald hx hb hK hP 17 3 rfl rfl h8 dX3_ticket_95 ?_
  refine W.widen (k := 2) (n := 12) (Nat.le_of_ble_eq_true rfl) (Nat.le_of_ble_eq_true rfl) (vx_ret ?_)
  exact W.lret (v := (u1_3 0).2 x1.toNatClampNeg) hx hb hr (fun t ht hW => ⟨⟨(u1_3 0).2 x1.toNatClampNeg, (u1_0, u1_1, u1_2, u1_3), rfl, hw, by rw [ht]; exact hP, hD⟩, hS.F ht⟩) hS.2.2 dX3_ticket_96 hlocks
set_option maxHeartbeats 4000000 in
set_option maxRecDepth 100000 in
theorem c_X3_ticket (l : Launch) (hfl : l.stackTraces = false) (D : va_G) (cs : Nat → ClassId) (x : Nat → Nat) (tq : Nat → Nat) (h : Nat → Nat) (a : Nat → Nat → Nat) (sz : Nat) (sa : Nat → Nat) (S : XO) (tx : TS) (hs : HS) (Ls : (Nat → LnS)) (x1 : Int32) (x2 : Int32) (Q : Int64 → XO → TS → HS → (Nat → LnS) → Prop) (QX : String → XO → TS → HS → (Nat → LnS) → Prop) (hw : wp_X3_ticket S tx hs Ls x1 x2 Q QX) : vx_Met l yX3_ticket wsX3_ticket ({ frames := 7, cells := 2, slots := 12, locals := 104 } : Room) (va_Pc [.ref (x 0), .int x1, .int x2] (PX D cs (w_Xo cs x tq h a S ++ w_Text cs tq tx ++ w_Hist cs h a hs ++ linesW cs a 18 Ls) sa sz)) (va_Ql (fun r (u : XO × TS × HS × (Nat → LnS)) => Q r u.1 u.2.1 u.2.2.1 u.2.2.2) (fun (u : XO × TS × HS × (Nat → LnS)) t => va_P D vwCl (w_Xo cs x tq h a u.1 ++ w_Text cs tq u.2.1 ++ w_Hist cs h a u.2.2.1 ++ linesW cs a 18 u.2.2.2) t.heap ∧ va_D (va_A (w_Xo cs x tq h a S ++ w_Text cs tq tx ++ w_Hist cs h a hs ++ linesW cs a 18 Ls) sz) (w_Xo cs x tq h a u.1 ++ w_Text cs tq u.2.1 ++ w_Hist cs h a u.2.2.1 ++ linesW cs a 18 u.2.2.2)) (va_A (w_Xo cs x tq h a S ++ w_Text cs tq tx ++ w_Hist cs h a hs ++ linesW cs a 18 Ls) sz)) (vx_X (fun (_ : XO × TS × HS × (Nat → LnS)) => True) (fun E (u : XO × TS × HS × (Nat → LnS)) t => QX E u.1 u.2.1 u.2.2.1 u.2.2.2 ∧ va_P D vwCl (w_Xo cs x tq h a u.1 ++ w_Text cs tq u.2.1 ++ w_Hist cs h a u.2.2.1 ++ linesW cs a 18 u.2.2.2) t.heap ∧ va_D (va_A (w_Xo cs x tq h a S ++ w_Text cs tq tx ++ w_Hist cs h a hs ++ linesW cs a 18 Ls) sz) (w_Xo cs x tq h a u.1 ++ w_Text cs tq u.2.1 ++ w_Hist cs h a u.2.2.1 ++ linesW cs a 18 u.2.2.2)) (va_A (w_Xo cs x tq h a S ++ w_Text cs tq tx ++ w_Hist cs h a hs ++ linesW cs a 18 Ls) sz)) 2 12 (va_A (w_Xo cs x tq h a S ++ w_Text cs tq tx ++ w_Hist cs h a hs ++ linesW cs a 18 Ls) sz) := by
  refine vx_ofW (cc := cX3_ticket) (maxL := 3) (ret := (some .long)) (by decide) rfl ?_
  intro p e s m args below meth c s₁ B hml hT0 hv
  obtain ⟨rfl, ⟨hsz, hP, hKK, hD0⟩, hTW, hTZ⟩ := hv
  have hC : MAt p s m _ meth c RX3 cX3_ticket 3 (some .long) wsX3_ticket D cs := ⟨B.exec, B.bytes, B.returns, hml, findClass_of_methodNamed B.named, atoms_spec (ws := wsX3_ticket) B.pre, B.notSynchronized, hKK⟩
  have hl := lv_entry ([.ref (x 0), .int x1, .int x2]) (n := 3) (Nat.le_of_ble_eq_true rfl)
  rw [lg_entry_eq]
  generalize (lg_sl ([.ref (x 0), .int x1, .int x2]) ++ List.replicate (3 - (lg_sl ([.ref (x 0), .int x1, .int x2])).length) Slot.unset).toArray = ls at hl ⊢
  subst hsz
  have hD := hD0.self (sz := s.heap.size)
  have hA : ∀ z : Nat, s.heap.size ≤ z → va_A (w_Xo cs x tq h a S ++ w_Text cs tq tx ++ w_Hist cs h a hs ++ linesW cs a 18 Ls) s.heap.size z := fun z h => Or.inr h
  exact t_X3_ticket hC hfl hT0 hTW hTZ x tq h a S tx hs Ls x1 x2 Q QX hA hw s.heap [] hP hD va_S.rf ls hl
theorem h_X1_X3_sorted : ∀ w ∈ u_ws RX1 TX1 13, w ∈ wsX3_sorted := fun _ h => List.mem_cons_of_mem _ (List.mem_append_left _ (List.mem_append_right _ h))
theorem h_X3_X3_sorted : ∀ w ∈ u_ws RX3 TX3 7, w ∈ wsX3_sorted := fun _ h => List.mem_cons_of_mem _ (List.mem_append_left _ (List.mem_append_left _ (List.mem_append_right _ h)))
set_option maxHeartbeats 4000000 in
set_option maxRecDepth 100000 in
theorem t_X3_sorted_7 {p : Program} {l : Launch} {e : Env} {s : State} {m : MethodId} {args : Array Value} {below : List Frame} {meth : Method} {c : Code} {D : va_G} {cs : Nat → ClassId} {A : Nat → Prop} (hC : MAt p s m args meth c RX3 cX3_sorted 3 (some .int) wsX3_sorted D cs) (hfl : l.stackTraces = false) (hT0 : ∀ x ∈ c.exceptionTable.toList, False) {sa : Nat → Nat} (hTW : TW sa s) (hTZ : TZ A s s.heap) (x : Nat → Nat) (tq : Nat → Nat) (h : Nat → Nat) (a : Nat → Nat → Nat) (S : XO) (tx : TS) (hs : HS) (Ls : (Nat → LnS)) (x1 : Int32) (Q : Int32 → XO → TS → HS → (Nat → LnS) → Prop) (QX : String → XO → TS → HS → (Nat → LnS) → Prop) (hA : ∀ q : Nat, s.heap.size ≤ q → A q) : ∀ (n : Nat) (x2 : Int32), wl_X3_sorted_7 S tx hs Ls x1 Q QX n x2 → ∀ (H : Heap) (locs : List Loc), va_P D vwCl (w_Xo cs x tq h a S ++ w_Text cs tq tx ++ w_Hist cs h a hs ++ linesW cs a 18 Ls) H → va_D A (w_Xo cs x tq h a S ++ w_Text cs tq tx ++ w_Hist cs h a hs ++ linesW cs a 18 Ls) → va_S A s.heap H locs → ∀ ls : Array Slot, lv_has ls 3 [(0, .ref (x 0)), (1, .int x1), (2, .int x2)] → W p l e ({ frames := 7, cells := 1, slots := 6, locals := 103 } : Room) s m args below meth c H locs 1 6 (vx_MQ below (va_Qi (fun r (u : XO × TS × HS × (Nat → LnS)) => Q r u.1 u.2.1 u.2.2.1 u.2.2.2) (fun (u : XO × TS × HS × (Nat → LnS)) t => va_P D vwCl (w_Xo cs x tq h a u.1 ++ w_Text cs tq u.2.1 ++ w_Hist cs h a u.2.2.1 ++ linesW cs a 18 u.2.2.2) t.heap ∧ va_D A (w_Xo cs x tq h a u.1 ++ w_Text cs tq u.2.1 ++ w_Hist cs h a u.2.2.1 ++ linesW cs a 18 u.2.2.2)) A) (vx_X (fun (_ : XO × TS × HS × (Nat → LnS)) => True) (fun E (u : XO × TS × HS × (Nat → LnS)) t => QX E u.1 u.2.1 u.2.2.1 u.2.2.2 ∧ va_P D vwCl (w_Xo cs x tq h a u.1 ++ w_Text cs tq u.2.1 ++ w_Hist cs h a u.2.2.1 ++ linesW cs a 18 u.2.2.2) t.heap ∧ va_D A (w_Xo cs x tq h a u.1 ++ w_Text cs tq u.2.1 ++ w_Hist cs h a u.2.2.1 ++ linesW cs a 18 u.2.2.2)) A) args s 1 6 A) (F0 m 7 ls []) := by
  obtain ⟨hx, hb, hr, hml, hown, hts, hlocks, hKK⟩ := id hC
  have hK := hKK.1
  intro n
  induction n with
  | zero =>
    intro x2 hw
    exact False.elim hw
  | succ n ih =>
    intro x2 hw H locs hP hD hS ls hl
    refine lv_iload_n hx hb dX3_sorted_7 rfl (lv_at hl 2 rfl) ?_
    refine lv_aload_n hx hb dX3_sorted_8 rfl (lv_at hl 0 rfl) ?_
    refine va_get (D := D) (ci := 3) (v := .ref (a 0 0)) (C := RX3) (T := TX3) (N := 7) hx hb hts (h_X3_X3_sorted) hown hK hP 0 rfl rfl 1 (by decide) (z_w hts 1 rfl) (fun _ h9 => h9) rfl dX3_sorted_9 ?_
    refine va_get (D := D) (ci := 1) (v := .int ((Ls 0).1 0 3)) (C := RX1) (T := TX1) (N := 13) hx hb hts (h_X1_X3_sorted) hown hK hP 8 rfl rfl 3 (by decide) (z_w hts 2 rfl) (fun _ h9 => h9) rfl dX3_sorted_12 ?_
    refine lv_icmp_ge (tgt := 38) hx hb dX3_sorted_15 (by decide) (fun c2 => ?_) (fun c2 => ?_)
    · have hw := hw.1 c2
      refine lv_iconst (v := (-1 : Int32)) hx hb dX3_sorted_38 (by decide) ?_
      refine W.widen (k := 1) (n := 6) (Nat.le_of_ble_eq_true rfl) (Nat.le_of_ble_eq_true rfl) (vx_ret ?_)
      exact W.iret (v := (-1 : Int32)) hx hb hr (fun t ht hW => ⟨⟨(-1 : Int32), (S, tx, hs, Ls), rfl, hw, by rw [ht]; exact hP, hD⟩, hS.F ht⟩) hS.2.2 dX3_sorted_39 hlocks
    · have hw := hw.2 c2
      refine lv_aload_n hx hb dX3_sorted_18 rfl (lv_at hl 0 rfl) ?_
      refine va_get (D := D) (ci := 3) (v := .ref (a 0 0)) (C := RX3) (T := TX3) (N := 7) hx hb hts (h_X3_X3_sorted) hown hK hP 0 rfl rfl 1 (by decide) (z_w hts 1 rfl) (fun _ h9 => h9) rfl dX3_sorted_19 ?_
      refine lv_iload_n hx hb dX3_sorted_22 rfl (lv_at hl 2 rfl) ?_
      have hPx := z_perm_P (lines_1 (cs := cs) (a := a) (n := 18) (i := 0) Ls (w_Xo cs x tq h a S ++ w_Text cs tq tx ++ w_Hist cs h a hs) (by decide)) hP
      have hDx := z_perm_D (lines_1 (cs := cs) (a := a) (n := 18) (i := 0) Ls (w_Xo cs x tq h a S ++ w_Text cs tq tx ++ w_Hist cs h a hs) (by decide)) hD
      have hPc := (z_app_P hPx).1
      have hDc := (z_app_D hDx).1
      refine z_calli (va_runV (As := [.int x2]) (rest := []) ⟨hx, hb, hml, hown, hts⟩ (c_X1_ticketsAheadOf l D cs (a 0) H.size (Ls 0) x2 _ hw) (cwV 1 hts gX3_sorted_X1_ticketsAheadOf rfl rfl rfl (by decide +kernel) ⟨Nat.le_of_ble_eq_true rfl, Nat.le_of_ble_eq_true rfl⟩) (PC_V hPc hDc hKK 0 1 rfl rfl) rfl rfl hl.1 rfl (lv_room (Nat.le_of_ble_eq_true rfl)) dX3_sorted_23 ⟨Nat.le_of_ble_eq_true rfl, Nat.le_of_ble_eq_true rfl⟩) (fun r3 hw => ?_)
      refine lv_iload_n hx hb dX3_sorted_26 rfl (lv_at hl 1 rfl) ?_
      refine lv_icmp_ne (tgt := 32) hx hb dX3_sorted_27 (by decide) (fun c4 => ?_) (fun c4 => ?_)
      · have hw := hw.2 c4
        refine lv_iinc (v := x2 + 1) (lv' := [(2, .int (x2 + 1)), (0, .ref (x 0)), (1, .int x1)]) hx hb dX3_sorted_32 hl (k := 2) rfl rfl (by decide) rfl (fun ls hl => ?_)
        refine lv_goto (tgt := 7) hx hb dX3_sorted_35 (by decide) ?_
        exact ih _ hw H locs hP hD hS ls (lv_sub hl [1, 2, 0] rfl)
      · have hw := hw.1 c4
        refine lv_iload_n hx hb dX3_sorted_30 rfl (lv_at hl 2 rfl) ?_
        refine W.widen (k := 1) (n := 6) (Nat.le_of_ble_eq_true rfl) (Nat.le_of_ble_eq_true rfl) (vx_ret ?_)
        exact W.iret (v := x2) hx hb hr (fun t ht hW => ⟨⟨x2, (S, tx, hs, Ls), rfl, hw, by rw [ht]; exact hP, hD⟩, hS.F ht⟩) hS.2.2 dX3_sorted_31 hlocks
set_option maxHeartbeats 4000000 in
set_option maxRecDepth 100000 in
theorem t_X3_sorted {p : Program} {l : Launch} {e : Env} {s : State} {m : MethodId} {args : Array Value} {below : List Frame} {meth : Method} {c : Code} {D : va_G} {cs : Nat → ClassId} {A : Nat → Prop} (hC : MAt p s m args meth c RX3 cX3_sorted 3 (some .int) wsX3_sorted D cs) (hfl : l.stackTraces = false) (hT0 : ∀ x ∈ c.exceptionTable.toList, False) {sa : Nat → Nat} (hTW : TW sa s) (hTZ : TZ A s s.heap) (x : Nat → Nat) (tq : Nat → Nat) (h : Nat → Nat) (a : Nat → Nat → Nat) (S : XO) (tx : TS) (hs : HS) (Ls : (Nat → LnS)) (x1 : Int32) (Q : Int32 → XO → TS → HS → (Nat → LnS) → Prop) (QX : String → XO → TS → HS → (Nat → LnS) → Prop) (hA : ∀ q : Nat, s.heap.size ≤ q → A q) (hw : wp_X3_sorted S tx hs Ls x1 Q QX) (H : Heap) (locs : List Loc) (hP : va_P D vwCl (w_Xo cs x tq h a S ++ w_Text cs tq tx ++ w_Hist cs h a hs ++ linesW cs a 18 Ls) H) (hD : va_D A (w_Xo cs x tq h a S ++ w_Text cs tq tx ++ w_Hist cs h a hs ++ linesW cs a 18 Ls)) (hS : va_S A s.heap H locs) (ls : Array Slot) (hl : lv_has ls 3 [(0, .ref (x 0)), (1, .int x1)]) : W p l e ({ frames := 7, cells := 1, slots := 6, locals := 103 } : Room) s m args below meth c H locs 0 0 (vx_MQ below (va_Qi (fun r (u : XO × TS × HS × (Nat → LnS)) => Q r u.1 u.2.1 u.2.2.1 u.2.2.2) (fun (u : XO × TS × HS × (Nat → LnS)) t => va_P D vwCl (w_Xo cs x tq h a u.1 ++ w_Text cs tq u.2.1 ++ w_Hist cs h a u.2.2.1 ++ linesW cs a 18 u.2.2.2) t.heap ∧ va_D A (w_Xo cs x tq h a u.1 ++ w_Text cs tq u.2.1 ++ w_Hist cs h a u.2.2.1 ++ linesW cs a 18 u.2.2.2)) A) (vx_X (fun (_ : XO × TS × HS × (Nat → LnS)) => True) (fun E (u : XO × TS × HS × (Nat → LnS)) t => QX E u.1 u.2.1 u.2.2.1 u.2.2.2 ∧ va_P D vwCl (w_Xo cs x tq h a u.1 ++ w_Text cs tq u.2.1 ++ w_Hist cs h a u.2.2.1 ++ linesW cs a 18 u.2.2.2) t.heap ∧ va_D A (w_Xo cs x tq h a u.1 ++ w_Text cs tq u.2.1 ++ w_Hist cs h a u.2.2.1 ++ linesW cs a 18 u.2.2.2)) A) args s 1 6 A) (F0 m 0 ls []) := by
  obtain ⟨hx, hb, hr, hml, hown, hts, hlocks, hKK⟩ := id hC
  have hK := hKK.1
  refine lv_aload_n hx hb dX3_sorted_0 rfl (lv_at hl 0 rfl) ?_
  refine lv_iload_n hx hb dX3_sorted_1 rfl (lv_at hl 1 rfl) ?_
  have hFc := z_free (wr := []) (by rw [List.append_nil]; exact hD) hS hA
  refine vx_callv (vx_runV (As := [.int x1]) (rest := []) ⟨hx, hb, hml, hown, hts⟩ (c_X3_requireTicket l hfl D cs x tq h a H.size sa S tx hs Ls x1 _ _ hw) (cwV 1 hts gX3_sorted_X3_requireTicket rfl rfl rfl (by decide +kernel) ⟨Nat.le_of_ble_eq_true rfl, Nat.le_of_ble_eq_true rfl⟩) (PX_V hP hD hKK hTW hTZ hS hFc 0 3 rfl rfl) rfl rfl hl.1 rfl (lv_room (Nat.le_of_ble_eq_true rfl)) dX3_sorted_2 ⟨Nat.le_of_ble_eq_true rfl, Nat.le_of_ble_eq_true rfl⟩) hS (fun q _ h => hFc q h) hFc (fun q _ h => hFc q h) ?_ (fun u1 t H locs ht hvm hw hB hz1 hk1 hS => ?_)
  · intro E ce q9 u1 t H locs ht hvm hpx hB hz1 hk1 hS hq9 hce hcl
    obtain ⟨u1_0, u1_1, u1_2, u1_3⟩ := u1
    obtain ⟨hw, hP1, hD1⟩ := hB
    rw [ht] at hP1
    have hD : va_D A (w_Xo cs x tq h a u1_0 ++ w_Text cs tq u1_1 ++ w_Hist cs h a u1_2 ++ linesW cs a 18 u1_3) := hD1.weaken (fun k q _ h => hFc q.1 h)
    have hP : va_P D vwCl (w_Xo cs x tq h a u1_0 ++ w_Text cs tq u1_1 ++ w_Hist cs h a u1_2 ++ linesW cs a 18 u1_3) H := hP1
    exact vx_out (fun x h => (hT0 x h).elim) hlocks hq9 hce hcl (fun t2 ht2 hvm2 => ⟨(u1_0, u1_1, u1_2, u1_3), trivial, ⟨hw, by rw [ht2]; exact hP, hD⟩, hS.F ht2⟩) hS.2.2 (Nat.le_of_ble_eq_true rfl) (Nat.le_of_ble_eq_true rfl)
  obtain ⟨u1_0, u1_1, u1_2, u1_3⟩ := u1
  obtain ⟨hP1, hD1⟩ := hB
  rw [ht] at hP1
  have hD : va_D A (w_Xo cs x tq h a u1_0 ++ w_Text cs tq u1_1 ++ w_Hist cs h a u1_2 ++ linesW cs a 18 u1_3) := hD1.weaken (fun k q _ h => hFc q.1 h)
  have hP : va_P D vwCl (w_Xo cs x tq h a u1_0 ++ w_Text cs tq u1_1 ++ w_Hist cs h a u1_2 ++ linesW cs a 18 u1_3) H := hP1
  refine lv_iconst (v := (0 : Int32)) hx hb dX3_sorted_5 (by decide) ?_
  refine lv_istore_n (lv' := [(2, .int (0 : Int32)), (0, .ref (x 0)), (1, .int x1)]) hx hb dX3_sorted_6 rfl hl (by decide) rfl (fun ls hl => ?_)
  obtain ⟨n5, hw⟩ := hw
  exact t_X3_sorted_7 hC hfl hT0 hTW hTZ x tq h a _ _ _ _ _ _ _ hA n5 _ hw H locs hP hD hS ls (lv_sub hl [1, 2, 0] rfl)
set_option maxHeartbeats 4000000 in
set_option maxRecDepth 100000 in
theorem c_X3_sorted (l : Launch) (hfl : l.stackTraces = false) (D : va_G) (cs : Nat → ClassId) (x : Nat → Nat) (tq : Nat → Nat) (h : Nat → Nat) (a : Nat → Nat → Nat) (sz : Nat) (sa : Nat → Nat) (S : XO) (tx : TS) (hs : HS) (Ls : (Nat → LnS)) (x1 : Int32) (Q : Int32 → XO → TS → HS → (Nat → LnS) → Prop) (QX : String → XO → TS → HS → (Nat → LnS) → Prop) (hw : wp_X3_sorted S tx hs Ls x1 Q QX) : vx_Met l yX3_sorted wsX3_sorted ({ frames := 7, cells := 1, slots := 6, locals := 103 } : Room) (va_Pc [.ref (x 0), .int x1] (PX D cs (w_Xo cs x tq h a S ++ w_Text cs tq tx ++ w_Hist cs h a hs ++ linesW cs a 18 Ls) sa sz)) (va_Qi (fun r (u : XO × TS × HS × (Nat → LnS)) => Q r u.1 u.2.1 u.2.2.1 u.2.2.2) (fun (u : XO × TS × HS × (Nat → LnS)) t => va_P D vwCl (w_Xo cs x tq h a u.1 ++ w_Text cs tq u.2.1 ++ w_Hist cs h a u.2.2.1 ++ linesW cs a 18 u.2.2.2) t.heap ∧ va_D (va_A (w_Xo cs x tq h a S ++ w_Text cs tq tx ++ w_Hist cs h a hs ++ linesW cs a 18 Ls) sz) (w_Xo cs x tq h a u.1 ++ w_Text cs tq u.2.1 ++ w_Hist cs h a u.2.2.1 ++ linesW cs a 18 u.2.2.2)) (va_A (w_Xo cs x tq h a S ++ w_Text cs tq tx ++ w_Hist cs h a hs ++ linesW cs a 18 Ls) sz)) (vx_X (fun (_ : XO × TS × HS × (Nat → LnS)) => True) (fun E (u : XO × TS × HS × (Nat → LnS)) t => QX E u.1 u.2.1 u.2.2.1 u.2.2.2 ∧ va_P D vwCl (w_Xo cs x tq h a u.1 ++ w_Text cs tq u.2.1 ++ w_Hist cs h a u.2.2.1 ++ linesW cs a 18 u.2.2.2) t.heap ∧ va_D (va_A (w_Xo cs x tq h a S ++ w_Text cs tq tx ++ w_Hist cs h a hs ++ linesW cs a 18 Ls) sz) (w_Xo cs x tq h a u.1 ++ w_Text cs tq u.2.1 ++ w_Hist cs h a u.2.2.1 ++ linesW cs a 18 u.2.2.2)) (va_A (w_Xo cs x tq h a S ++ w_Text cs tq tx ++ w_Hist cs h a hs ++ linesW cs a 18 Ls) sz)) 1 6 (va_A (w_Xo cs x tq h a S ++ w_Text cs tq tx ++ w_Hist cs h a hs ++ linesW cs a 18 Ls) sz) := by
  refine vx_ofW (cc := cX3_sorted) (maxL := 3) (ret := (some .int)) (by decide) rfl ?_
  intro p e s m args below meth c s₁ B hml hT0 hv
  obtain ⟨rfl, ⟨hsz, hP, hKK, hD0⟩, hTW, hTZ⟩ := hv
  have hC : MAt p s m _ meth c RX3 cX3_sorted 3 (some .int) wsX3_sorted D cs := ⟨B.exec, B.bytes, B.returns, hml, findClass_of_methodNamed B.named, atoms_spec (ws := wsX3_sorted) B.pre, B.notSynchronized, hKK⟩
  have hl := lv_entry ([.ref (x 0), .int x1]) (n := 3) (Nat.le_of_ble_eq_true rfl)
  rw [lg_entry_eq]
  generalize (lg_sl ([.ref (x 0), .int x1]) ++ List.replicate (3 - (lg_sl ([.ref (x 0), .int x1])).length) Slot.unset).toArray = ls at hl ⊢
  subst hsz
  have hD := hD0.self (sz := s.heap.size)
  have hA : ∀ z : Nat, s.heap.size ≤ z → va_A (w_Xo cs x tq h a S ++ w_Text cs tq tx ++ w_Hist cs h a hs ++ linesW cs a 18 Ls) s.heap.size z := fun z h => Or.inr h
  exact t_X3_sorted hC hfl hT0 hTW hTZ x tq h a S tx hs Ls x1 Q QX hA hw s.heap [] hP hD va_S.rf ls hl
theorem h_X1_X3_ranked : ∀ w ∈ u_ws RX1 TX1 13, w ∈ wsX3_ranked := fun _ h => List.mem_cons_of_mem _ (List.mem_append_left _ (List.mem_append_right _ h))
theorem h_X3_X3_ranked : ∀ w ∈ u_ws RX3 TX3 7, w ∈ wsX3_ranked := fun _ h => List.mem_cons_of_mem _ (List.mem_append_left _ (List.mem_append_left _ (List.mem_append_right _ h)))
set_option maxHeartbeats 4000000 in
set_option maxRecDepth 100000 in
theorem t_X3_ranked_7 {p : Program} {l : Launch} {e : Env} {s : State} {m : MethodId} {args : Array Value} {below : List Frame} {meth : Method} {c : Code} {D : va_G} {cs : Nat → ClassId} {A : Nat → Prop} (hC : MAt p s m args meth c RX3 cX3_ranked 4 (some .int) wsX3_ranked D cs) (hfl : l.stackTraces = false) (hT0 : ∀ x ∈ c.exceptionTable.toList, False) {sa : Nat → Nat} (hTW : TW sa s) (hTZ : TZ A s s.heap) (x : Nat → Nat) (tq : Nat → Nat) (h : Nat → Nat) (a : Nat → Nat → Nat) (S : XO) (tx : TS) (hs : HS) (Ls : (Nat → LnS)) (x1 : Int32) (x2 : Int32) (Q : Int32 → XO → TS → HS → (Nat → LnS) → Prop) (QX : String → XO → TS → HS → (Nat → LnS) → Prop) (hA : ∀ q : Nat, s.heap.size ≤ q → A q) : ∀ (n : Nat) (x3 : Int32), wl_X3_ranked_7 S tx hs Ls x1 x2 Q QX n x3 → ∀ (H : Heap) (locs : List Loc), va_P D vwCl (w_Xo cs x tq h a S ++ w_Text cs tq tx ++ w_Hist cs h a hs ++ linesW cs a 18 Ls) H → va_D A (w_Xo cs x tq h a S ++ w_Text cs tq tx ++ w_Hist cs h a hs ++ linesW cs a 18 Ls) → va_S A s.heap H locs → ∀ ls : Array Slot, lv_has ls 4 [(0, .ref (x 0)), (1, .int x1), (2, .int x2), (3, .int x3)] → W p l e ({ frames := 7, cells := 1, slots := 6, locals := 103 } : Room) s m args below meth c H locs 1 6 (vx_MQ below (va_Qi (fun r (u : XO × TS × HS × (Nat → LnS)) => Q r u.1 u.2.1 u.2.2.1 u.2.2.2) (fun (u : XO × TS × HS × (Nat → LnS)) t => va_P D vwCl (w_Xo cs x tq h a u.1 ++ w_Text cs tq u.2.1 ++ w_Hist cs h a u.2.2.1 ++ linesW cs a 18 u.2.2.2) t.heap ∧ va_D A (w_Xo cs x tq h a u.1 ++ w_Text cs tq u.2.1 ++ w_Hist cs h a u.2.2.1 ++ linesW cs a 18 u.2.2.2)) A) (vx_X (fun (_ : XO × TS × HS × (Nat → LnS)) => True) (fun E (u : XO × TS × HS × (Nat → LnS)) t => QX E u.1 u.2.1 u.2.2.1 u.2.2.2 ∧ va_P D vwCl (w_Xo cs x tq h a u.1 ++ w_Text cs tq u.2.1 ++ w_Hist cs h a u.2.2.1 ++ linesW cs a 18 u.2.2.2) t.heap ∧ va_D A (w_Xo cs x tq h a u.1 ++ w_Text cs tq u.2.1 ++ w_Hist cs h a u.2.2.1 ++ linesW cs a 18 u.2.2.2)) A) args s 1 6 A) (F0 m 7 ls []) := by
  obtain ⟨hx, hb, hr, hml, hown, hts, hlocks, hKK⟩ := id hC
  have hK := hKK.1
  intro n
  induction n with
  | zero =>
    intro x3 hw
    exact False.elim hw
  | succ n ih =>
    intro x3 hw H locs hP hD hS ls hl
    refine lv_iload_n hx hb dX3_ranked_7 rfl (lv_at hl 3 rfl) ?_
    refine lv_aload_n hx hb dX3_ranked_8 rfl (lv_at hl 0 rfl) ?_
    refine va_get (D := D) (ci := 3) (v := .ref (a 0 0)) (C := RX3) (T := TX3) (N := 7) hx hb hts (h_X3_X3_ranked) hown hK hP 0 rfl rfl 1 (by decide) (z_w hts 1 rfl) (fun _ h9 => h9) rfl dX3_ranked_9 ?_
    refine va_get (D := D) (ci := 1) (v := .int ((Ls 0).1 0 0)) (C := RX1) (T := TX1) (N := 13) hx hb hts (h_X1_X3_ranked) hown hK hP 8 rfl rfl 0 (by decide) (z_w hts 2 rfl) (fun _ h9 => h9) rfl dX3_ranked_12 ?_
    refine lv_icmp_ge (tgt := 39) hx hb dX3_ranked_15 (by decide) (fun c2 => ?_) (fun c2 => ?_)
    · have hw := hw.1 c2
      refine lv_iconst (v := (-1 : Int32)) hx hb dX3_ranked_39 (by decide) ?_
      refine W.widen (k := 1) (n := 6) (Nat.le_of_ble_eq_true rfl) (Nat.le_of_ble_eq_true rfl) (vx_ret ?_)
      exact W.iret (v := (-1 : Int32)) hx hb hr (fun t ht hW => ⟨⟨(-1 : Int32), (S, tx, hs, Ls), rfl, hw, by rw [ht]; exact hP, hD⟩, hS.F ht⟩) hS.2.2 dX3_ranked_40 hlocks
    · have hw := hw.2 c2
      refine lv_aload_n hx hb dX3_ranked_18 rfl (lv_at hl 0 rfl) ?_
      refine va_get (D := D) (ci := 3) (v := .ref (a 0 0)) (C := RX3) (T := TX3) (N := 7) hx hb hts (h_X3_X3_ranked) hown hK hP 0 rfl rfl 1 (by decide) (z_w hts 1 rfl) (fun _ h9 => h9) rfl dX3_ranked_19 ?_
      refine lv_iload_n hx hb dX3_ranked_22 rfl (lv_at hl 3 rfl) ?_
      refine lv_iload_n hx hb dX3_ranked_23 rfl (lv_at hl 2 rfl) ?_
      have hPx := z_perm_P (lines_1 (cs := cs) (a := a) (n := 18) (i := 0) Ls (w_Xo cs x tq h a S ++ w_Text cs tq tx ++ w_Hist cs h a hs) (by decide)) hP
      have hDx := z_perm_D (lines_1 (cs := cs) (a := a) (n := 18) (i := 0) Ls (w_Xo cs x tq h a S ++ w_Text cs tq tx ++ w_Hist cs h a hs) (by decide)) hD
      have hPc := (z_app_P hPx).1
      have hDc := (z_app_D hDx).1
      refine z_calli (va_runV (As := [.int x3, .int x2]) (rest := []) ⟨hx, hb, hml, hown, hts⟩ (c_X1_countersAheadOf l D cs (a 0) H.size (Ls 0) x3 x2 _ hw) (cwV 2 hts gX3_ranked_X1_countersAheadOf rfl rfl rfl (by decide +kernel) ⟨Nat.le_of_ble_eq_true rfl, Nat.le_of_ble_eq_true rfl⟩) (PC_V hPc hDc hKK 0 1 rfl rfl) rfl rfl hl.1 rfl (lv_room (Nat.le_of_ble_eq_true rfl)) dX3_ranked_24 ⟨Nat.le_of_ble_eq_true rfl, Nat.le_of_ble_eq_true rfl⟩) (fun r3 hw => ?_)
      refine lv_iload_n hx hb dX3_ranked_27 rfl (lv_at hl 1 rfl) ?_
      refine lv_icmp_ne (tgt := 33) hx hb dX3_ranked_28 (by decide) (fun c4 => ?_) (fun c4 => ?_)
      · have hw := hw.2 c4
        refine lv_iinc (v := x3 + 1) (lv' := [(3, .int (x3 + 1)), (0, .ref (x 0)), (1, .int x1), (2, .int x2)]) hx hb dX3_ranked_33 hl (k := 3) rfl rfl (by decide) rfl (fun ls hl => ?_)
        refine lv_goto (tgt := 7) hx hb dX3_ranked_36 (by decide) ?_
        exact ih _ hw H locs hP hD hS ls (lv_sub hl [1, 2, 3, 0] rfl)
      · have hw := hw.1 c4
        refine lv_iload_n hx hb dX3_ranked_31 rfl (lv_at hl 3 rfl) ?_
        refine W.widen (k := 1) (n := 6) (Nat.le_of_ble_eq_true rfl) (Nat.le_of_ble_eq_true rfl) (vx_ret ?_)
        exact W.iret (v := x3) hx hb hr (fun t ht hW => ⟨⟨x3, (S, tx, hs, Ls), rfl, hw, by rw [ht]; exact hP, hD⟩, hS.F ht⟩) hS.2.2 dX3_ranked_32 hlocks
set_option maxHeartbeats 4000000 in
set_option maxRecDepth 100000 in
theorem t_X3_ranked {p : Program} {l : Launch} {e : Env} {s : State} {m : MethodId} {args : Array Value} {below : List Frame} {meth : Method} {c : Code} {D : va_G} {cs : Nat → ClassId} {A : Nat → Prop} (hC : MAt p s m args meth c RX3 cX3_ranked 4 (some .int) wsX3_ranked D cs) (hfl : l.stackTraces = false) (hT0 : ∀ x ∈ c.exceptionTable.toList, False) {sa : Nat → Nat} (hTW : TW sa s) (hTZ : TZ A s s.heap) (x : Nat → Nat) (tq : Nat → Nat) (h : Nat → Nat) (a : Nat → Nat → Nat) (S : XO) (tx : TS) (hs : HS) (Ls : (Nat → LnS)) (x1 : Int32) (x2 : Int32) (Q : Int32 → XO → TS → HS → (Nat → LnS) → Prop) (QX : String → XO → TS → HS → (Nat → LnS) → Prop) (hA : ∀ q : Nat, s.heap.size ≤ q → A q) (hw : wp_X3_ranked S tx hs Ls x1 x2 Q QX) (H : Heap) (locs : List Loc) (hP : va_P D vwCl (w_Xo cs x tq h a S ++ w_Text cs tq tx ++ w_Hist cs h a hs ++ linesW cs a 18 Ls) H) (hD : va_D A (w_Xo cs x tq h a S ++ w_Text cs tq tx ++ w_Hist cs h a hs ++ linesW cs a 18 Ls)) (hS : va_S A s.heap H locs) (ls : Array Slot) (hl : lv_has ls 4 [(0, .ref (x 0)), (1, .int x1), (2, .int x2)]) : W p l e ({ frames := 7, cells := 1, slots := 6, locals := 103 } : Room) s m args below meth c H locs 0 0 (vx_MQ below (va_Qi (fun r (u : XO × TS × HS × (Nat → LnS)) => Q r u.1 u.2.1 u.2.2.1 u.2.2.2) (fun (u : XO × TS × HS × (Nat → LnS)) t => va_P D vwCl (w_Xo cs x tq h a u.1 ++ w_Text cs tq u.2.1 ++ w_Hist cs h a u.2.2.1 ++ linesW cs a 18 u.2.2.2) t.heap ∧ va_D A (w_Xo cs x tq h a u.1 ++ w_Text cs tq u.2.1 ++ w_Hist cs h a u.2.2.1 ++ linesW cs a 18 u.2.2.2)) A) (vx_X (fun (_ : XO × TS × HS × (Nat → LnS)) => True) (fun E (u : XO × TS × HS × (Nat → LnS)) t => QX E u.1 u.2.1 u.2.2.1 u.2.2.2 ∧ va_P D vwCl (w_Xo cs x tq h a u.1 ++ w_Text cs tq u.2.1 ++ w_Hist cs h a u.2.2.1 ++ linesW cs a 18 u.2.2.2) t.heap ∧ va_D A (w_Xo cs x tq h a u.1 ++ w_Text cs tq u.2.1 ++ w_Hist cs h a u.2.2.1 ++ linesW cs a 18 u.2.2.2)) A) args s 1 6 A) (F0 m 0 ls []) := by
  obtain ⟨hx, hb, hr, hml, hown, hts, hlocks, hKK⟩ := id hC
  have hK := hKK.1
  refine lv_aload_n hx hb dX3_ranked_0 rfl (lv_at hl 0 rfl) ?_
  refine lv_iload_n hx hb dX3_ranked_1 rfl (lv_at hl 1 rfl) ?_
  have hFc := z_free (wr := []) (by rw [List.append_nil]; exact hD) hS hA
  refine vx_callv (vx_runV (As := [.int x1]) (rest := []) ⟨hx, hb, hml, hown, hts⟩ (c_X3_requireCounter l hfl D cs x tq h a H.size sa S tx hs Ls x1 _ _ hw) (cwV 1 hts gX3_ranked_X3_requireCounter rfl rfl rfl (by decide +kernel) ⟨Nat.le_of_ble_eq_true rfl, Nat.le_of_ble_eq_true rfl⟩) (PX_V hP hD hKK hTW hTZ hS hFc 0 3 rfl rfl) rfl rfl hl.1 rfl (lv_room (Nat.le_of_ble_eq_true rfl)) dX3_ranked_2 ⟨Nat.le_of_ble_eq_true rfl, Nat.le_of_ble_eq_true rfl⟩) hS (fun q _ h => hFc q h) hFc (fun q _ h => hFc q h) ?_ (fun u1 t H locs ht hvm hw hB hz1 hk1 hS => ?_)
  · intro E ce q9 u1 t H locs ht hvm hpx hB hz1 hk1 hS hq9 hce hcl
    obtain ⟨u1_0, u1_1, u1_2, u1_3⟩ := u1
    obtain ⟨hw, hP1, hD1⟩ := hB
    rw [ht] at hP1
    have hD : va_D A (w_Xo cs x tq h a u1_0 ++ w_Text cs tq u1_1 ++ w_Hist cs h a u1_2 ++ linesW cs a 18 u1_3) := hD1.weaken (fun k q _ h => hFc q.1 h)
    have hP : va_P D vwCl (w_Xo cs x tq h a u1_0 ++ w_Text cs tq u1_1 ++ w_Hist cs h a u1_2 ++ linesW cs a 18 u1_3) H := hP1
    exact vx_out (fun x h => (hT0 x h).elim) hlocks hq9 hce hcl (fun t2 ht2 hvm2 => ⟨(u1_0, u1_1, u1_2, u1_3), trivial, ⟨hw, by rw [ht2]; exact hP, hD⟩, hS.F ht2⟩) hS.2.2 (Nat.le_of_ble_eq_true rfl) (Nat.le_of_ble_eq_true rfl)
  obtain ⟨u1_0, u1_1, u1_2, u1_3⟩ := u1
  obtain ⟨hP1, hD1⟩ := hB
  rw [ht] at hP1
  have hD : va_D A (w_Xo cs x tq h a u1_0 ++ w_Text cs tq u1_1 ++ w_Hist cs h a u1_2 ++ linesW cs a 18 u1_3) := hD1.weaken (fun k q _ h => hFc q.1 h)
  have hP : va_P D vwCl (w_Xo cs x tq h a u1_0 ++ w_Text cs tq u1_1 ++ w_Hist cs h a u1_2 ++ linesW cs a 18 u1_3) H := hP1
  refine lv_iconst (v := (0 : Int32)) hx hb dX3_ranked_5 (by decide) ?_
  refine lv_istore_n (lv' := [(3, .int (0 : Int32)), (0, .ref (x 0)), (1, .int x1), (2, .int x2)]) hx hb dX3_ranked_6 rfl hl (by decide) rfl (fun ls hl => ?_)
  obtain ⟨n5, hw⟩ := hw
  exact t_X3_ranked_7 hC hfl hT0 hTW hTZ x tq h a _ _ _ _ _ _ _ _ hA n5 _ hw H locs hP hD hS ls (lv_sub hl [1, 2, 3, 0] rfl)
set_option maxHeartbeats 4000000 in
set_option maxRecDepth 100000 in
theorem c_X3_ranked (l : Launch) (hfl : l.stackTraces = false) (D : va_G) (cs : Nat → ClassId) (x : Nat → Nat) (tq : Nat → Nat) (h : Nat → Nat) (a : Nat → Nat → Nat) (sz : Nat) (sa : Nat → Nat) (S : XO) (tx : TS) (hs : HS) (Ls : (Nat → LnS)) (x1 : Int32) (x2 : Int32) (Q : Int32 → XO → TS → HS → (Nat → LnS) → Prop) (QX : String → XO → TS → HS → (Nat → LnS) → Prop) (hw : wp_X3_ranked S tx hs Ls x1 x2 Q QX) : vx_Met l yX3_ranked wsX3_ranked ({ frames := 7, cells := 1, slots := 6, locals := 103 } : Room) (va_Pc [.ref (x 0), .int x1, .int x2] (PX D cs (w_Xo cs x tq h a S ++ w_Text cs tq tx ++ w_Hist cs h a hs ++ linesW cs a 18 Ls) sa sz)) (va_Qi (fun r (u : XO × TS × HS × (Nat → LnS)) => Q r u.1 u.2.1 u.2.2.1 u.2.2.2) (fun (u : XO × TS × HS × (Nat → LnS)) t => va_P D vwCl (w_Xo cs x tq h a u.1 ++ w_Text cs tq u.2.1 ++ w_Hist cs h a u.2.2.1 ++ linesW cs a 18 u.2.2.2) t.heap ∧ va_D (va_A (w_Xo cs x tq h a S ++ w_Text cs tq tx ++ w_Hist cs h a hs ++ linesW cs a 18 Ls) sz) (w_Xo cs x tq h a u.1 ++ w_Text cs tq u.2.1 ++ w_Hist cs h a u.2.2.1 ++ linesW cs a 18 u.2.2.2)) (va_A (w_Xo cs x tq h a S ++ w_Text cs tq tx ++ w_Hist cs h a hs ++ linesW cs a 18 Ls) sz)) (vx_X (fun (_ : XO × TS × HS × (Nat → LnS)) => True) (fun E (u : XO × TS × HS × (Nat → LnS)) t => QX E u.1 u.2.1 u.2.2.1 u.2.2.2 ∧ va_P D vwCl (w_Xo cs x tq h a u.1 ++ w_Text cs tq u.2.1 ++ w_Hist cs h a u.2.2.1 ++ linesW cs a 18 u.2.2.2) t.heap ∧ va_D (va_A (w_Xo cs x tq h a S ++ w_Text cs tq tx ++ w_Hist cs h a hs ++ linesW cs a 18 Ls) sz) (w_Xo cs x tq h a u.1 ++ w_Text cs tq u.2.1 ++ w_Hist cs h a u.2.2.1 ++ linesW cs a 18 u.2.2.2)) (va_A (w_Xo cs x tq h a S ++ w_Text cs tq tx ++ w_Hist cs h a hs ++ linesW cs a 18 Ls) sz)) 1 6 (va_A (w_Xo cs x tq h a S ++ w_Text cs tq tx ++ w_Hist cs h a hs ++ linesW cs a 18 Ls) sz) := by
  refine vx_ofW (cc := cX3_ranked) (maxL := 4) (ret := (some .int)) (by decide) rfl ?_
  intro p e s m args below meth c s₁ B hml hT0 hv
  obtain ⟨rfl, ⟨hsz, hP, hKK, hD0⟩, hTW, hTZ⟩ := hv
  have hC : MAt p s m _ meth c RX3 cX3_ranked 4 (some .int) wsX3_ranked D cs := ⟨B.exec, B.bytes, B.returns, hml, findClass_of_methodNamed B.named, atoms_spec (ws := wsX3_ranked) B.pre, B.notSynchronized, hKK⟩
  have hl := lv_entry ([.ref (x 0), .int x1, .int x2]) (n := 4) (Nat.le_of_ble_eq_true rfl)
  rw [lg_entry_eq]
  generalize (lg_sl ([.ref (x 0), .int x1, .int x2]) ++ List.replicate (4 - (lg_sl ([.ref (x 0), .int x1, .int x2])).length) Slot.unset).toArray = ls at hl ⊢
  subst hsz
  have hD := hD0.self (sz := s.heap.size)
  have hA : ∀ z : Nat, s.heap.size ≤ z → va_A (w_Xo cs x tq h a S ++ w_Text cs tq tx ++ w_Hist cs h a hs ++ linesW cs a 18 Ls) s.heap.size z := fun z h => Or.inr h
  exact t_X3_ranked hC hfl hT0 hTW hTZ x tq h a S tx hs Ls x1 x2 Q QX hA hw s.heap [] hP hD va_S.rf ls hl
theorem h_X3_X3_add : ∀ w ∈ u_ws RX3 TX3 7, w ∈ wsX3_add := fun _ h => List.mem_cons_of_mem _ (List.mem_append_left _ (List.mem_append_left _ (List.mem_append_left _ (List.mem_append_left _ (List.mem_append_left _ (List.mem_append_right _ h))))))
set_option maxHeartbeats 4000000 in
set_option maxRecDepth 100000 in
theorem t_X3_add {p : Program} {l : Launch} {e : Env} {s : State} {m : MethodId} {args : Array Value} {below : List Frame} {meth : Method} {c : Code} {D : va_G} {cs : Nat → ClassId} {A : Nat → Prop} (hC : MAt p s m args meth c RX3 cX3_add 3 (some .int) wsX3_add D cs) (hfl : l.stackTraces = false) (hT0 : ∀ x ∈ c.exceptionTable.toList, False) {sa : Nat → Nat} (hTW : TW sa s) (hTZ : TZ A s s.heap) (x : Nat → Nat) (tq : Nat → Nat) (h : Nat → Nat) (a : Nat → Nat → Nat) (S : XO) (tx : TS) (hs : HS) (Ls : (Nat → LnS)) (x1 : Int32) (x2 : Int32) (Q : Int32 → XO → TS → HS → (Nat → LnS) → Prop) (QX : String → XO → TS → HS → (Nat → LnS) → Prop) (hA : ∀ q : Nat, s.heap.size ≤ q → A q) (hw : wp_X3_add S tx hs Ls x1 x2 Q QX) (H : Heap) (locs : List Loc) (hP : va_P D vwCl (w_Xo cs x tq h a S ++ w_Text cs tq tx ++ w_Hist cs h a hs ++ linesW cs a 18 Ls) H) (hD : va_D A (w_Xo cs x tq h a S ++ w_Text cs tq tx ++ w_Hist cs h a hs ++ linesW cs a 18 Ls)) (hS : va_S A s.heap H locs) (ls : Array Slot) (hl : lv_has ls 3 [(0, .ref (x 0)), (1, .int x1), (2, .int x2)]) : W p l e ({ frames := 7, cells := 3, slots := 18, locals := 104 } : Room) s m args below meth c H locs 0 0 (vx_MQ below (va_Qi (fun r (u : XO × TS × HS × (Nat → LnS)) => Q r u.1 u.2.1 u.2.2.1 u.2.2.2) (fun (u : XO × TS × HS × (Nat → LnS)) t => va_P D vwCl (w_Xo cs x tq h a u.1 ++ w_Text cs tq u.2.1 ++ w_Hist cs h a u.2.2.1 ++ linesW cs a 18 u.2.2.2) t.heap ∧ va_D A (w_Xo cs x tq h a u.1 ++ w_Text cs tq u.2.1 ++ w_Hist cs h a u.2.2.1 ++ linesW cs a 18 u.2.2.2)) A) (vx_X (fun (_ : XO × TS × HS × (Nat → LnS)) => True) (fun E (u : XO × TS × HS × (Nat → LnS)) t => QX E u.1 u.2.1 u.2.2.1 u.2.2.2 ∧ va_P D vwCl (w_Xo cs x tq h a u.1 ++ w_Text cs tq u.2.1 ++ w_Hist cs h a u.2.2.1 ++ linesW cs a 18 u.2.2.2) t.heap ∧ va_D A (w_Xo cs x tq h a u.1 ++ w_Text cs tq u.2.1 ++ w_Hist cs h a u.2.2.1 ++ linesW cs a 18 u.2.2.2)) A) args s 3 18 A) (F0 m 0 ls []) := by
  obtain ⟨hx, hb, hr, hml, hown, hts, hlocks, hKK⟩ := id hC
  have hK := hKK.1
  refine lv_aload_n hx hb dX3_add_0 rfl (lv_at hl 0 rfl) ?_
  refine lv_iload_n hx hb dX3_add_1 rfl (lv_at hl 1 rfl) ?_
  have hFc := z_free (wr := []) (by rw [List.append_nil]; exact hD) hS hA
  refine vx_callv (vx_runV (As := [.int x1]) (rest := []) ⟨hx, hb, hml, hown, hts⟩ (c_X3_requireCounter l hfl D cs x tq h a H.size sa S tx hs Ls x1 _ _ hw) (cwV 1 hts gX3_add_X3_requireCounter rfl rfl rfl (by decide +kernel) ⟨Nat.le_of_ble_eq_true rfl, Nat.le_of_ble_eq_true rfl⟩) (PX_V hP hD hKK hTW hTZ hS hFc 0 3 rfl rfl) rfl rfl hl.1 rfl (lv_room (Nat.le_of_ble_eq_true rfl)) dX3_add_2 ⟨Nat.le_of_ble_eq_true rfl, Nat.le_of_ble_eq_true rfl⟩) hS (fun q _ h => hFc q h) hFc (fun q _ h => hFc q h) ?_ (fun u1 t H locs ht hvm hw hB hz1 hk1 hS => ?_)
  · intro E ce q9 u1 t H locs ht hvm hpx hB hz1 hk1 hS hq9 hce hcl
    obtain ⟨u1_0, u1_1, u1_2, u1_3⟩ := u1
    obtain ⟨hw, hP1, hD1⟩ := hB
    rw [ht] at hP1
    have hD : va_D A (w_Xo cs x tq h a u1_0 ++ w_Text cs tq u1_1 ++ w_Hist cs h a u1_2 ++ linesW cs a 18 u1_3) := hD1.weaken (fun k q _ h => hFc q.1 h)
    have hP : va_P D vwCl (w_Xo cs x tq h a u1_0 ++ w_Text cs tq u1_1 ++ w_Hist cs h a u1_2 ++ linesW cs a 18 u1_3) H := hP1
    exact vx_out (fun x h => (hT0 x h).elim) hlocks hq9 hce hcl (fun t2 ht2 hvm2 => ⟨(u1_0, u1_1, u1_2, u1_3), trivial, ⟨hw, by rw [ht2]; exact hP, hD⟩, hS.F ht2⟩) hS.2.2 (Nat.le_of_ble_eq_true rfl) (Nat.le_of_ble_eq_true rfl)
  obtain ⟨u1_0, u1_1, u1_2, u1_3⟩ := u1
  obtain ⟨hP1, hD1⟩ := hB
  rw [ht] at hP1
  have hD : va_D A (w_Xo cs x tq h a u1_0 ++ w_Text cs tq u1_1 ++ w_Hist cs h a u1_2 ++ linesW cs a 18 u1_3) := hD1.weaken (fun k q _ h => hFc q.1 h)
  have hP : va_P D vwCl (w_Xo cs x tq h a u1_0 ++ w_Text cs tq u1_1 ++ w_Hist cs h a u1_2 ++ linesW cs a 18 u1_3) H := hP1
  refine lv_iload_n hx hb dX3_add_5 rfl (lv_at hl 2 rfl) ?_
  refine lv_sipush (v := (-19682 : Int32)) hx hb dX3_add_6 (by decide) ?_
  refine lv_sipush (v := (19682 : Int32)) hx hb dX3_add_9 (by decide) ?_
  have hPc : va_P D vwCl ([] : va_W) H := z_nilP
  have hDc : va_D A ([] : va_W) := z_nilD
  have hFc := z_free (wc := []) hD hS hA
  refine vx_callv (vx_runS (As := [.int x2, .int (-19682 : Int32), .int (19682 : Int32)]) (rest := []) ⟨hx, hb, hml, hown, hts⟩ (c_X3_requireRange l hfl D cs  H.size sa x2 (-19682 : Int32) (19682 : Int32) _ _ hw) (va_cwS 3 hts gX3_add_X3_requireRange rfl rfl rfl (by decide +kernel) ⟨Nat.le_of_ble_eq_true rfl, Nat.le_of_ble_eq_true rfl⟩) (PX_S hPc hDc hKK hTW hTZ hS hFc) rfl rfl hl.1 rfl (lv_room (Nat.le_of_ble_eq_true rfl)) dX3_add_12 ⟨Nat.le_of_ble_eq_true rfl, Nat.le_of_ble_eq_true rfl⟩) hS (fun q _ h => hFc q h) hFc (fun q _ h => hFc q h) ?_ (fun u2 t H locs ht hvm hw hB hz1 hk1 hS => ?_)
  · intro E ce q9 u2 t H locs ht hvm hpx hB hz1 hk1 hS hq9 hce hcl
    obtain ⟨hw, hP1, hD1⟩ := hB
    rw [ht] at hP1
    obtain ⟨hP, hD⟩ := z_join (wc := []) hP hD hk1 hFc hP1 hD1
    have hP : va_P D vwCl (w_Xo cs x tq h a u1_0 ++ w_Text cs tq u1_1 ++ w_Hist cs h a u1_2 ++ linesW cs a 18 u1_3) H := hP
    have hD : va_D A (w_Xo cs x tq h a u1_0 ++ w_Text cs tq u1_1 ++ w_Hist cs h a u1_2 ++ linesW cs a 18 u1_3) := hD
    exact vx_out (fun x h => (hT0 x h).elim) hlocks hq9 hce hcl (fun t2 ht2 hvm2 => ⟨(u1_0, u1_1, u1_2, u1_3), trivial, ⟨hw, by rw [ht2]; exact hP, hD⟩, hS.F ht2⟩) hS.2.2 (Nat.le_of_ble_eq_true rfl) (Nat.le_of_ble_eq_true rfl)
  obtain ⟨hP1, hD1⟩ := hB
  rw [ht] at hP1
  obtain ⟨hP, hD⟩ := z_join (wc := []) hP hD hk1 hFc hP1 hD1
  have hP : va_P D vwCl (w_Xo cs x tq h a u1_0 ++ w_Text cs tq u1_1 ++ w_Hist cs h a u1_2 ++ linesW cs a 18 u1_3) H := hP
  have hD : va_D A (w_Xo cs x tq h a u1_0 ++ w_Text cs tq u1_1 ++ w_Hist cs h a u1_2 ++ linesW cs a 18 u1_3) := hD
  refine lv_aload_n hx hb dX3_add_15 rfl (lv_at hl 0 rfl) ?_
  refine va_get (D := D) (ci := 3) (v := .ref (a 0 0)) (C := RX3) (T := TX3) (N := 7) hx hb hts (h_X3_X3_add) hown hK hP 0 rfl rfl 1 (by decide) (z_w hts 3 rfl) (fun _ h9 => h9) rfl dX3_add_16 ?_
  refine lv_iload_n hx hb dX3_add_19 rfl (lv_at hl 1 rfl) ?_
  refine lv_iload_n hx hb dX3_add_20 rfl (lv_at hl 2 rfl) ?_
  have hPx := z_perm_P (lines_1 (cs := cs) (a := a) (n := 18) (i := 0) u1_3 (w_Xo cs x tq h a u1_0 ++ w_Text cs tq u1_1 ++ w_Hist cs h a u1_2) (by decide)) hP
  have hDx := z_perm_D (lines_1 (cs := cs) (a := a) (n := 18) (i := 0) u1_3 (w_Xo cs x tq h a u1_0 ++ w_Text cs tq u1_1 ++ w_Hist cs h a u1_2) (by decide)) hD
  have hPc := (z_app_P hPx).1
  have hDc := (z_app_D hDx).1
  refine z_calli (va_runV (As := [.int x1, .int x2]) (rest := []) ⟨hx, hb, hml, hown, hts⟩ (c_X1_hasPlacesFor l D cs (a 0) H.size (u1_3 0) x1 x2 _ hw) (cwV 2 hts gX3_add_X1_hasPlacesFor rfl rfl rfl (by decide +kernel) ⟨Nat.le_of_ble_eq_true rfl, Nat.le_of_ble_eq_true rfl⟩) (PC_V hPc hDc hKK 0 1 rfl rfl) rfl rfl hl.1 rfl (lv_room (Nat.le_of_ble_eq_true rfl)) dX3_add_21 ⟨Nat.le_of_ble_eq_true rfl, Nat.le_of_ble_eq_true rfl⟩) (fun r3 hw => ?_)
  obtain ⟨b3, hw⟩ := hw
  refine lv_if_ne (tgt := 37) hx hb dX3_add_24 (by decide) (fun c4 => ?_) (fun c4 => ?_)
  · have hw := hw.2 c4
    refine lv_aload_n hx hb dX3_add_37 rfl (lv_at hl 0 rfl) ?_
    refine va_get (D := D) (ci := 3) (v := .ref (h 0)) (C := RX3) (T := TX3) (N := 7) hx hb hts (h_X3_X3_add) hown hK hP 0 rfl rfl 2 (by decide) (z_w hts 4 rfl) (fun _ h9 => h9) rfl dX3_add_38 ?_
    refine lv_aload_n hx hb dX3_add_41 rfl (lv_at hl 0 rfl) ?_
    refine va_get (D := D) (ci := 3) (v := .ref (a 0 0)) (C := RX3) (T := TX3) (N := 7) hx hb hts (h_X3_X3_add) hown hK hP 0 rfl rfl 1 (by decide) (z_w hts 3 rfl) (fun _ h9 => h9) rfl dX3_add_42 ?_
    have hPx := z_perm_P z_rot hP
    have hDx := z_perm_D z_rot hD
    have hPc := (z_app_P hPx).1
    have hDc := (z_app_D hDx).1
    have hFc := z_free hDx hS hA
    refine va_callv (va_runV (As := [.ref (a 0 0)]) (rest := []) ⟨hx, hb, hml, hown, hts⟩ (c_X0_remember l D cs h a H.size u1_2 u1_3 _ hw) (cwV 1 hts gX3_add_X0_remember rfl rfl rfl (by decide +kernel) ⟨Nat.le_of_ble_eq_true rfl, Nat.le_of_ble_eq_true rfl⟩) (PC_V hPc hDc hKK 0 0 rfl rfl) rfl rfl hl.1 rfl (lv_room (Nat.le_of_ble_eq_true rfl)) dX3_add_45 ⟨Nat.le_of_ble_eq_true rfl, Nat.le_of_ble_eq_true rfl⟩) hS (fun q _ h => hFc q h) hFc (fun u5 t H locs ht hvm hw hB hz1 hk1 hS => ?_)
    obtain ⟨u5_0, u5_1⟩ := u5
    obtain ⟨hP1, hD1⟩ := hB
    rw [ht] at hP1
    obtain ⟨hPx, hDx⟩ := z_join hPx hDx hk1 hFc hP1 hD1
    have hP : va_P D vwCl (w_Xo cs x tq h a u1_0 ++ w_Text cs tq u1_1 ++ w_Hist cs h a u5_0 ++ linesW cs a 18 u5_1) H := z_perm_P z_rotb hPx
    have hD : va_D A (w_Xo cs x tq h a u1_0 ++ w_Text cs tq u1_1 ++ w_Hist cs h a u5_0 ++ linesW cs a 18 u5_1) := z_perm_D z_rotb hDx
    refine lv_aload_n hx hb dX3_add_48 rfl (lv_at hl 0 rfl) ?_
    refine va_get (D := D) (ci := 3) (v := .ref (a 0 0)) (C := RX3) (T := TX3) (N := 7) hx hb hts (h_X3_X3_add) hown hK hP 0 rfl rfl 1 (by decide) (z_w hts 3 rfl) (fun _ h9 => h9) rfl dX3_add_49 ?_
    refine lv_iload_n hx hb dX3_add_52 rfl (lv_at hl 1 rfl) ?_
    refine lv_iload_n hx hb dX3_add_53 rfl (lv_at hl 2 rfl) ?_
    have hPx := z_perm_P (lines_1 (cs := cs) (a := a) (n := 18) (i := 0) u5_1 (w_Xo cs x tq h a u1_0 ++ w_Text cs tq u1_1 ++ w_Hist cs h a u5_0) (by decide)) hP
    have hDx := z_perm_D (lines_1 (cs := cs) (a := a) (n := 18) (i := 0) u5_1 (w_Xo cs x tq h a u1_0 ++ w_Text cs tq u1_1 ++ w_Hist cs h a u5_0) (by decide)) hD
    have hPc := (z_app_P hPx).1
    have hDc := (z_app_D hDx).1
    have hFc := z_free hDx hS hA
    refine va_calli (va_runV (As := [.int x1, .int x2]) (rest := []) ⟨hx, hb, hml, hown, hts⟩ (c_X1_putDigits l D cs (a 0) H.size (u5_1 0) x1 x2 _ hw) (cwV 2 hts gX3_add_X1_putDigits rfl rfl rfl (by decide +kernel) ⟨Nat.le_of_ble_eq_true rfl, Nat.le_of_ble_eq_true rfl⟩) (PC_V hPc hDc hKK 0 1 rfl rfl) rfl rfl hl.1 rfl (lv_room (Nat.le_of_ble_eq_true rfl)) dX3_add_54 ⟨Nat.le_of_ble_eq_true rfl, Nat.le_of_ble_eq_true rfl⟩) hS (fun q _ h => hFc q h) hFc (fun r6 u6 t H locs ht hvm hw hB hz1 hk1 hS => ?_)
    obtain ⟨hP1, hD1⟩ := hB
    rw [ht] at hP1
    obtain ⟨hPx, hDx⟩ := z_join hPx hDx hk1 hFc hP1 hD1
    have hP : va_P D vwCl (w_Xo cs x tq h a u1_0 ++ w_Text cs tq u1_1 ++ w_Hist cs h a u5_0 ++ linesW cs a 18 (va_up u5_1 0 u6)) H := z_perm_P (lines_1b (cs := cs) (a := a) (n := 18) (i := 0) u5_1 (w_Xo cs x tq h a u1_0 ++ w_Text cs tq u1_1 ++ w_Hist cs h a u5_0) (by decide) u6) hPx
    have hD : va_D A (w_Xo cs x tq h a u1_0 ++ w_Text cs tq u1_1 ++ w_Hist cs h a u5_0 ++ linesW cs a 18 (va_up u5_1 0 u6)) := z_perm_D (lines_1b (cs := cs) (a := a) (n := 18) (i := 0) u5_1 (w_Xo cs x tq h a u1_0 ++ w_Text cs tq u1_1 ++ w_Hist cs h a u5_0) (by decide) u6) hDx
    refine W.widen (k := 3) (n := 18) (Nat.le_of_ble_eq_true rfl) (Nat.le_of_ble_eq_true rfl) (vx_ret ?_)
    exact W.iret (v := r6) hx hb hr (fun t ht hW => ⟨⟨r6, (u1_0, u1_1, u5_0, va_up u5_1 0 u6), rfl, hw, by rw [ht]; exact hP, hD⟩, hS.F ht⟩) hS.2.2 dX3_add_57 hlocks
  · have hw := hw.1 c4
    exact vx_throwS hx hb hfl hown (by decide +kernel) (by decide +kernel) (z_w hts 1 rfl) (z_w hts 2 rfl) (show vk_R RX3 176 "more digits than places" (sa 3) s from hTW.1 3 (by decide)) (vx_hat (fun w h => hts w (List.mem_cons_of_mem _ (List.mem_append_left _ (List.mem_append_left _ (List.mem_append_right _ h))))) zb_eISE (vx_c (va_Nw.use rfl hTW.2.1) (vx_c (va_Nw.use rfl hTW.2.2.2.2.2.2.2.2.2.2.1) (vx_c (va_Nw.use rfl hTW.2.2.2.2.2.2.2.2.2.2.2.1) (vx_c (va_Nw.use rfl hTW.2.2.2.2.2.2.2.2.2.2.2.2) vx_n))))) zh_eISE hTZ.1 hTZ.2 hS (hl.1.trans hml.symm) dX3_add_27 dX3_add_30 dX3_add_31 dX3_add_33 dX3_add_36 (fun x h => (hT0 x h).elim) (Nat.le_of_ble_eq_true rfl) (Nat.le_of_ble_eq_true rfl) (Nat.le_of_ble_eq_true rfl) (Nat.le_of_ble_eq_true rfl) hlocks (fun t ha hz hk => ⟨(u1_0, u1_1, u1_2, u1_3), trivial, ⟨hw, hP.kept (fun k q hq => hk q.1 (hP k q hq).lt), hD⟩, ⟨Nat.le_trans hS.1 hz, fun q h1 h2 => (hk q (Nat.lt_of_lt_of_le h1 hS.1)).trans (hS.2.1 q h1 h2)⟩⟩) hS.2.2 (Nat.le_of_ble_eq_true rfl) (Nat.le_of_ble_eq_true rfl)
set_option maxHeartbeats 4000000 in
set_option maxRecDepth 100000 in
theorem c_X3_add (l : Launch) (hfl : l.stackTraces = false) (D : va_G) (cs : Nat → ClassId) (x : Nat → Nat) (tq : Nat → Nat) (h : Nat → Nat) (a : Nat → Nat → Nat) (sz : Nat) (sa : Nat → Nat) (S : XO) (tx : TS) (hs : HS) (Ls : (Nat → LnS)) (x1 : Int32) (x2 : Int32) (Q : Int32 → XO → TS → HS → (Nat → LnS) → Prop) (QX : String → XO → TS → HS → (Nat → LnS) → Prop) (hw : wp_X3_add S tx hs Ls x1 x2 Q QX) : vx_Met l yX3_add wsX3_add ({ frames := 7, cells := 3, slots := 18, locals := 104 } : Room) (va_Pc [.ref (x 0), .int x1, .int x2] (PX D cs (w_Xo cs x tq h a S ++ w_Text cs tq tx ++ w_Hist cs h a hs ++ linesW cs a 18 Ls) sa sz)) (va_Qi (fun r (u : XO × TS × HS × (Nat → LnS)) => Q r u.1 u.2.1 u.2.2.1 u.2.2.2) (fun (u : XO × TS × HS × (Nat → LnS)) t => va_P D vwCl (w_Xo cs x tq h a u.1 ++ w_Text cs tq u.2.1 ++ w_Hist cs h a u.2.2.1 ++ linesW cs a 18 u.2.2.2) t.heap ∧ va_D (va_A (w_Xo cs x tq h a S ++ w_Text cs tq tx ++ w_Hist cs h a hs ++ linesW cs a 18 Ls) sz) (w_Xo cs x tq h a u.1 ++ w_Text cs tq u.2.1 ++ w_Hist cs h a u.2.2.1 ++ linesW cs a 18 u.2.2.2)) (va_A (w_Xo cs x tq h a S ++ w_Text cs tq tx ++ w_Hist cs h a hs ++ linesW cs a 18 Ls) sz)) (vx_X (fun (_ : XO × TS × HS × (Nat → LnS)) => True) (fun E (u : XO × TS × HS × (Nat → LnS)) t => QX E u.1 u.2.1 u.2.2.1 u.2.2.2 ∧ va_P D vwCl (w_Xo cs x tq h a u.1 ++ w_Text cs tq u.2.1 ++ w_Hist cs h a u.2.2.1 ++ linesW cs a 18 u.2.2.2) t.heap ∧ va_D (va_A (w_Xo cs x tq h a S ++ w_Text cs tq tx ++ w_Hist cs h a hs ++ linesW cs a 18 Ls) sz) (w_Xo cs x tq h a u.1 ++ w_Text cs tq u.2.1 ++ w_Hist cs h a u.2.2.1 ++ linesW cs a 18 u.2.2.2)) (va_A (w_Xo cs x tq h a S ++ w_Text cs tq tx ++ w_Hist cs h a hs ++ linesW cs a 18 Ls) sz)) 3 18 (va_A (w_Xo cs x tq h a S ++ w_Text cs tq tx ++ w_Hist cs h a hs ++ linesW cs a 18 Ls) sz) := by
  refine vx_ofW (cc := cX3_add) (maxL := 3) (ret := (some .int)) (by decide) rfl ?_
  intro p e s m args below meth c s₁ B hml hT0 hv
  obtain ⟨rfl, ⟨hsz, hP, hKK, hD0⟩, hTW, hTZ⟩ := hv
  have hC : MAt p s m _ meth c RX3 cX3_add 3 (some .int) wsX3_add D cs := ⟨B.exec, B.bytes, B.returns, hml, findClass_of_methodNamed B.named, atoms_spec (ws := wsX3_add) B.pre, B.notSynchronized, hKK⟩
  have hl := lv_entry ([.ref (x 0), .int x1, .int x2]) (n := 3) (Nat.le_of_ble_eq_true rfl)
  rw [lg_entry_eq]
  generalize (lg_sl ([.ref (x 0), .int x1, .int x2]) ++ List.replicate (3 - (lg_sl ([.ref (x 0), .int x1, .int x2])).length) Slot.unset).toArray = ls at hl ⊢
  subst hsz
  have hD := hD0.self (sz := s.heap.size)
  have hA : ∀ z : Nat, s.heap.size ≤ z → va_A (w_Xo cs x tq h a S ++ w_Text cs tq tx ++ w_Hist cs h a hs ++ linesW cs a 18 Ls) s.heap.size z := fun z h => Or.inr h
  exact t_X3_add hC hfl hT0 hTW hTZ x tq h a S tx hs Ls x1 x2 Q QX hA hw s.heap [] hP hD va_S.rf ls hl
theorem h_X1_X3_draw : ∀ w ∈ u_ws RX1 TX1 13, w ∈ wsX3_draw := fun _ h => List.mem_cons_of_mem _ (List.mem_append_left _ (List.mem_append_left _ (List.mem_append_left _ (List.mem_append_right _ h))))
theorem h_X3_X3_draw : ∀ w ∈ u_ws RX3 TX3 7, w ∈ wsX3_draw := fun _ h => List.mem_cons_of_mem _ (List.mem_append_left _ (List.mem_append_left _ (List.mem_append_left _ (List.mem_append_left _ (List.mem_append_right _ h)))))
set_option maxHeartbeats 4000000 in
set_option maxRecDepth 100000 in
theorem t_X3_draw {p : Program} {l : Launch} {e : Env} {s : State} {m : MethodId} {args : Array Value} {below : List Frame} {meth : Method} {c : Code} {D : va_G} {cs : Nat → ClassId} {A : Nat → Prop} (hC : MAt p s m args meth c RX3 cX3_draw 2 (some .int) wsX3_draw D cs) (hfl : l.stackTraces = false) (hT0 : ∀ x ∈ c.exceptionTable.toList, False) {sa : Nat → Nat} (hTW : TW sa s) (hTZ : TZ A s s.heap) (x : Nat → Nat) (tq : Nat → Nat) (h : Nat → Nat) (a : Nat → Nat → Nat) (S : XO) (tx : TS) (hs : HS) (Ls : (Nat → LnS)) (x1 : Int32) (Q : Int32 → XO → TS → HS → (Nat → LnS) → Prop) (QX : String → XO → TS → HS → (Nat → LnS) → Prop) (hA : ∀ q : Nat, s.heap.size ≤ q → A q) (hw : wp_X3_draw S tx hs Ls x1 Q QX) (H : Heap) (locs : List Loc) (hP : va_P D vwCl (w_Xo cs x tq h a S ++ w_Text cs tq tx ++ w_Hist cs h a hs ++ linesW cs a 18 Ls) H) (hD : va_D A (w_Xo cs x tq h a S ++ w_Text cs tq tx ++ w_Hist cs h a hs ++ linesW cs a 18 Ls)) (hS : va_S A s.heap H locs) (ls : Array Slot) (hl : lv_has ls 2 [(0, .ref (x 0)), (1, .int x1)]) : W p l e ({ frames := 7, cells := 2, slots := 12, locals := 103 } : Room) s m args below meth c H locs 0 0 (vx_MQ below (va_Qi (fun r (u : XO × TS × HS × (Nat → LnS)) => Q r u.1 u.2.1 u.2.2.1 u.2.2.2) (fun (u : XO × TS × HS × (Nat → LnS)) t => va_P D vwCl (w_Xo cs x tq h a u.1 ++ w_Text cs tq u.2.1 ++ w_Hist cs h a u.2.2.1 ++ linesW cs a 18 u.2.2.2) t.heap ∧ va_D A (w_Xo cs x tq h a u.1 ++ w_Text cs tq u.2.1 ++ w_Hist cs h a u.2.2.1 ++ linesW cs a 18 u.2.2.2)) A) (vx_X (fun (_ : XO × TS × HS × (Nat → LnS)) => True) (fun E (u : XO × TS × HS × (Nat → LnS)) t => QX E u.1 u.2.1 u.2.2.1 u.2.2.2 ∧ va_P D vwCl (w_Xo cs x tq h a u.1 ++ w_Text cs tq u.2.1 ++ w_Hist cs h a u.2.2.1 ++ linesW cs a 18 u.2.2.2) t.heap ∧ va_D A (w_Xo cs x tq h a u.1 ++ w_Text cs tq u.2.1 ++ w_Hist cs h a u.2.2.1 ++ linesW cs a 18 u.2.2.2)) A) args s 2 12 A) (F0 m 0 ls []) := by
  obtain ⟨hx, hb, hr, hml, hown, hts, hlocks, hKK⟩ := id hC
  have hK := hKK.1
  refine lv_aload_n hx hb dX3_draw_0 rfl (lv_at hl 0 rfl) ?_
  refine lv_iload_n hx hb dX3_draw_1 rfl (lv_at hl 1 rfl) ?_
  have hFc := z_free (wr := []) (by rw [List.append_nil]; exact hD) hS hA
  refine vx_callv (vx_runV (As := [.int x1]) (rest := []) ⟨hx, hb, hml, hown, hts⟩ (c_X3_requireCounter l hfl D cs x tq h a H.size sa S tx hs Ls x1 _ _ hw) (cwV 1 hts gX3_draw_X3_requireCounter rfl rfl rfl (by decide +kernel) ⟨Nat.le_of_ble_eq_true rfl, Nat.le_of_ble_eq_true rfl⟩) (PX_V hP hD hKK hTW hTZ hS hFc 0 3 rfl rfl) rfl rfl hl.1 rfl (lv_room (Nat.le_of_ble_eq_true rfl)) dX3_draw_2 ⟨Nat.le_of_ble_eq_true rfl, Nat.le_of_ble_eq_true rfl⟩) hS (fun q _ h => hFc q h) hFc (fun q _ h => hFc q h) ?_ (fun u1 t H locs ht hvm hw hB hz1 hk1 hS => ?_)
  · intro E ce q9 u1 t H locs ht hvm hpx hB hz1 hk1 hS hq9 hce hcl
    obtain ⟨u1_0, u1_1, u1_2, u1_3⟩ := u1
    obtain ⟨hw, hP1, hD1⟩ := hB
    rw [ht] at hP1
    have hD : va_D A (w_Xo cs x tq h a u1_0 ++ w_Text cs tq u1_1 ++ w_Hist cs h a u1_2 ++ linesW cs a 18 u1_3) := hD1.weaken (fun k q _ h => hFc q.1 h)
    have hP : va_P D vwCl (w_Xo cs x tq h a u1_0 ++ w_Text cs tq u1_1 ++ w_Hist cs h a u1_2 ++ linesW cs a 18 u1_3) H := hP1
    exact vx_out (fun x h => (hT0 x h).elim) hlocks hq9 hce hcl (fun t2 ht2 hvm2 => ⟨(u1_0, u1_1, u1_2, u1_3), trivial, ⟨hw, by rw [ht2]; exact hP, hD⟩, hS.F ht2⟩) hS.2.2 (Nat.le_of_ble_eq_true rfl) (Nat.le_of_ble_eq_true rfl)
  obtain ⟨u1_0, u1_1, u1_2, u1_3⟩ := u1
  obtain ⟨hP1, hD1⟩ := hB
  rw [ht] at hP1
  have hD : va_D A (w_Xo cs x tq h a u1_0 ++ w_Text cs tq u1_1 ++ w_Hist cs h a u1_2 ++ linesW cs a 18 u1_3) := hD1.weaken (fun k q _ h => hFc q.1 h)
  have hP : va_P D vwCl (w_Xo cs x tq h a u1_0 ++ w_Text cs tq u1_1 ++ w_Hist cs h a u1_2 ++ linesW cs a 18 u1_3) H := hP1
  refine lv_aload_n hx hb dX3_draw_5 rfl (lv_at hl 0 rfl) ?_
  refine va_get (D := D) (ci := 3) (v := .ref (a 0 0)) (C := RX3) (T := TX3) (N := 7) hx hb hts (h_X3_X3_draw) hown hK hP 0 rfl rfl 1 (by decide) (z_w hts 3 rfl) (fun _ h9 => h9) rfl dX3_draw_6 ?_
  refine va_get (D := D) (ci := 1) (v := .int ((u1_3 0).1 0 3)) (C := RX1) (T := TX1) (N := 13) hx hb hts (h_X1_X3_draw) hown hK hP 8 rfl rfl 3 (by decide) (z_w hts 4 rfl) (fun _ h9 => h9) rfl dX3_draw_9 ?_
  refine lv_bipush (v := (40 : Int32)) hx hb dX3_draw_12 (by decide) ?_
  refine lv_icmp_lt (tgt := 27) hx hb dX3_draw_14 (by decide) (fun c2 => ?_) (fun c2 => ?_)
  · have hw := hw.1 c2
    refine lv_aload_n hx hb dX3_draw_27 rfl (lv_at hl 0 rfl) ?_
    refine va_get (D := D) (ci := 3) (v := .ref (h 0)) (C := RX3) (T := TX3) (N := 7) hx hb hts (h_X3_X3_draw) hown hK hP 0 rfl rfl 2 (by decide) (z_w hts 5 rfl) (fun _ h9 => h9) rfl dX3_draw_28 ?_
    refine lv_aload_n hx hb dX3_draw_31 rfl (lv_at hl 0 rfl) ?_
    refine va_get (D := D) (ci := 3) (v := .ref (a 0 0)) (C := RX3) (T := TX3) (N := 7) hx hb hts (h_X3_X3_draw) hown hK hP 0 rfl rfl 1 (by decide) (z_w hts 3 rfl) (fun _ h9 => h9) rfl dX3_draw_32 ?_
    have hPx := z_perm_P z_rot hP
    have hDx := z_perm_D z_rot hD
    have hPc := (z_app_P hPx).1
    have hDc := (z_app_D hDx).1
    have hFc := z_free hDx hS hA
    refine va_callv (va_runV (As := [.ref (a 0 0)]) (rest := []) ⟨hx, hb, hml, hown, hts⟩ (c_X0_remember l D cs h a H.size u1_2 u1_3 _ hw) (cwV 1 hts gX3_draw_X0_remember rfl rfl rfl (by decide +kernel) ⟨Nat.le_of_ble_eq_true rfl, Nat.le_of_ble_eq_true rfl⟩) (PC_V hPc hDc hKK 0 0 rfl rfl) rfl rfl hl.1 rfl (lv_room (Nat.le_of_ble_eq_true rfl)) dX3_draw_35 ⟨Nat.le_of_ble_eq_true rfl, Nat.le_of_ble_eq_true rfl⟩) hS (fun q _ h => hFc q h) hFc (fun u3 t H locs ht hvm hw hB hz1 hk1 hS => ?_)
    obtain ⟨u3_0, u3_1⟩ := u3
    obtain ⟨hP1, hD1⟩ := hB
    rw [ht] at hP1
    obtain ⟨hPx, hDx⟩ := z_join hPx hDx hk1 hFc hP1 hD1
    have hP : va_P D vwCl (w_Xo cs x tq h a u1_0 ++ w_Text cs tq u1_1 ++ w_Hist cs h a u3_0 ++ linesW cs a 18 u3_1) H := z_perm_P z_rotb hPx
    have hD : va_D A (w_Xo cs x tq h a u1_0 ++ w_Text cs tq u1_1 ++ w_Hist cs h a u3_0 ++ linesW cs a 18 u3_1) := z_perm_D z_rotb hDx
    refine lv_aload_n hx hb dX3_draw_38 rfl (lv_at hl 0 rfl) ?_
    refine va_get (D := D) (ci := 3) (v := .ref (a 0 0)) (C := RX3) (T := TX3) (N := 7) hx hb hts (h_X3_X3_draw) hown hK hP 0 rfl rfl 1 (by decide) (z_w hts 3 rfl) (fun _ h9 => h9) rfl dX3_draw_39 ?_
    refine lv_iload_n hx hb dX3_draw_42 rfl (lv_at hl 1 rfl) ?_
    have hPx := z_perm_P (lines_1 (cs := cs) (a := a) (n := 18) (i := 0) u3_1 (w_Xo cs x tq h a u1_0 ++ w_Text cs tq u1_1 ++ w_Hist cs h a u3_0) (by decide)) hP
    have hDx := z_perm_D (lines_1 (cs := cs) (a := a) (n := 18) (i := 0) u3_1 (w_Xo cs x tq h a u1_0 ++ w_Text cs tq u1_1 ++ w_Hist cs h a u3_0) (by decide)) hD
    have hPc := (z_app_P hPx).1
    have hDc := (z_app_D hDx).1
    have hFc := z_free hDx hS hA
    refine va_calli (va_runV (As := [.int x1]) (rest := []) ⟨hx, hb, hml, hown, hts⟩ (c_X1_drawFrom l D cs (a 0) H.size (u3_1 0) x1 _ hw) (cwV 1 hts gX3_draw_X1_drawFrom rfl rfl rfl (by decide +kernel) ⟨Nat.le_of_ble_eq_true rfl, Nat.le_of_ble_eq_true rfl⟩) (PC_V hPc hDc hKK 0 1 rfl rfl) rfl rfl hl.1 rfl (lv_room (Nat.le_of_ble_eq_true rfl)) dX3_draw_43 ⟨Nat.le_of_ble_eq_true rfl, Nat.le_of_ble_eq_true rfl⟩) hS (fun q _ h => hFc q h) hFc (fun r4 u4 t H locs ht hvm hw hB hz1 hk1 hS => ?_)
    obtain ⟨hP1, hD1⟩ := hB
    rw [ht] at hP1
    obtain ⟨hPx, hDx⟩ := z_join hPx hDx hk1 hFc hP1 hD1
    have hP : va_P D vwCl (w_Xo cs x tq h a u1_0 ++ w_Text cs tq u1_1 ++ w_Hist cs h a u3_0 ++ linesW cs a 18 (va_up u3_1 0 u4)) H := z_perm_P (lines_1b (cs := cs) (a := a) (n := 18) (i := 0) u3_1 (w_Xo cs x tq h a u1_0 ++ w_Text cs tq u1_1 ++ w_Hist cs h a u3_0) (by decide) u4) hPx
    have hD : va_D A (w_Xo cs x tq h a u1_0 ++ w_Text cs tq u1_1 ++ w_Hist cs h a u3_0 ++ linesW cs a 18 (va_up u3_1 0 u4)) := z_perm_D (lines_1b (cs := cs) (a := a) (n := 18) (i := 0) u3_1 (w_Xo cs x tq h a u1_0 ++ w_Text cs tq u1_1 ++ w_Hist cs h a u3_0) (by decide) u4) hDx
    refine W.widen (k := 2) (n := 12) (Nat.le_of_ble_eq_true rfl) (Nat.le_of_ble_eq_true rfl) (vx_ret ?_)
    exact W.iret (v := r4) hx hb hr (fun t ht hW => ⟨⟨r4, (u1_0, u1_1, u3_0, va_up u3_1 0 u4), rfl, hw, by rw [ht]; exact hP, hD⟩, hS.F ht⟩) hS.2.2 dX3_draw_46 hlocks
  · have hw := hw.2 c2
    exact vx_throwS hx hb hfl hown (by decide +kernel) (by decide +kernel) (z_w hts 1 rfl) (z_w hts 2 rfl) (show vk_R RX3 184 "all tickets were drawn" (sa 4) s from hTW.1 4 (by decide)) (vx_hat (fun w h => hts w (List.mem_cons_of_mem _ (List.mem_append_left _ (List.mem_append_right _ h)))) zb_eISE (vx_c (va_Nw.use rfl hTW.2.1) (vx_c (va_Nw.use rfl hTW.2.2.2.2.2.2.2.2.2.2.1) (vx_c (va_Nw.use rfl hTW.2.2.2.2.2.2.2.2.2.2.2.1) (vx_c (va_Nw.use rfl hTW.2.2.2.2.2.2.2.2.2.2.2.2) vx_n))))) zh_eISE hTZ.1 hTZ.2 hS (hl.1.trans hml.symm) dX3_draw_17 dX3_draw_20 dX3_draw_21 dX3_draw_23 dX3_draw_26 (fun x h => (hT0 x h).elim) (Nat.le_of_ble_eq_true rfl) (Nat.le_of_ble_eq_true rfl) (Nat.le_of_ble_eq_true rfl) (Nat.le_of_ble_eq_true rfl) hlocks (fun t ha hz hk => ⟨(u1_0, u1_1, u1_2, u1_3), trivial, ⟨hw, hP.kept (fun k q hq => hk q.1 (hP k q hq).lt), hD⟩, ⟨Nat.le_trans hS.1 hz, fun q h1 h2 => (hk q (Nat.lt_of_lt_of_le h1 hS.1)).trans (hS.2.1 q h1 h2)⟩⟩) hS.2.2 (Nat.le_of_ble_eq_true rfl) (Nat.le_of_ble_eq_true rfl)
set_option maxHeartbeats 4000000 in
set_option maxRecDepth 100000 in
theorem c_X3_draw (l : Launch) (hfl : l.stackTraces = false) (D : va_G) (cs : Nat → ClassId) (x : Nat → Nat) (tq : Nat → Nat) (h : Nat → Nat) (a : Nat → Nat → Nat) (sz : Nat) (sa : Nat → Nat) (S : XO) (tx : TS) (hs : HS) (Ls : (Nat → LnS)) (x1 : Int32) (Q : Int32 → XO → TS → HS → (Nat → LnS) → Prop) (QX : String → XO → TS → HS → (Nat → LnS) → Prop) (hw : wp_X3_draw S tx hs Ls x1 Q QX) : vx_Met l yX3_draw wsX3_draw ({ frames := 7, cells := 2, slots := 12, locals := 103 } : Room) (va_Pc [.ref (x 0), .int x1] (PX D cs (w_Xo cs x tq h a S ++ w_Text cs tq tx ++ w_Hist cs h a hs ++ linesW cs a 18 Ls) sa sz)) (va_Qi (fun r (u : XO × TS × HS × (Nat → LnS)) => Q r u.1 u.2.1 u.2.2.1 u.2.2.2) (fun (u : XO × TS × HS × (Nat → LnS)) t => va_P D vwCl (w_Xo cs x tq h a u.1 ++ w_Text cs tq u.2.1 ++ w_Hist cs h a u.2.2.1 ++ linesW cs a 18 u.2.2.2) t.heap ∧ va_D (va_A (w_Xo cs x tq h a S ++ w_Text cs tq tx ++ w_Hist cs h a hs ++ linesW cs a 18 Ls) sz) (w_Xo cs x tq h a u.1 ++ w_Text cs tq u.2.1 ++ w_Hist cs h a u.2.2.1 ++ linesW cs a 18 u.2.2.2)) (va_A (w_Xo cs x tq h a S ++ w_Text cs tq tx ++ w_Hist cs h a hs ++ linesW cs a 18 Ls) sz)) (vx_X (fun (_ : XO × TS × HS × (Nat → LnS)) => True) (fun E (u : XO × TS × HS × (Nat → LnS)) t => QX E u.1 u.2.1 u.2.2.1 u.2.2.2 ∧ va_P D vwCl (w_Xo cs x tq h a u.1 ++ w_Text cs tq u.2.1 ++ w_Hist cs h a u.2.2.1 ++ linesW cs a 18 u.2.2.2) t.heap ∧ va_D (va_A (w_Xo cs x tq h a S ++ w_Text cs tq tx ++ w_Hist cs h a hs ++ linesW cs a 18 Ls) sz) (w_Xo cs x tq h a u.1 ++ w_Text cs tq u.2.1 ++ w_Hist cs h a u.2.2.1 ++ linesW cs a 18 u.2.2.2)) (va_A (w_Xo cs x tq h a S ++ w_Text cs tq tx ++ w_Hist cs h a hs ++ linesW cs a 18 Ls) sz)) 2 12 (va_A (w_Xo cs x tq h a S ++ w_Text cs tq tx ++ w_Hist cs h a hs ++ linesW cs a 18 Ls) sz) := by
  refine vx_ofW (cc := cX3_draw) (maxL := 2) (ret := (some .int)) (by decide) rfl ?_
  intro p e s m args below meth c s₁ B hml hT0 hv
  obtain ⟨rfl, ⟨hsz, hP, hKK, hD0⟩, hTW, hTZ⟩ := hv
  have hC : MAt p s m _ meth c RX3 cX3_draw 2 (some .int) wsX3_draw D cs := ⟨B.exec, B.bytes, B.returns, hml, findClass_of_methodNamed B.named, atoms_spec (ws := wsX3_draw) B.pre, B.notSynchronized, hKK⟩
  have hl := lv_entry ([.ref (x 0), .int x1]) (n := 2) (Nat.le_of_ble_eq_true rfl)
  rw [lg_entry_eq]
  generalize (lg_sl ([.ref (x 0), .int x1]) ++ List.replicate (2 - (lg_sl ([.ref (x 0), .int x1])).length) Slot.unset).toArray = ls at hl ⊢
  subst hsz
  have hD := hD0.self (sz := s.heap.size)
  have hA : ∀ z : Nat, s.heap.size ≤ z → va_A (w_Xo cs x tq h a S ++ w_Text cs tq tx ++ w_Hist cs h a hs ++ linesW cs a 18 Ls) s.heap.size z := fun z h => Or.inr h
  exact t_X3_draw hC hfl hT0 hTW hTZ x tq h a S tx hs Ls x1 Q QX hA hw s.heap [] hP hD va_S.rf ls hl

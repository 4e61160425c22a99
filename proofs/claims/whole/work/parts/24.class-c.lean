theorem h_X3_X3_beats : ∀ w ∈ u_ws RX3 TX3 7, w ∈ wsX3_beats := fun _ h => List.mem_cons_of_mem _ (List.mem_append_left _ (List.mem_append_left _ (List.mem_append_left _ (List.mem_append_right _ h))))
set_option maxHeartbeats 4000000 in
set_option maxRecDepth 100000 in
theorem t_X3_beats {p : Program} {l : Launch} {e : Env} {s : State} {m : MethodId} {args : Array Value} {below : List Frame} {meth : Method} {c : Code} {D : va_G} {cs : Nat → ClassId} {A : Nat → Prop} (hC : MAt p s m args meth c RX3 cX3_beats 2 (some .int) wsX3_beats D cs) (hfl : l.stackTraces = false) (hT0 : ∀ x ∈ c.exceptionTable.toList, False) {sa : Nat → Nat} (hTW : TW sa s) (hTZ : TZ A s s.heap) (x : Nat → Nat) (tq : Nat → Nat) (h : Nat → Nat) (a : Nat → Nat → Nat) (S : XO) (tx : TS) (hs : HS) (Ls : (Nat → LnS)) (x1 : Int32) (Q : Int32 → XO → TS → HS → (Nat → LnS) → Prop) (QX : String → XO → TS → HS → (Nat → LnS) → Prop) (hA : ∀ q : Nat, s.heap.size ≤ q → A q) (hw : wp_X3_beats S tx hs Ls x1 Q QX) (H : Heap) (locs : List Loc) (hP : va_P D vwCl (w_Xo cs x tq h a S ++ w_Text cs tq tx ++ w_Hist cs h a hs ++ linesW cs a 18 Ls) H) (hD : va_D A (w_Xo cs x tq h a S ++ w_Text cs tq tx ++ w_Hist cs h a hs ++ linesW cs a 18 Ls)) (hS : va_S A s.heap H locs) (ls : Array Slot) (hl : lv_has ls 2 [(0, .ref (x 0)), (1, .int x1)]) : W p l e ({ frames := 7, cells := 1, slots := 6, locals := 115 } : Room) s m args below meth c H locs 0 0 (vx_MQ below (va_Qi (fun r (u : XO × TS × HS × (Nat → LnS)) => Q r u.1 u.2.1 u.2.2.1 u.2.2.2) (fun (u : XO × TS × HS × (Nat → LnS)) t => va_P D vwCl (w_Xo cs x tq h a u.1 ++ w_Text cs tq u.2.1 ++ w_Hist cs h a u.2.2.1 ++ linesW cs a 18 u.2.2.2) t.heap ∧ va_D A (w_Xo cs x tq h a u.1 ++ w_Text cs tq u.2.1 ++ w_Hist cs h a u.2.2.1 ++ linesW cs a 18 u.2.2.2)) A) (vx_X (fun (_ : XO × TS × HS × (Nat → LnS)) => True) (fun E (u : XO × TS × HS × (Nat → LnS)) t => QX E u.1 u.2.1 u.2.2.1 u.2.2.2 ∧ va_P D vwCl (w_Xo cs x tq h a u.1 ++ w_Text cs tq u.2.1 ++ w_Hist cs h a u.2.2.1 ++ linesW cs a 18 u.2.2.2) t.heap ∧ va_D A (w_Xo cs x tq h a u.1 ++ w_Text cs tq u.2.1 ++ w_Hist cs h a u.2.2.1 ++ linesW cs a 18 u.2.2.2)) A) args s 1 6 A) (F0 m 0 ls []) := by
  obtain ⟨hx, hb, hr, hml, hown, hts, hlocks, hKK⟩ := id hC
  have hK := hKK.1
  refine lv_iload_n hx hb dX3_beats_0 rfl (lv_at hl 1 rfl) ?_
  refine lv_iconst (v := (1 : Int32)) hx hb dX3_beats_1 (by decide) ?_
  refine lv_bipush (v := (99 : Int32)) hx hb dX3_beats_2 (by decide) ?_
  have hPc : va_P D vwCl ([] : va_W) H := z_nilP
  have hDc : va_D A ([] : va_W) := z_nilD
  have hFc := z_free (wc := []) hD hS hA
  refine vx_callv (vx_runS (As := [.int x1, .int (1 : Int32), .int (99 : Int32)]) (rest := []) ⟨hx, hb, hml, hown, hts⟩ (c_X3_requireRange l hfl D cs  H.size sa x1 (1 : Int32) (99 : Int32) _ _ hw) (va_cwS 3 hts gX3_beats_X3_requireRange rfl rfl rfl (by decide +kernel) ⟨Nat.le_of_ble_eq_true rfl, Nat.le_of_ble_eq_true rfl⟩) (PX_S hPc hDc hKK hTW hTZ hS hFc) rfl rfl hl.1 rfl (lv_room (Nat.le_of_ble_eq_true rfl)) dX3_beats_4 ⟨Nat.le_of_ble_eq_true rfl, Nat.le_of_ble_eq_true rfl⟩) hS (fun q _ h => hFc q h) hFc (fun q _ h => hFc q h) ?_ (fun u1 t H locs ht hvm hw hB hz1 hk1 hS => ?_)
  · intro E ce q9 u1 t H locs ht hvm hpx hB hz1 hk1 hS hq9 hce hcl
    obtain ⟨hw, hP1, hD1⟩ := hB
    rw [ht] at hP1
    obtain ⟨hP, hD⟩ := z_join (wc := []) hP hD hk1 hFc hP1 hD1
    have hP : va_P D vwCl (w_Xo cs x tq h a S ++ w_Text cs tq tx ++ w_Hist cs h a hs ++ linesW cs a 18 Ls) H := hP
    have hD : va_D A (w_Xo cs x tq h a S ++ w_Text cs tq tx ++ w_Hist cs h a hs ++ linesW cs a 18 Ls) := hD
    exact vx_out (fun x h => (hT0 x h).elim) hlocks hq9 hce hcl (fun t2 ht2 hvm2 => ⟨(S, tx, hs, Ls), trivial, ⟨hw, by rw [ht2]; exact hP, hD⟩, hS.F ht2⟩) hS.2.2 (Nat.le_of_ble_eq_true rfl) (Nat.le_of_ble_eq_true rfl)
  obtain ⟨hP1, hD1⟩ := hB
  rw [ht] at hP1
  obtain ⟨hP, hD⟩ := z_join (wc := []) hP hD hk1 hFc hP1 hD1
  have hP : va_P D vwCl (w_Xo cs x tq h a S ++ w_Text cs tq tx ++ w_Hist cs h a hs ++ linesW cs a 18 Ls) H := hP
  have hD : va_D A (w_Xo cs x tq h a S ++ w_Text cs tq tx ++ w_Hist cs h a hs ++ linesW cs a 18 Ls) := hD
  refine lv_aload_n hx hb dX3_beats_7 rfl (lv_at hl 0 rfl) ?_
  refine va_get (D := D) (ci := 3) (v := .ref (h 0)) (C := RX3) (T := TX3) (N := 7) hx hb hts (h_X3_X3_beats) hown hK hP 0 rfl rfl 2 (by decide) (z_w hts 1 rfl) (fun _ h9 => h9) rfl dX3_beats_8 ?_
  refine lv_aload_n hx hb dX3_beats_11 rfl (lv_at hl 0 rfl) ?_
  refine va_get (D := D) (ci := 3) (v := .ref (a 0 0)) (C := RX3) (T := TX3) (N := 7) hx hb hts (h_X3_X3_beats) hown hK hP 0 rfl rfl 1 (by decide) (z_w hts 2 rfl) (fun _ h9 => h9) rfl dX3_beats_12 ?_
  have hPx := z_perm_P z_rot hP
  have hDx := z_perm_D z_rot hD
  have hPc := (z_app_P hPx).1
  have hDc := (z_app_D hDx).1
  have hFc := z_free hDx hS hA
  refine va_callv (va_runV (As := [.ref (a 0 0)]) (rest := []) ⟨hx, hb, hml, hown, hts⟩ (c_X0_remember l D cs h a H.size hs Ls _ hw) (cwV 1 hts gX3_beats_X0_remember rfl rfl rfl (by decide +kernel) ⟨Nat.le_of_ble_eq_true rfl, Nat.le_of_ble_eq_true rfl⟩) (PC_V hPc hDc hKK 0 0 rfl rfl) rfl rfl hl.1 rfl (lv_room (Nat.le_of_ble_eq_true rfl)) dX3_beats_15 ⟨Nat.le_of_ble_eq_true rfl, Nat.le_of_ble_eq_true rfl⟩) hS (fun q _ h => hFc q h) hFc (fun u2 t H locs ht hvm hw hB hz1 hk1 hS => ?_)
  obtain ⟨u2_0, u2_1⟩ := u2
  obtain ⟨hP1, hD1⟩ := hB
  rw [ht] at hP1
  obtain ⟨hPx, hDx⟩ := z_join hPx hDx hk1 hFc hP1 hD1
  have hP : va_P D vwCl (w_Xo cs x tq h a S ++ w_Text cs tq tx ++ w_Hist cs h a u2_0 ++ linesW cs a 18 u2_1) H := z_perm_P z_rotb hPx
  have hD : va_D A (w_Xo cs x tq h a S ++ w_Text cs tq tx ++ w_Hist cs h a u2_0 ++ linesW cs a 18 u2_1) := z_perm_D z_rotb hDx
  refine lv_aload_n hx hb dX3_beats_18 rfl (lv_at hl 0 rfl) ?_
  refine va_get (D := D) (ci := 3) (v := .ref (a 0 0)) (C := RX3) (T := TX3) (N := 7) hx hb hts (h_X3_X3_beats) hown hK hP 0 rfl rfl 1 (by decide) (z_w hts 2 rfl) (fun _ h9 => h9) rfl dX3_beats_19 ?_
  refine lv_iload_n hx hb dX3_beats_22 rfl (lv_at hl 1 rfl) ?_
  have hPx := z_perm_P (lines_1 (cs := cs) (a := a) (n := 18) (i := 0) u2_1 (w_Xo cs x tq h a S ++ w_Text cs tq tx ++ w_Hist cs h a u2_0) (by decide)) hP
  have hDx := z_perm_D (lines_1 (cs := cs) (a := a) (n := 18) (i := 0) u2_1 (w_Xo cs x tq h a S ++ w_Text cs tq tx ++ w_Hist cs h a u2_0) (by decide)) hD
  have hPc := (z_app_P hPx).1
  have hDc := (z_app_D hDx).1
  have hFc := z_free hDx hS hA
  refine va_callv (va_runV (As := [.int x1]) (rest := []) ⟨hx, hb, hml, hown, hts⟩ (c_X1_passBeats l D cs (a 0) H.size (u2_1 0) x1 _ hw) (cwV 1 hts gX3_beats_X1_passBeats rfl rfl rfl (by decide +kernel) ⟨Nat.le_of_ble_eq_true rfl, Nat.le_of_ble_eq_true rfl⟩) (PC_V hPc hDc hKK 0 1 rfl rfl) rfl rfl hl.1 rfl (lv_room (Nat.le_of_ble_eq_true rfl)) dX3_beats_23 ⟨Nat.le_of_ble_eq_true rfl, Nat.le_of_ble_eq_true rfl⟩) hS (fun q _ h => hFc q h) hFc (fun u3 t H locs ht hvm hw hB hz1 hk1 hS => ?_)
  obtain ⟨hP1, hD1⟩ := hB
  rw [ht] at hP1
  obtain ⟨hPx, hDx⟩ := z_join hPx hDx hk1 hFc hP1 hD1
  have hP : va_P D vwCl (w_Xo cs x tq h a S ++ w_Text cs tq tx ++ w_Hist cs h a u2_0 ++ linesW cs a 18 (va_up u2_1 0 u3)) H := z_perm_P (lines_1b (cs := cs) (a := a) (n := 18) (i := 0) u2_1 (w_Xo cs x tq h a S ++ w_Text cs tq tx ++ w_Hist cs h a u2_0) (by decide) u3) hPx
  have hD : va_D A (w_Xo cs x tq h a S ++ w_Text cs tq tx ++ w_Hist cs h a u2_0 ++ linesW cs a 18 (va_up u2_1 0 u3)) := z_perm_D (lines_1b (cs := cs) (a := a) (n := 18) (i := 0) u2_1 (w_Xo cs x tq h a S ++ w_Text cs tq tx ++ w_Hist cs h a u2_0) (by decide) u3) hDx
  refine lv_aload_n hx hb dX3_beats_26 rfl (lv_at hl 0 rfl) ?_
  refine va_get (D := D) (ci := 3) (v := .ref (a 0 0)) (C := RX3) (T := TX3) (N := 7) hx hb hts (h_X3_X3_beats) hown hK hP 0 rfl rfl 1 (by decide) (z_w hts 2 rfl) (fun _ h9 => h9) rfl dX3_beats_27 ?_
  have hPx := z_perm_P (lines_1 (cs := cs) (a := a) (n := 18) (i := 0) (va_up u2_1 0 u3) (w_Xo cs x tq h a S ++ w_Text cs tq tx ++ w_Hist cs h a u2_0) (by decide)) hP
  have hDx := z_perm_D (lines_1 (cs := cs) (a := a) (n := 18) (i := 0) (va_up u2_1 0 u3) (w_Xo cs x tq h a S ++ w_Text cs tq tx ++ w_Hist cs h a u2_0) (by decide)) hD
  have hPc := (z_app_P hPx).1
  have hDc := (z_app_D hDx).1
  refine z_calli (va_runV (As := []) (rest := []) ⟨hx, hb, hml, hown, hts⟩ (c_X1_countersAtRest l D cs (a 0) H.size u3 _ hw) (cwV 0 hts gX3_beats_X1_countersAtRest rfl rfl rfl (by decide +kernel) ⟨Nat.le_of_ble_eq_true rfl, Nat.le_of_ble_eq_true rfl⟩) (PC_V hPc hDc hKK 0 1 rfl rfl) rfl rfl hl.1 rfl (lv_room (Nat.le_of_ble_eq_true rfl)) dX3_beats_30 ⟨Nat.le_of_ble_eq_true rfl, Nat.le_of_ble_eq_true rfl⟩) (fun r4 hw => ?_)
  refine W.widen (k := 1) (n := 6) (Nat.le_of_ble_eq_true rfl) (Nat.le_of_ble_eq_true rfl) (vx_ret ?_)
  exact W.iret (v := r4) hx hb hr (fun t ht hW => ⟨⟨r4, (S, tx, u2_0, va_up u2_1 0 u3), rfl, hw, by rw [ht]; exact hP, hD⟩, hS.F ht⟩) hS.2.2 dX3_beats_33 hlocks
set_option maxHeartbeats 4000000 in
set_option maxRecDepth 100000 in
theorem c_X3_beats (l : Launch) (hfl : l.stackTraces = false) (D : va_G) (cs : Nat → ClassId) (x : Nat → Nat) (tq : Nat → Nat) (h : Nat → Nat) (a : Nat → Nat → Nat) (sz : Nat) (sa : Nat → Nat) (S : XO) (tx : TS) (hs : HS) (Ls : (Nat → LnS)) (x1 : Int32) (Q : Int32 → XO → TS → HS → (Nat → LnS) → Prop) (QX : String → XO → TS → HS → (Nat → LnS) → Prop) (hw : wp_X3_beats S tx hs Ls x1 Q QX) : vx_Met l yX3_beats wsX3_beats ({ frames := 7, cells := 1, slots := 6, locals := 115 } : Room) (va_Pc [.ref (x 0), .int x1] (PX D cs (w_Xo cs x tq h a S ++ w_Text cs tq tx ++ w_Hist cs h a hs ++ linesW cs a 18 Ls) sa sz)) (va_Qi (fun r (u : XO × TS × HS × (Nat → LnS)) => Q r u.1 u.2.1 u.2.2.1 u.2.2.2) (fun (u : XO × TS × HS × (Nat → LnS)) t => va_P D vwCl (w_Xo cs x tq h a u.1 ++ w_Text cs tq u.2.1 ++ w_Hist cs h a u.2.2.1 ++ linesW cs a 18 u.2.2.2) t.heap ∧ va_D (va_A (w_Xo cs x tq h a S ++ w_Text cs tq tx ++ w_Hist cs h a hs ++ linesW cs a 18 Ls) sz) (w_Xo cs x tq h a u.1 ++ w_Text cs tq u.2.1 ++ w_Hist cs h a u.2.2.1 ++ linesW cs a 18 u.2.2.2)) (va_A (w_Xo cs x tq h a S ++ w_Text cs tq tx ++ w_Hist cs h a hs ++ linesW cs a 18 Ls) sz)) (vx_X (fun (_ : XO × TS × HS × (Nat → LnS)) => True) (fun E (u : XO × TS × HS × (Nat → LnS)) t => QX E u.1 u.2.1 u.2.2.1 u.2.2.2 ∧ va_P D vwCl (w_Xo cs x tq h a u.1 ++ w_Text cs tq u.2.1 ++ w_Hist cs h a u.2.2.1 ++ linesW cs a 18 u.2.2.2) t.heap ∧ va_D (va_A (w_Xo cs x tq h a S ++ w_Text cs tq tx ++ w_Hist cs h a hs ++ linesW cs a 18 Ls) sz) (w_Xo cs x tq h a u.1 ++ w_Text cs tq u.2.1 ++ w_Hist cs h a u.2.2.1 ++ linesW cs a 18 u.2.2.2)) (va_A (w_Xo cs x tq h a S ++ w_Text cs tq tx ++ w_Hist cs h a hs ++ linesW cs a 18 Ls) sz)) 1 6 (va_A (w_Xo cs x tq h a S ++ w_Text cs tq tx ++ w_Hist cs h a hs ++ linesW cs a 18 Ls) sz) := by
  refine vx_ofW (cc := cX3_beats) (maxL := 2) (ret := (some .int)) (by decide) rfl ?_
  intro p e s m args below meth c s₁ B hml hT0 hv
  obtain ⟨rfl, ⟨hsz, hP, hKK, hD0⟩, hTW, hTZ⟩ := hv
  have hC : MAt p s m _ meth c RX3 cX3_beats 2 (some .int) wsX3_beats D cs := ⟨B.exec, B.bytes, B.returns, hml, findClass_of_methodNamed B.named, atoms_spec (ws := wsX3_beats) B.pre, B.notSynchronized, hKK⟩
  have hl := lv_entry ([.ref (x 0), .int x1]) (n := 2) (Nat.le_of_ble_eq_true rfl)
  rw [lg_entry_eq]
  generalize (lg_sl ([.ref (x 0), .int x1]) ++ List.replicate (2 - (lg_sl ([.ref (x 0), .int x1])).length) Slot.unset).toArray = ls at hl ⊢
  subst hsz
  have hD := hD0.self (sz := s.heap.size)
  have hA : ∀ z : Nat, s.heap.size ≤ z → va_A (w_Xo cs x tq h a S ++ w_Text cs tq tx ++ w_Hist cs h a hs ++ linesW cs a 18 Ls) s.heap.size z := fun z h => Or.inr h
  exact t_X3_beats hC hfl hT0 hTW hTZ x tq h a S tx hs Ls x1 Q QX hA hw s.heap [] hP hD va_S.rf ls hl
theorem h_X1_X3_setPace : ∀ w ∈ u_ws RX1 TX1 13, w ∈ wsX3_setPace := fun _ h => List.mem_cons_of_mem _ (List.mem_append_left _ (List.mem_append_left _ (List.mem_append_right _ h)))
theorem h_X3_X3_setPace : ∀ w ∈ u_ws RX3 TX3 7, w ∈ wsX3_setPace := fun _ h => List.mem_cons_of_mem _ (List.mem_append_left _ (List.mem_append_left _ (List.mem_append_left _ (List.mem_append_right _ h))))
set_option maxHeartbeats 4000000 in
set_option maxRecDepth 100000 in
theorem t_X3_setPace {p : Program} {l : Launch} {e : Env} {s : State} {m : MethodId} {args : Array Value} {below : List Frame} {meth : Method} {c : Code} {D : va_G} {cs : Nat → ClassId} {A : Nat → Prop} (hC : MAt p s m args meth c RX3 cX3_setPace 3 (some .int) wsX3_setPace D cs) (hfl : l.stackTraces = false) (hT0 : ∀ x ∈ c.exceptionTable.toList, False) {sa : Nat → Nat} (hTW : TW sa s) (hTZ : TZ A s s.heap) (x : Nat → Nat) (tq : Nat → Nat) (h : Nat → Nat) (a : Nat → Nat → Nat) (S : XO) (tx : TS) (hs : HS) (Ls : (Nat → LnS)) (x1 : Int32) (Q : Int32 → XO → TS → HS → (Nat → LnS) → Prop) (QX : String → XO → TS → HS → (Nat → LnS) → Prop) (hA : ∀ q : Nat, s.heap.size ≤ q → A q) (hw : wp_X3_setPace S tx hs Ls x1 Q QX) (H : Heap) (locs : List Loc) (hP : va_P D vwCl (w_Xo cs x tq h a S ++ w_Text cs tq tx ++ w_Hist cs h a hs ++ linesW cs a 18 Ls) H) (hD : va_D A (w_Xo cs x tq h a S ++ w_Text cs tq tx ++ w_Hist cs h a hs ++ linesW cs a 18 Ls)) (hS : va_S A s.heap H locs) (ls : Array Slot) (hl : lv_has ls 3 [(0, .ref (x 0)), (1, .int x1)]) : W p l e ({ frames := 7, cells := 1, slots := 6, locals := 104 } : Room) s m args below meth c H locs 0 0 (vx_MQ below (va_Qi (fun r (u : XO × TS × HS × (Nat → LnS)) => Q r u.1 u.2.1 u.2.2.1 u.2.2.2) (fun (u : XO × TS × HS × (Nat → LnS)) t => va_P D vwCl (w_Xo cs x tq h a u.1 ++ w_Text cs tq u.2.1 ++ w_Hist cs h a u.2.2.1 ++ linesW cs a 18 u.2.2.2) t.heap ∧ va_D A (w_Xo cs x tq h a u.1 ++ w_Text cs tq u.2.1 ++ w_Hist cs h a u.2.2.1 ++ linesW cs a 18 u.2.2.2)) A) (vx_X (fun (_ : XO × TS × HS × (Nat → LnS)) => True) (fun E (u : XO × TS × HS × (Nat → LnS)) t => QX E u.1 u.2.1 u.2.2.1 u.2.2.2 ∧ va_P D vwCl (w_Xo cs x tq h a u.1 ++ w_Text cs tq u.2.1 ++ w_Hist cs h a u.2.2.1 ++ linesW cs a 18 u.2.2.2) t.heap ∧ va_D A (w_Xo cs x tq h a u.1 ++ w_Text cs tq u.2.1 ++ w_Hist cs h a u.2.2.1 ++ linesW cs a 18 u.2.2.2)) A) args s 1 6 A) (F0 m 0 ls []) := by
  obtain ⟨hx, hb, hr, hml, hown, hts, hlocks, hKK⟩ := id hC
  have hK := hKK.1
  refine lv_iload_n hx hb dX3_setPace_0 rfl (lv_at hl 1 rfl) ?_
  refine lv_iconst (v := (1 : Int32)) hx hb dX3_setPace_1 (by decide) ?_
  refine lv_bipush (v := (9 : Int32)) hx hb dX3_setPace_2 (by decide) ?_
  have hPc : va_P D vwCl ([] : va_W) H := z_nilP
  have hDc : va_D A ([] : va_W) := z_nilD
  have hFc := z_free (wc := []) hD hS hA
  refine vx_callv (vx_runS (As := [.int x1, .int (1 : Int32), .int (9 : Int32)]) (rest := []) ⟨hx, hb, hml, hown, hts⟩ (c_X3_requireRange l hfl D cs  H.size sa x1 (1 : Int32) (9 : Int32) _ _ hw) (va_cwS 3 hts gX3_setPace_X3_requireRange rfl rfl rfl (by decide +kernel) ⟨Nat.le_of_ble_eq_true rfl, Nat.le_of_ble_eq_true rfl⟩) (PX_S hPc hDc hKK hTW hTZ hS hFc) rfl rfl hl.1 rfl (lv_room (Nat.le_of_ble_eq_true rfl)) dX3_setPace_4 ⟨Nat.le_of_ble_eq_true rfl, Nat.le_of_ble_eq_true rfl⟩) hS (fun q _ h => hFc q h) hFc (fun q _ h => hFc q h) ?_ (fun u1 t H locs ht hvm hw hB hz1 hk1 hS => ?_)
  · intro E ce q9 u1 t H locs ht hvm hpx hB hz1 hk1 hS hq9 hce hcl
    obtain ⟨hw, hP1, hD1⟩ := hB
    rw [ht] at hP1
    obtain ⟨hP, hD⟩ := z_join (wc := []) hP hD hk1 hFc hP1 hD1
    have hP : va_P D vwCl (w_Xo cs x tq h a S ++ w_Text cs tq tx ++ w_Hist cs h a hs ++ linesW cs a 18 Ls) H := hP
    have hD : va_D A (w_Xo cs x tq h a S ++ w_Text cs tq tx ++ w_Hist cs h a hs ++ linesW cs a 18 Ls) := hD
    exact vx_out (fun x h => (hT0 x h).elim) hlocks hq9 hce hcl (fun t2 ht2 hvm2 => ⟨(S, tx, hs, Ls), trivial, ⟨hw, by rw [ht2]; exact hP, hD⟩, hS.F ht2⟩) hS.2.2 (Nat.le_of_ble_eq_true rfl) (Nat.le_of_ble_eq_true rfl)
  obtain ⟨hP1, hD1⟩ := hB
  rw [ht] at hP1
  obtain ⟨hP, hD⟩ := z_join (wc := []) hP hD hk1 hFc hP1 hD1
  have hP : va_P D vwCl (w_Xo cs x tq h a S ++ w_Text cs tq tx ++ w_Hist cs h a hs ++ linesW cs a 18 Ls) H := hP
  have hD : va_D A (w_Xo cs x tq h a S ++ w_Text cs tq tx ++ w_Hist cs h a hs ++ linesW cs a 18 Ls) := hD
  refine lv_aload_n hx hb dX3_setPace_7 rfl (lv_at hl 0 rfl) ?_
  refine va_get (D := D) (ci := 3) (v := .ref (h 0)) (C := RX3) (T := TX3) (N := 7) hx hb hts (h_X3_X3_setPace) hown hK hP 0 rfl rfl 2 (by decide) (z_w hts 1 rfl) (fun _ h9 => h9) rfl dX3_setPace_8 ?_
  refine lv_aload_n hx hb dX3_setPace_11 rfl (lv_at hl 0 rfl) ?_
  refine va_get (D := D) (ci := 3) (v := .ref (a 0 0)) (C := RX3) (T := TX3) (N := 7) hx hb hts (h_X3_X3_setPace) hown hK hP 0 rfl rfl 1 (by decide) (z_w hts 2 rfl) (fun _ h9 => h9) rfl dX3_setPace_12 ?_
  have hPx := z_perm_P z_rot hP
  have hDx := z_perm_D z_rot hD
  have hPc := (z_app_P hPx).1
  have hDc := (z_app_D hDx).1
  have hFc := z_free hDx hS hA
  refine va_callv (va_runV (As := [.ref (a 0 0)]) (rest := []) ⟨hx, hb, hml, hown, hts⟩ (c_X0_remember l D cs h a H.size hs Ls _ hw) (cwV 1 hts gX3_setPace_X0_remember rfl rfl rfl (by decide +kernel) ⟨Nat.le_of_ble_eq_true rfl, Nat.le_of_ble_eq_true rfl⟩) (PC_V hPc hDc hKK 0 0 rfl rfl) rfl rfl hl.1 rfl (lv_room (Nat.le_of_ble_eq_true rfl)) dX3_setPace_15 ⟨Nat.le_of_ble_eq_true rfl, Nat.le_of_ble_eq_true rfl⟩) hS (fun q _ h => hFc q h) hFc (fun u2 t H locs ht hvm hw hB hz1 hk1 hS => ?_)
  obtain ⟨u2_0, u2_1⟩ := u2
  obtain ⟨hP1, hD1⟩ := hB
  rw [ht] at hP1
  obtain ⟨hPx, hDx⟩ := z_join hPx hDx hk1 hFc hP1 hD1
  have hP : va_P D vwCl (w_Xo cs x tq h a S ++ w_Text cs tq tx ++ w_Hist cs h a u2_0 ++ linesW cs a 18 u2_1) H := z_perm_P z_rotb hPx
  have hD : va_D A (w_Xo cs x tq h a S ++ w_Text cs tq tx ++ w_Hist cs h a u2_0 ++ linesW cs a 18 u2_1) := z_perm_D z_rotb hDx
  refine lv_aload_n hx hb dX3_setPace_18 rfl (lv_at hl 0 rfl) ?_
  refine va_get (D := D) (ci := 3) (v := .ref (a 0 0)) (C := RX3) (T := TX3) (N := 7) hx hb hts (h_X3_X3_setPace) hown hK hP 0 rfl rfl 1 (by decide) (z_w hts 2 rfl) (fun _ h9 => h9) rfl dX3_setPace_19 ?_
  refine va_get (D := D) (ci := 1) (v := .int ((u2_1 0).1 0 1)) (C := RX1) (T := TX1) (N := 13) hx hb hts (h_X1_X3_setPace) hown hK hP 8 rfl rfl 1 (by decide) (z_w hts 3 rfl) (fun _ h9 => h9) rfl dX3_setPace_22 ?_
  refine lv_istore_n (lv' := [(2, .int ((u2_1 0).1 0 1)), (0, .ref (x 0)), (1, .int x1)]) hx hb dX3_setPace_25 rfl hl (by decide) rfl (fun ls hl => ?_)
  refine lv_aload_n hx hb dX3_setPace_26 rfl (lv_at hl 1 rfl) ?_
  refine va_get (D := D) (ci := 3) (v := .ref (a 0 0)) (C := RX3) (T := TX3) (N := 7) hx hb hts (h_X3_X3_setPace) hown hK hP 0 rfl rfl 1 (by decide) (z_w hts 2 rfl) (fun _ h9 => h9) rfl dX3_setPace_27 ?_
  refine lv_iload_n hx hb dX3_setPace_30 rfl (lv_at hl 2 rfl) ?_
  refine va_put (D := D) (ci := 1) (v := .int x1) (ty := .int) (C := RX1) (T := TX1) (N := 13) hx hb hts (h_X1_X3_setPace) tyX1 tyX1_ok nmX1 hown hK hP hD hS 8 rfl rfl 1 (by decide) (z_w hts 3 rfl) (fun _ h9 => h9) rfl (by decide +kernel) rfl rfl (Nat.le_of_ble_eq_true rfl) dX3_setPace_31 (fun H locs hP hD hS => ?_)
  have hP : va_P D vwCl (w_Xo cs x tq h a S ++ w_Text cs tq tx ++ w_Hist cs h a u2_0 ++ linesW cs a 18 (va_up u2_1 0 (lsS (u2_1 0) 0 1 x1))) H := hP
  have hD : va_D A (w_Xo cs x tq h a S ++ w_Text cs tq tx ++ w_Hist cs h a u2_0 ++ linesW cs a 18 (va_up u2_1 0 (lsS (u2_1 0) 0 1 x1))) := hD
  refine lv_iload_n hx hb dX3_setPace_34 rfl (lv_at hl 0 rfl) ?_
  refine W.widen (k := 1) (n := 6) (Nat.le_of_ble_eq_true rfl) (Nat.le_of_ble_eq_true rfl) (vx_ret ?_)
  exact W.iret (v := (u2_1 0).1 0 1) hx hb hr (fun t ht hW => ⟨⟨(u2_1 0).1 0 1, (S, tx, u2_0, va_up u2_1 0 (lsS (u2_1 0) 0 1 x1)), rfl, hw, by rw [ht]; exact hP, hD⟩, hS.F ht⟩) hS.2.2 dX3_setPace_35 hlocks
set_option maxHeartbeats 4000000 in
set_option maxRecDepth 100000 in
theorem c_X3_setPace (l : Launch) (hfl : l.stackTraces = false) (D : va_G) (cs : Nat → ClassId) (x : Nat → Nat) (tq : Nat → Nat) (h : Nat → Nat) (a : Nat → Nat → Nat) (sz : Nat) (sa : Nat → Nat) (S : XO) (tx : TS) (hs : HS) (Ls : (Nat → LnS)) (x1 : Int32) (Q : Int32 → XO → TS → HS → (Nat → LnS) → Prop) (QX : String → XO → TS → HS → (Nat → LnS) → Prop) (hw : wp_X3_setPace S tx hs Ls x1 Q QX) : vx_Met l yX3_setPace wsX3_setPace ({ frames := 7, cells := 1, slots := 6, locals := 104 } : Room) (va_Pc [.ref (x 0), .int x1] (PX D cs (w_Xo cs x tq h a S ++ w_Text cs tq tx ++ w_Hist cs h a hs ++ linesW cs a 18 Ls) sa sz)) (va_Qi (fun r (u : XO × TS × HS × (Nat → LnS)) => Q r u.1 u.2.1 u.2.2.1 u.2.2.2) (fun (u : XO × TS × HS × (Nat → LnS)) t => va_P D vwCl (w_Xo cs x tq h a u.1 ++ w_Text cs tq u.2.1 ++ w_Hist cs h a u.2.2.1 ++ linesW cs a 18 u.2.2.2) t.heap ∧ va_D (va_A (w_Xo cs x tq h a S ++ w_Text cs tq tx ++ w_Hist cs h a hs ++ linesW cs a 18 Ls) sz) (w_Xo cs x tq h a u.1 ++ w_Text cs tq u.2.1 ++ w_Hist cs h a u.2.2.1 ++ linesW cs a 18 u.2.2.2)) (va_A (w_Xo cs x tq h a S ++ w_Text cs tq tx ++ w_Hist cs h a hs ++ linesW cs a 18 Ls) sz)) (vx_X (fun (_ : XO × TS × HS × (Nat → LnS)) => True) (fun E (u : XO × TS × HS × (Nat → LnS)) t => QX E u.1 u.2.1 u.2.2.1 u.2.2.2 ∧ va_P D vwCl (w_Xo cs x tq h a u.1 ++ w_Text cs tq u.2.1 ++ w_Hist cs h a u.2.2.1 ++ linesW cs a 18 u.2.2.2) t.heap ∧ va_D (va_A (w_Xo cs x tq h a S ++ w_Text cs tq tx ++ w_Hist cs h a hs ++ linesW cs a 18 Ls) sz) (w_Xo cs x tq h a u.1 ++ w_Text cs tq u.2.1 ++ w_Hist cs h a u.2.2.1 ++ linesW cs a 18 u.2.2.2)) (va_A (w_Xo cs x tq h a S ++ w_Text cs tq tx ++ w_Hist cs h a hs ++ linesW cs a 18 Ls) sz)) 1 6 (va_A (w_Xo cs x tq h a S ++ w_Text cs tq tx ++ w_Hist cs h a hs ++ linesW cs a 18 Ls) sz) := by
  refine vx_ofW (cc := cX3_setPace) (maxL := 3) (ret := (some .int)) (by decide) rfl ?_
  intro p e s m args below meth c s₁ B hml hT0 hv
  obtain ⟨rfl, ⟨hsz, hP, hKK, hD0⟩, hTW, hTZ⟩ := hv
  have hC : MAt p s m _ meth c RX3 cX3_setPace 3 (some .int) wsX3_setPace D cs := ⟨B.exec, B.bytes, B.returns, hml, findClass_of_methodNamed B.named, atoms_spec (ws := wsX3_setPace) B.pre, B.notSynchronized, hKK⟩
  have hl := lv_entry ([.ref (x 0), .int x1]) (n := 3) (Nat.le_of_ble_eq_true rfl)
  rw [lg_entry_eq]
  generalize (lg_sl ([.ref (x 0), .int x1]) ++ List.replicate (3 - (lg_sl ([.ref (x 0), .int x1])).length) Slot.unset).toArray = ls at hl ⊢
  subst hsz
  have hD := hD0.self (sz := s.heap.size)
  have hA : ∀ z : Nat, s.heap.size ≤ z → va_A (w_Xo cs x tq h a S ++ w_Text cs tq tx ++ w_Hist cs h a hs ++ linesW cs a 18 Ls) s.heap.size z := fun z h => Or.inr h
  exact t_X3_setPace hC hfl hT0 hTW hTZ x tq h a S tx hs Ls x1 Q QX hA hw s.heap [] hP hD va_S.rf ls hl
theorem h_X1_X3_link : ∀ w ∈ u_ws RX1 TX1 13, w ∈ wsX3_link := fun _ h => List.mem_cons_of_mem _ (List.mem_append_left _ (List.mem_append_left _ (List.mem_append_right _ h)))
theorem h_X3_X3_link : ∀ w ∈ u_ws RX3 TX3 7, w ∈ wsX3_link := fun _ h => List.mem_cons_of_mem _ (List.mem_append_left _ (List.mem_append_left _ (List.mem_append_left _ (List.mem_append_right _ h))))
set_option maxHeartbeats 4000000 in
set_option maxRecDepth 100000 in
theorem t_X3_link {p : Program} {l : Launch} {e : Env} {s : State} {m : MethodId} {args : Array Value} {below : List Frame} {meth : Method} {c : Code} {D : va_G} {cs : Nat → ClassId} {A : Nat → Prop} (hC : MAt p s m args meth c RX3 cX3_link 3 (some .int) wsX3_link D cs) (hfl : l.stackTraces = false) (hT0 : ∀ x ∈ c.exceptionTable.toList, False) {sa : Nat → Nat} (hTW : TW sa s) (hTZ : TZ A s s.heap) (x : Nat → Nat) (tq : Nat → Nat) (h : Nat → Nat) (a : Nat → Nat → Nat) (S : XO) (tx : TS) (hs : HS) (Ls : (Nat → LnS)) (x1 : Int32) (x2 : Int32) (Q : Int32 → XO → TS → HS → (Nat → LnS) → Prop) (QX : String → XO → TS → HS → (Nat → LnS) → Prop) (hA : ∀ q : Nat, s.heap.size ≤ q → A q) (hw : wp_X3_link S tx hs Ls x1 x2 Q QX) (H : Heap) (locs : List Loc) (hP : va_P D vwCl (w_Xo cs x tq h a S ++ w_Text cs tq tx ++ w_Hist cs h a hs ++ linesW cs a 18 Ls) H) (hD : va_D A (w_Xo cs x tq h a S ++ w_Text cs tq tx ++ w_Hist cs h a hs ++ linesW cs a 18 Ls)) (hS : va_S A s.heap H locs) (ls : Array Slot) (hl : lv_has ls 3 [(0, .ref (x 0)), (1, .int x1), (2, .int x2)]) : W p l e ({ frames := 6, cells := 1, slots := 6, locals := 82 } : Room) s m args below meth c H locs 0 0 (vx_MQ below (va_Qi (fun r (u : XO × TS × HS × (Nat → LnS)) => Q r u.1 u.2.1 u.2.2.1 u.2.2.2) (fun (u : XO × TS × HS × (Nat → LnS)) t => va_P D vwCl (w_Xo cs x tq h a u.1 ++ w_Text cs tq u.2.1 ++ w_Hist cs h a u.2.2.1 ++ linesW cs a 18 u.2.2.2) t.heap ∧ va_D A (w_Xo cs x tq h a u.1 ++ w_Text cs tq u.2.1 ++ w_Hist cs h a u.2.2.1 ++ linesW cs a 18 u.2.2.2)) A) (vx_X (fun (_ : XO × TS × HS × (Nat → LnS)) => True) (fun E (u : XO × TS × HS × (Nat → LnS)) t => QX E u.1 u.2.1 u.2.2.1 u.2.2.2 ∧ va_P D vwCl (w_Xo cs x tq h a u.1 ++ w_Text cs tq u.2.1 ++ w_Hist cs h a u.2.2.1 ++ linesW cs a 18 u.2.2.2) t.heap ∧ va_D A (w_Xo cs x tq h a u.1 ++ w_Text cs tq u.2.1 ++ w_Hist cs h a u.2.2.1 ++ linesW cs a 18 u.2.2.2)) A) args s 1 6 A) (F0 m 0 ls []) := by
  obtain ⟨hx, hb, hr, hml, hown, hts, hlocks, hKK⟩ := id hC
  have hK := hKK.1
  refine lv_aload_n hx hb dX3_link_0 rfl (lv_at hl 0 rfl) ?_
  refine va_get (D := D) (ci := 3) (v := .ref (a 0 0)) (C := RX3) (T := TX3) (N := 7) hx hb hts (h_X3_X3_link) hown hK hP 0 rfl rfl 1 (by decide) (z_w hts 3 rfl) (fun _ h9 => h9) rfl dX3_link_1 ?_
  refine lv_iload_n hx hb dX3_link_4 rfl (lv_at hl 1 rfl) ?_
  have hPx := z_perm_P (lines_1 (cs := cs) (a := a) (n := 18) (i := 0) Ls (w_Xo cs x tq h a S ++ w_Text cs tq tx ++ w_Hist cs h a hs) (by decide)) hP
  have hDx := z_perm_D (lines_1 (cs := cs) (a := a) (n := 18) (i := 0) Ls (w_Xo cs x tq h a S ++ w_Text cs tq tx ++ w_Hist cs h a hs) (by decide)) hD
  have hPc := (z_app_P hPx).1
  have hDc := (z_app_D hDx).1
  refine z_calli (va_runV (As := [.int x1]) (rest := []) ⟨hx, hb, hml, hown, hts⟩ (c_X1_canLink l D cs (a 0) H.size (Ls 0) x1 _ hw) (cwV 1 hts gX3_link_X1_canLink rfl rfl rfl (by decide +kernel) ⟨Nat.le_of_ble_eq_true rfl, Nat.le_of_ble_eq_true rfl⟩) (PC_V hPc hDc hKK 0 1 rfl rfl) rfl rfl hl.1 rfl (lv_room (Nat.le_of_ble_eq_true rfl)) dX3_link_5 ⟨Nat.le_of_ble_eq_true rfl, Nat.le_of_ble_eq_true rfl⟩) (fun r1 hw => ?_)
  obtain ⟨b1, hw⟩ := hw
  refine lv_if_ne (tgt := 21) hx hb dX3_link_8 (by decide) (fun c2 => ?_) (fun c2 => ?_)
  · have hw := hw.2 c2
    refine lv_aload_n hx hb dX3_link_21 rfl (lv_at hl 0 rfl) ?_
    refine va_get (D := D) (ci := 3) (v := .ref (h 0)) (C := RX3) (T := TX3) (N := 7) hx hb hts (h_X3_X3_link) hown hK hP 0 rfl rfl 2 (by decide) (z_w hts 4 rfl) (fun _ h9 => h9) rfl dX3_link_22 ?_
    refine lv_aload_n hx hb dX3_link_25 rfl (lv_at hl 0 rfl) ?_
    refine va_get (D := D) (ci := 3) (v := .ref (a 0 0)) (C := RX3) (T := TX3) (N := 7) hx hb hts (h_X3_X3_link) hown hK hP 0 rfl rfl 1 (by decide) (z_w hts 3 rfl) (fun _ h9 => h9) rfl dX3_link_26 ?_
    have hPx := z_perm_P z_rot hP
    have hDx := z_perm_D z_rot hD
    have hPc := (z_app_P hPx).1
    have hDc := (z_app_D hDx).1
    have hFc := z_free hDx hS hA
    refine va_callv (va_runV (As := [.ref (a 0 0)]) (rest := []) ⟨hx, hb, hml, hown, hts⟩ (c_X0_remember l D cs h a H.size hs Ls _ hw) (cwV 1 hts gX3_link_X0_remember rfl rfl rfl (by decide +kernel) ⟨Nat.le_of_ble_eq_true rfl, Nat.le_of_ble_eq_true rfl⟩) (PC_V hPc hDc hKK 0 0 rfl rfl) rfl rfl hl.1 rfl (lv_room (Nat.le_of_ble_eq_true rfl)) dX3_link_29 ⟨Nat.le_of_ble_eq_true rfl, Nat.le_of_ble_eq_true rfl⟩) hS (fun q _ h => hFc q h) hFc (fun u3 t H locs ht hvm hw hB hz1 hk1 hS => ?_)
    obtain ⟨u3_0, u3_1⟩ := u3
    obtain ⟨hP1, hD1⟩ := hB
    rw [ht] at hP1
    obtain ⟨hPx, hDx⟩ := z_join hPx hDx hk1 hFc hP1 hD1
    have hP : va_P D vwCl (w_Xo cs x tq h a S ++ w_Text cs tq tx ++ w_Hist cs h a u3_0 ++ linesW cs a 18 u3_1) H := z_perm_P z_rotb hPx
    have hD : va_D A (w_Xo cs x tq h a S ++ w_Text cs tq tx ++ w_Hist cs h a u3_0 ++ linesW cs a 18 u3_1) := z_perm_D z_rotb hDx
    refine lv_aload_n hx hb dX3_link_32 rfl (lv_at hl 0 rfl) ?_
    refine va_get (D := D) (ci := 3) (v := .ref (a 0 0)) (C := RX3) (T := TX3) (N := 7) hx hb hts (h_X3_X3_link) hown hK hP 0 rfl rfl 1 (by decide) (z_w hts 3 rfl) (fun _ h9 => h9) rfl dX3_link_33 ?_
    refine va_get (D := D) (ci := 1) (v := .ref (a 0 2)) (C := RX1) (T := TX1) (N := 13) hx hb hts (h_X1_X3_link) hown hK hP 8 rfl rfl 5 (by decide) (z_w hts 5 rfl) (fun _ h9 => h9) rfl dX3_link_36 ?_
    refine lv_iload_n hx hb dX3_link_39 rfl (lv_at hl 1 rfl) ?_
    refine lv_iload_n hx hb dX3_link_40 rfl (lv_at hl 2 rfl) ?_
    obtain ⟨h4, hw⟩ := hw
    refine va_zast hx hb hK hP hD hS 10 1 rfl rfl h4 dX3_link_41 (fun H locs hP hD hS => ?_)
    have hP : va_P D vwCl (w_Xo cs x tq h a S ++ w_Text cs tq tx ++ w_Hist cs h a u3_0 ++ linesW cs a 18 (va_up u3_1 0 (lsR (u3_1 0) 2 (upd ((u3_1 0).1 2) x1.toNatClampNeg (vp_nar .boolean x2))))) H := hP
    have hD : va_D A (w_Xo cs x tq h a S ++ w_Text cs tq tx ++ w_Hist cs h a u3_0 ++ linesW cs a 18 (va_up u3_1 0 (lsR (u3_1 0) 2 (upd ((u3_1 0).1 2) x1.toNatClampNeg (vp_nar .boolean x2))))) := hD
    refine lv_aload_n hx hb dX3_link_42 rfl (lv_at hl 0 rfl) ?_
    refine va_get (D := D) (ci := 3) (v := .ref (a 0 0)) (C := RX3) (T := TX3) (N := 7) hx hb hts (h_X3_X3_link) hown hK hP 0 rfl rfl 1 (by decide) (z_w hts 3 rfl) (fun _ h9 => h9) rfl dX3_link_43 ?_
    have hPx := z_perm_P (lines_1 (cs := cs) (a := a) (n := 18) (i := 0) (va_up u3_1 0 (lsR (u3_1 0) 2 (upd ((u3_1 0).1 2) x1.toNatClampNeg (vp_nar .boolean x2)))) (w_Xo cs x tq h a S ++ w_Text cs tq tx ++ w_Hist cs h a u3_0) (by decide)) hP
    have hDx := z_perm_D (lines_1 (cs := cs) (a := a) (n := 18) (i := 0) (va_up u3_1 0 (lsR (u3_1 0) 2 (upd ((u3_1 0).1 2) x1.toNatClampNeg (vp_nar .boolean x2)))) (w_Xo cs x tq h a S ++ w_Text cs tq tx ++ w_Hist cs h a u3_0) (by decide)) hD
    have hPc := (z_app_P hPx).1
    have hDc := (z_app_D hDx).1
    refine z_calli (va_runV (As := []) (rest := []) ⟨hx, hb, hml, hown, hts⟩ (c_X1_linkedCounters l D cs (a 0) H.size (lsR (u3_1 0) 2 (upd ((u3_1 0).1 2) x1.toNatClampNeg (vp_nar .boolean x2))) _ hw) (cwV 0 hts gX3_link_X1_linkedCounters rfl rfl rfl (by decide +kernel) ⟨Nat.le_of_ble_eq_true rfl, Nat.le_of_ble_eq_true rfl⟩) (PC_V hPc hDc hKK 0 1 rfl rfl) rfl rfl hl.1 rfl (lv_room (Nat.le_of_ble_eq_true rfl)) dX3_link_46 ⟨Nat.le_of_ble_eq_true rfl, Nat.le_of_ble_eq_true rfl⟩) (fun r5 hw => ?_)
    refine W.widen (k := 1) (n := 6) (Nat.le_of_ble_eq_true rfl) (Nat.le_of_ble_eq_true rfl) (vx_ret ?_)
    exact W.iret (v := r5) hx hb hr (fun t ht hW => ⟨⟨r5, (S, tx, u3_0, va_up u3_1 0 (lsR (u3_1 0) 2 (upd ((u3_1 0).1 2) x1.toNatClampNeg (vp_nar .boolean x2)))), rfl, hw, by rw [ht]; exact hP, hD⟩, hS.F ht⟩) hS.2.2 dX3_link_49 hlocks
  · have hw := hw.1 c2
    exact vx_throwS hx hb hfl hown (by decide +kernel) (by decide +kernel) (z_w hts 1 rfl) (z_w hts 2 rfl) (show vk_R RX3 196 "no such counter, or none behind it" (sa 5) s from hTW.1 5 (by decide)) (vx_hat (fun w h => hts w (List.mem_cons_of_mem _ (List.mem_append_right _ h))) zb_eIOB (vx_c (va_Nw.use rfl hTW.2.2.2.1) (vx_c (va_Nw.use rfl hTW.2.2.2.2.2.2.2.2.2.2.1) (vx_c (va_Nw.use rfl hTW.2.2.2.2.2.2.2.2.2.2.2.1) (vx_c (va_Nw.use rfl hTW.2.2.2.2.2.2.2.2.2.2.2.2) vx_n))))) zh_eIOB hTZ.1 hTZ.2 hS (hl.1.trans hml.symm) dX3_link_11 dX3_link_14 dX3_link_15 dX3_link_17 dX3_link_20 (fun x h => (hT0 x h).elim) (Nat.le_of_ble_eq_true rfl) (Nat.le_of_ble_eq_true rfl) (Nat.le_of_ble_eq_true rfl) (Nat.le_of_ble_eq_true rfl) hlocks (fun t ha hz hk => ⟨(S, tx, hs, Ls), trivial, ⟨hw, hP.kept (fun k q hq => hk q.1 (hP k q hq).lt), hD⟩, ⟨Nat.le_trans hS.1 hz, fun q h1 h2 => (hk q (Nat.lt_of_lt_of_le h1 hS.1)).trans (hS.2.1 q h1 h2)⟩⟩) hS.2.2 (Nat.le_of_ble_eq_true rfl) (Nat.le_of_ble_eq_true rfl)
set_option maxHeartbeats 4000000 in
set_option maxRecDepth 100000 in
theorem c_X3_link (l : Launch) (hfl : l.stackTraces = false) (D : va_G) (cs : Nat → ClassId) (x : Nat → Nat) (tq : Nat → Nat) (h : Nat → Nat) (a : Nat → Nat → Nat) (sz : Nat) (sa : Nat → Nat) (S : XO) (tx : TS) (hs : HS) (Ls : (Nat → LnS)) (x1 : Int32) (x2 : Int32) (Q : Int32 → XO → TS → HS → (Nat → LnS) → Prop) (QX : String → XO → TS → HS → (Nat → LnS) → Prop) (hw : wp_X3_link S tx hs Ls x1 x2 Q QX) : vx_Met l yX3_link wsX3_link ({ frames := 6, cells := 1, slots := 6, locals := 82 } : Room) (va_Pc [.ref (x 0), .int x1, .int x2] (PX D cs (w_Xo cs x tq h a S ++ w_Text cs tq tx ++ w_Hist cs h a hs ++ linesW cs a 18 Ls) sa sz)) (va_Qi (fun r (u : XO × TS × HS × (Nat → LnS)) => Q r u.1 u.2.1 u.2.2.1 u.2.2.2) (fun (u : XO × TS × HS × (Nat → LnS)) t => va_P D vwCl (w_Xo cs x tq h a u.1 ++ w_Text cs tq u.2.1 ++ w_Hist cs h a u.2.2.1 ++ linesW cs a 18 u.2.2.2) t.heap ∧ va_D (va_A (w_Xo cs x tq h a S ++ w_Text cs tq tx ++ w_Hist cs h a hs ++ linesW cs a 18 Ls) sz) (w_Xo cs x tq h a u.1 ++ w_Text cs tq u.2.1 ++ w_Hist cs h a u.2.2.1 ++ linesW cs a 18 u.2.2.2)) (va_A (w_Xo cs x tq h a S ++ w_Text cs tq tx ++ w_Hist cs h a hs ++ linesW cs a 18 Ls) sz)) (vx_X (fun (_ : XO × TS × HS × (Nat → LnS)) => True) (fun E (u : XO × TS × HS × (Nat → LnS)) t => QX E u.1 u.2.1 u.2.2.1 u.2.2.2 ∧ va_P D vwCl (w_Xo cs x tq h a u.1 ++ w_Text cs tq u.2.1 ++ w_Hist cs h a u.2.2.1 ++ linesW cs a 18 u.2.2.2) t.heap ∧ va_D (va_A (w_Xo cs x tq h a S ++ w_Text cs tq tx ++ w_Hist cs h a hs ++ linesW cs a 18 Ls) sz) (w_Xo cs x tq h a u.1 ++ w_Text cs tq u.2.1 ++ w_Hist cs h a u.2.2.1 ++ linesW cs a 18 u.2.2.2)) (va_A (w_Xo cs x tq h a S ++ w_Text cs tq tx ++ w_Hist cs h a hs ++ linesW cs a 18 Ls) sz)) 1 6 (va_A (w_Xo cs x tq h a S ++ w_Text cs tq tx ++ w_Hist cs h a hs ++ linesW cs a 18 Ls) sz) := by
  refine vx_ofW (cc := cX3_link) (maxL := 3) (ret := (some .int)) (by decide) rfl ?_
  intro p e s m args below meth c s₁ B hml hT0 hv
  obtain ⟨rfl, ⟨hsz, hP, hKK, hD0⟩, hTW, hTZ⟩ := hv
  have hC : MAt p s m _ meth c RX3 cX3_link 3 (some .int) wsX3_link D cs := ⟨B.exec, B.bytes, B.returns, hml, findClass_of_methodNamed B.named, atoms_spec (ws := wsX3_link) B.pre, B.notSynchronized, hKK⟩
  have hl := lv_entry ([.ref (x 0), .int x1, .int x2]) (n := 3) (Nat.le_of_ble_eq_true rfl)
  rw [lg_entry_eq]
  generalize (lg_sl ([.ref (x 0), .int x1, .int x2]) ++ List.replicate (3 - (lg_sl ([.ref (x 0), .int x1, .int x2])).length) Slot.unset).toArray = ls at hl ⊢
  subst hsz
  have hD := hD0.self (sz := s.heap.size)
  have hA : ∀ z : Nat, s.heap.size ≤ z → va_A (w_Xo cs x tq h a S ++ w_Text cs tq tx ++ w_Hist cs h a hs ++ linesW cs a 18 Ls) s.heap.size z := fun z h => Or.inr h
  exact t_X3_link hC hfl hT0 hTW hTZ x tq h a S tx hs Ls x1 x2 Q QX hA hw s.heap [] hP hD va_S.rf ls hl
theorem h_X1_X3_resize : ∀ w ∈ u_ws RX1 TX1 13, w ∈ wsX3_resize := fun _ h => List.mem_cons_of_mem _ (List.mem_append_left _ (List.mem_append_left _ (List.mem_append_left _ (List.mem_append_right _ h))))
theorem h_X3_X3_resize : ∀ w ∈ u_ws RX3 TX3 7, w ∈ wsX3_resize := fun _ h => List.mem_cons_of_mem _ (List.mem_append_left _ (List.mem_append_left _ (List.mem_append_left _ (List.mem_append_left _ (List.mem_append_right _ h)))))
set_option maxHeartbeats 4000000 in
set_option maxRecDepth 100000 in
theorem t_X3_resize {p : Program} {l : Launch} {e : Env} {s : State} {m : MethodId} {args : Array Value} {below : List Frame} {meth : Method} {c : Code} {D : va_G} {cs : Nat → ClassId} {A : Nat → Prop} (hC : MAt p s m args meth c RX3 cX3_resize 4 (some .int) wsX3_resize D cs) (hfl : l.stackTraces = false) (hT0 : ∀ x ∈ c.exceptionTable.toList, False) {sa : Nat → Nat} (hTW : TW sa s) (hTZ : TZ A s s.heap) (x : Nat → Nat) (tq : Nat → Nat) (h : Nat → Nat) (a : Nat → Nat → Nat) (S : XO) (tx : TS) (hs : HS) (Ls : (Nat → LnS)) (x1 : Int32) (x2 : Int32) (Q : Int32 → XO → TS → HS → (Nat → LnS) → Prop) (QX : String → XO → TS → HS → (Nat → LnS) → Prop) (hA : ∀ q : Nat, s.heap.size ≤ q → A q) (hw : wp_X3_resize S tx hs Ls x1 x2 Q QX) (H : Heap) (locs : List Loc) (hP : va_P D vwCl (w_Xo cs x tq h a S ++ w_Text cs tq tx ++ w_Hist cs h a hs ++ linesW cs a 18 Ls) H) (hD : va_D A (w_Xo cs x tq h a S ++ w_Text cs tq tx ++ w_Hist cs h a hs ++ linesW cs a 18 Ls)) (hS : va_S A s.heap H locs) (ls : Array Slot) (hl : lv_has ls 4 [(0, .ref (x 0)), (1, .int x1), (2, .int x2)]) : W p l e ({ frames := 7, cells := 2, slots := 12, locals := 104 } : Room) s m args below meth c H locs 0 0 (vx_MQ below (va_Qi (fun r (u : XO × TS × HS × (Nat → LnS)) => Q r u.1 u.2.1 u.2.2.1 u.2.2.2) (fun (u : XO × TS × HS × (Nat → LnS)) t => va_P D vwCl (w_Xo cs x tq h a u.1 ++ w_Text cs tq u.2.1 ++ w_Hist cs h a u.2.2.1 ++ linesW cs a 18 u.2.2.2) t.heap ∧ va_D A (w_Xo cs x tq h a u.1 ++ w_Text cs tq u.2.1 ++ w_Hist cs h a u.2.2.1 ++ linesW cs a 18 u.2.2.2)) A) (vx_X (fun (_ : XO × TS × HS × (Nat → LnS)) => True) (fun E (u : XO × TS × HS × (Nat → LnS)) t => QX E u.1 u.2.1 u.2.2.1 u.2.2.2 ∧ va_P D vwCl (w_Xo cs x tq h a u.1 ++ w_Text cs tq u.2.1 ++ w_Hist cs h a u.2.2.1 ++ linesW cs a 18 u.2.2.2) t.heap ∧ va_D A (w_Xo cs x tq h a u.1 ++ w_Text cs tq u.2.1 ++ w_Hist cs h a u.2.2.1 ++ linesW cs a 18 u.2.2.2)) A) args s 2 12 A) (F0 m 0 ls []) := by
  obtain ⟨hx, hb, hr, hml, hown, hts, hlocks, hKK⟩ := id hC
  have hK := hKK.1
  refine lv_aload_n hx hb dX3_resize_0 rfl (lv_at hl 0 rfl) ?_
  refine lv_iload_n hx hb dX3_resize_1 rfl (lv_at hl 1 rfl) ?_
  have hFc := z_free (wr := []) (by rw [List.append_nil]; exact hD) hS hA
  refine vx_callv (vx_runV (As := [.int x1]) (rest := []) ⟨hx, hb, hml, hown, hts⟩ (c_X3_requireCounter l hfl D cs x tq h a H.size sa S tx hs Ls x1 _ _ hw) (cwV 1 hts gX3_resize_X3_requireCounter rfl rfl rfl (by decide +kernel) ⟨Nat.le_of_ble_eq_true rfl, Nat.le_of_ble_eq_true rfl⟩) (PX_V hP hD hKK hTW hTZ hS hFc 0 3 rfl rfl) rfl rfl hl.1 rfl (lv_room (Nat.le_of_ble_eq_true rfl)) dX3_resize_2 ⟨Nat.le_of_ble_eq_true rfl, Nat.le_of_ble_eq_true rfl⟩) hS (fun q _ h => hFc q h) hFc (fun q _ h => hFc q h) ?_ (fun u1 t H locs ht hvm hw hB hz1 hk1 hS => ?_)
  · intro E ce q9 u1 t H locs ht hvm hpx hB hz1 hk1 hS hq9 hce hcl
    obtain ⟨u1_0, u1_1, u1_2, u1_3⟩ := u1
    obtain ⟨hw, hP1, hD1⟩ := hB
    rw [ht] at hP1
    have hD : va_D A (w_Xo cs x tq h a u1_0 ++ w_Text cs tq u1_1 ++ w_Hist cs h a u1_2 ++ linesW cs a 18 u1_3) := hD1.weaken (fun k q _ h => hFc q.1 h)
    have hP : va_P D vwCl (w_Xo cs x tq h a u1_0 ++ w_Text cs tq u1_1 ++ w_Hist cs h a u1_2 ++ linesW cs a 18 u1_3) H := hP1
    exact vx_out (fun x h => (hT0 x h).elim) hlocks hq9 hce hcl (fun t2 ht2 hvm2 => ⟨(u1_0, u1_1, u1_2, u1_3), trivial, ⟨hw, by rw [ht2]; exact hP, hD⟩, hS.F ht2⟩) hS.2.2 (Nat.le_of_ble_eq_true rfl) (Nat.le_of_ble_eq_true rfl)
  obtain ⟨u1_0, u1_1, u1_2, u1_3⟩ := u1
  obtain ⟨hP1, hD1⟩ := hB
  rw [ht] at hP1
  have hD : va_D A (w_Xo cs x tq h a u1_0 ++ w_Text cs tq u1_1 ++ w_Hist cs h a u1_2 ++ linesW cs a 18 u1_3) := hD1.weaken (fun k q _ h => hFc q.1 h)
  have hP : va_P D vwCl (w_Xo cs x tq h a u1_0 ++ w_Text cs tq u1_1 ++ w_Hist cs h a u1_2 ++ linesW cs a 18 u1_3) H := hP1
  refine lv_iload_n hx hb dX3_resize_5 rfl (lv_at hl 2 rfl) ?_
  refine lv_iconst (v := (1 : Int32)) hx hb dX3_resize_6 (by decide) ?_
  refine lv_bipush (v := (9 : Int32)) hx hb dX3_resize_7 (by decide) ?_
  have hPc : va_P D vwCl ([] : va_W) H := z_nilP
  have hDc : va_D A ([] : va_W) := z_nilD
  have hFc := z_free (wc := []) hD hS hA
  refine vx_callv (vx_runS (As := [.int x2, .int (1 : Int32), .int (9 : Int32)]) (rest := []) ⟨hx, hb, hml, hown, hts⟩ (c_X3_requireRange l hfl D cs  H.size sa x2 (1 : Int32) (9 : Int32) _ _ hw) (va_cwS 3 hts gX3_resize_X3_requireRange rfl rfl rfl (by decide +kernel) ⟨Nat.le_of_ble_eq_true rfl, Nat.le_of_ble_eq_true rfl⟩) (PX_S hPc hDc hKK hTW hTZ hS hFc) rfl rfl hl.1 rfl (lv_room (Nat.le_of_ble_eq_true rfl)) dX3_resize_9 ⟨Nat.le_of_ble_eq_true rfl, Nat.le_of_ble_eq_true rfl⟩) hS (fun q _ h => hFc q h) hFc (fun q _ h => hFc q h) ?_ (fun u2 t H locs ht hvm hw hB hz1 hk1 hS => ?_)
  · intro E ce q9 u2 t H locs ht hvm hpx hB hz1 hk1 hS hq9 hce hcl
    obtain ⟨hw, hP1, hD1⟩ := hB
    rw [ht] at hP1
    obtain ⟨hP, hD⟩ := z_join (wc := []) hP hD hk1 hFc hP1 hD1
    have hP : va_P D vwCl (w_Xo cs x tq h a u1_0 ++ w_Text cs tq u1_1 ++ w_Hist cs h a u1_2 ++ linesW cs a 18 u1_3) H := hP
    have hD : va_D A (w_Xo cs x tq h a u1_0 ++ w_Text cs tq u1_1 ++ w_Hist cs h a u1_2 ++ linesW cs a 18 u1_3) := hD
    exact vx_out (fun x h => (hT0 x h).elim) hlocks hq9 hce hcl (fun t2 ht2 hvm2 => ⟨(u1_0, u1_1, u1_2, u1_3), trivial, ⟨hw, by rw [ht2]; exact hP, hD⟩, hS.F ht2⟩) hS.2.2 (Nat.le_of_ble_eq_true rfl) (Nat.le_of_ble_eq_true rfl)
  obtain ⟨hP1, hD1⟩ := hB
  rw [ht] at hP1
  obtain ⟨hP, hD⟩ := z_join (wc := []) hP hD hk1 hFc hP1 hD1
  have hP : va_P D vwCl (w_Xo cs x tq h a u1_0 ++ w_Text cs tq u1_1 ++ w_Hist cs h a u1_2 ++ linesW cs a 18 u1_3) H := hP
  have hD : va_D A (w_Xo cs x tq h a u1_0 ++ w_Text cs tq u1_1 ++ w_Hist cs h a u1_2 ++ linesW cs a 18 u1_3) := hD
  refine lv_aload_n hx hb dX3_resize_12 rfl (lv_at hl 0 rfl) ?_
  refine va_get (D := D) (ci := 3) (v := .ref (h 0)) (C := RX3) (T := TX3) (N := 7) hx hb hts (h_X3_X3_resize) hown hK hP 0 rfl rfl 2 (by decide) (z_w hts 1 rfl) (fun _ h9 => h9) rfl dX3_resize_13 ?_
  refine lv_aload_n hx hb dX3_resize_16 rfl (lv_at hl 0 rfl) ?_
  refine va_get (D := D) (ci := 3) (v := .ref (a 0 0)) (C := RX3) (T := TX3) (N := 7) hx hb hts (h_X3_X3_resize) hown hK hP 0 rfl rfl 1 (by decide) (z_w hts 2 rfl) (fun _ h9 => h9) rfl dX3_resize_17 ?_
  have hPx := z_perm_P z_rot hP
  have hDx := z_perm_D z_rot hD
  have hPc := (z_app_P hPx).1
  have hDc := (z_app_D hDx).1
  have hFc := z_free hDx hS hA
  refine va_callv (va_runV (As := [.ref (a 0 0)]) (rest := []) ⟨hx, hb, hml, hown, hts⟩ (c_X0_remember l D cs h a H.size u1_2 u1_3 _ hw) (cwV 1 hts gX3_resize_X0_remember rfl rfl rfl (by decide +kernel) ⟨Nat.le_of_ble_eq_true rfl, Nat.le_of_ble_eq_true rfl⟩) (PC_V hPc hDc hKK 0 0 rfl rfl) rfl rfl hl.1 rfl (lv_room (Nat.le_of_ble_eq_true rfl)) dX3_resize_20 ⟨Nat.le_of_ble_eq_true rfl, Nat.le_of_ble_eq_true rfl⟩) hS (fun q _ h => hFc q h) hFc (fun u3 t H locs ht hvm hw hB hz1 hk1 hS => ?_)
  obtain ⟨u3_0, u3_1⟩ := u3
  obtain ⟨hP1, hD1⟩ := hB
  rw [ht] at hP1
  obtain ⟨hPx, hDx⟩ := z_join hPx hDx hk1 hFc hP1 hD1
  have hP : va_P D vwCl (w_Xo cs x tq h a u1_0 ++ w_Text cs tq u1_1 ++ w_Hist cs h a u3_0 ++ linesW cs a 18 u3_1) H := z_perm_P z_rotb hPx
  have hD : va_D A (w_Xo cs x tq h a u1_0 ++ w_Text cs tq u1_1 ++ w_Hist cs h a u3_0 ++ linesW cs a 18 u3_1) := z_perm_D z_rotb hDx
  refine lv_aload_n hx hb dX3_resize_23 rfl (lv_at hl 0 rfl) ?_
  refine va_get (D := D) (ci := 3) (v := .ref (a 0 0)) (C := RX3) (T := TX3) (N := 7) hx hb hts (h_X3_X3_resize) hown hK hP 0 rfl rfl 1 (by decide) (z_w hts 2 rfl) (fun _ h9 => h9) rfl dX3_resize_24 ?_
  refine va_get (D := D) (ci := 1) (v := .ref (a 0 1)) (C := RX1) (T := TX1) (N := 13) hx hb hts (h_X1_X3_resize) hown hK hP 8 rfl rfl 4 (by decide) (z_w hts 3 rfl) (fun _ h9 => h9) rfl dX3_resize_27 ?_
  refine lv_iload_n hx hb dX3_resize_30 rfl (lv_at hl 1 rfl) ?_
  obtain ⟨h4, hw⟩ := hw
  refine va_iald hx hb hK hP 9 0 rfl rfl h4 dX3_resize_31 ?_
  refine lv_istore_n (lv' := [(3, .int ((u3_1 0).1 1 x1.toNatClampNeg)), (0, .ref (x 0)), (1, .int x1), (2, .int x2)]) hx hb dX3_resize_32 rfl hl (by decide) rfl (fun ls hl => ?_)
  refine lv_aload_n hx hb dX3_resize_33 rfl (lv_at hl 1 rfl) ?_
  refine va_get (D := D) (ci := 3) (v := .ref (a 0 0)) (C := RX3) (T := TX3) (N := 7) hx hb hts (h_X3_X3_resize) hown hK hP 0 rfl rfl 1 (by decide) (z_w hts 2 rfl) (fun _ h9 => h9) rfl dX3_resize_34 ?_
  refine lv_iload_n hx hb dX3_resize_37 rfl (lv_at hl 2 rfl) ?_
  refine lv_iload_n hx hb dX3_resize_38 rfl (lv_at hl 3 rfl) ?_
  have hPx := z_perm_P (lines_1 (cs := cs) (a := a) (n := 18) (i := 0) u3_1 (w_Xo cs x tq h a u1_0 ++ w_Text cs tq u1_1 ++ w_Hist cs h a u3_0) (by decide)) hP
  have hDx := z_perm_D (lines_1 (cs := cs) (a := a) (n := 18) (i := 0) u3_1 (w_Xo cs x tq h a u1_0 ++ w_Text cs tq u1_1 ++ w_Hist cs h a u3_0) (by decide)) hD
  have hPc := (z_app_P hPx).1
  have hDc := (z_app_D hDx).1
  have hFc := z_free hDx hS hA
  refine va_callv (va_runV (As := [.int x1, .int x2]) (rest := []) ⟨hx, hb, hml, hown, hts⟩ (c_X1_changePlaces l D cs (a 0) H.size (u3_1 0) x1 x2 _ hw) (cwV 2 hts gX3_resize_X1_changePlaces rfl rfl rfl (by decide +kernel) ⟨Nat.le_of_ble_eq_true rfl, Nat.le_of_ble_eq_true rfl⟩) (PC_V hPc hDc hKK 0 1 rfl rfl) rfl rfl hl.1 rfl (lv_room (Nat.le_of_ble_eq_true rfl)) dX3_resize_39 ⟨Nat.le_of_ble_eq_true rfl, Nat.le_of_ble_eq_true rfl⟩) hS (fun q _ h => hFc q h) hFc (fun u5 t H locs ht hvm hw hB hz1 hk1 hS => ?_)
  obtain ⟨hP1, hD1⟩ := hB
  rw [ht] at hP1
  obtain ⟨hPx, hDx⟩ := z_join hPx hDx hk1 hFc hP1 hD1
  have hP : va_P D vwCl (w_Xo cs x tq h a u1_0 ++ w_Text cs tq u1_1 ++ w_Hist cs h a u3_0 ++ linesW cs a 18 (va_up u3_1 0 u5)) H := z_perm_P (lines_1b (cs := cs) (a := a) (n := 18) (i := 0) u3_1 (w_Xo cs x tq h a u1_0 ++ w_Text cs tq u1_1 ++ w_Hist cs h a u3_0) (by decide) u5) hPx
  have hD : va_D A (w_Xo cs x tq h a u1_0 ++ w_Text cs tq u1_1 ++ w_Hist cs h a u3_0 ++ linesW cs a 18 (va_up u3_1 0 u5)) := z_perm_D (lines_1b (cs := cs) (a := a) (n := 18) (i := 0) u3_1 (w_Xo cs x tq h a u1_0 ++ w_Text cs tq u1_1 ++ w_Hist cs h a u3_0) (by decide) u5) hDx
  refine lv_iload_n hx hb dX3_resize_42 rfl (lv_at hl 0 rfl) ?_
  refine W.widen (k := 2) (n := 12) (Nat.le_of_ble_eq_true rfl) (Nat.le_of_ble_eq_true rfl) (vx_ret ?_)
  exact W.iret (v := (u3_1 0).1 1 x1.toNatClampNeg) hx hb hr (fun t ht hW => ⟨⟨(u3_1 0).1 1 x1.toNatClampNeg, (u1_0, u1_1, u3_0, va_up u3_1 0 u5), rfl, hw, by rw [ht]; exact hP, hD⟩, hS.F ht⟩) hS.2.2 dX3_resize_43 hlocks
set_option maxHeartbeats 4000000 in
set_option maxRecDepth 100000 in
theorem c_X3_resize (l : Launch) (hfl : l.stackTraces = false) (D : va_G) (cs : Nat → ClassId) (x : Nat → Nat) (tq : Nat → Nat) (h : Nat → Nat) (a : Nat → Nat → Nat) (sz : Nat) (sa : Nat → Nat) (S : XO) (tx : TS) (hs : HS) (Ls : (Nat → LnS)) (x1 : Int32) (x2 : Int32) (Q : Int32 → XO → TS → HS → (Nat → LnS) → Prop) (QX : String → XO → TS → HS → (Nat → LnS) → Prop) (hw : wp_X3_resize S tx hs Ls x1 x2 Q QX) : vx_Met l yX3_resize wsX3_resize ({ frames := 7, cells := 2, slots := 12, locals := 104 } : Room) (va_Pc [.ref (x 0), .int x1, .int x2] (PX D cs (w_Xo cs x tq h a S ++ w_Text cs tq tx ++ w_Hist cs h a hs ++ linesW cs a 18 Ls) sa sz)) (va_Qi (fun r (u : XO × TS × HS × (Nat → LnS)) => Q r u.1 u.2.1 u.2.2.1 u.2.2.2) (fun (u : XO × TS × HS × (Nat → LnS)) t => va_P D vwCl (w_Xo cs x tq h a u.1 ++ w_Text cs tq u.2.1 ++ w_Hist cs h a u.2.2.1 ++ linesW cs a 18 u.2.2.2) t.heap ∧ va_D (va_A (w_Xo cs x tq h a S ++ w_Text cs tq tx ++ w_Hist cs h a hs ++ linesW cs a 18 Ls) sz) (w_Xo cs x tq h a u.1 ++ w_Text cs tq u.2.1 ++ w_Hist cs h a u.2.2.1 ++ linesW cs a 18 u.2.2.2)) (va_A (w_Xo cs x tq h a S ++ w_Text cs tq tx ++ w_Hist cs h a hs ++ linesW cs a 18 Ls) sz)) (vx_X (fun (_ : XO × TS × HS × (Nat → LnS)) => True) (fun E (u : XO × TS × HS × (Nat → LnS)) t => QX E u.1 u.2.1 u.2.2.1 u.2.2.2 ∧ va_P D vwCl (w_Xo cs x tq h a u.1 ++ w_Text cs tq u.2.1 ++ w_Hist cs h a u.2.2.1 ++ linesW cs a 18 u.2.2.2) t.heap ∧ va_D (va_A (w_Xo cs x tq h a S ++ w_Text cs tq tx ++ w_Hist cs h a hs ++ linesW cs a 18 Ls) sz) (w_Xo cs x tq h a u.1 ++ w_Text cs tq u.2.1 ++ w_Hist cs h a u.2.2.1 ++ linesW cs a 18 u.2.2.2)) (va_A (w_Xo cs x tq h a S ++ w_Text cs tq tx ++ w_Hist cs h a hs ++ linesW cs a 18 Ls) sz)) 2 12 (va_A (w_Xo cs x tq h a S ++ w_Text cs tq tx ++ w_Hist cs h a hs ++ linesW cs a 18 Ls) sz) := by
  refine vx_ofW (cc := cX3_resize) (maxL := 4) (ret := (some .int)) (by decide) rfl ?_
  intro p e s m args below meth c s₁ B hml hT0 hv
  obtain ⟨rfl, ⟨hsz, hP, hKK, hD0⟩, hTW, hTZ⟩ := hv
  have hC : MAt p s m _ meth c RX3 cX3_resize 4 (some .int) wsX3_resize D cs := ⟨B.exec, B.bytes, B.returns, hml, findClass_of_methodNamed B.named, atoms_spec (ws := wsX3_resize) B.pre, B.notSynchronized, hKK⟩
  have hl := lv_entry ([.ref (x 0), .int x1, .int x2]) (n := 4) (Nat.le_of_ble_eq_true rfl)
  rw [lg_entry_eq]
  generalize (lg_sl ([.ref (x 0), .int x1, .int x2]) ++ List.replicate (4 - (lg_sl ([.ref (x 0), .int x1, .int x2])).length) Slot.unset).toArray = ls at hl ⊢
  subst hsz
  have hD := hD0.self (sz := s.heap.size)
  have hA : ∀ z : Nat, s.heap.size ≤ z → va_A (w_Xo cs x tq h a S ++ w_Text cs tq tx ++ w_Hist cs h a hs ++ linesW cs a 18 Ls) s.heap.size z := fun z h => Or.inr h
  exact t_X3_resize hC hfl hT0 hTW hTZ x tq h a S tx hs Ls x1 x2 Q QX hA hw s.heap [] hP hD va_S.rf ls hl
theorem h_X3_X3_pour : ∀ w ∈ u_ws RX3 TX3 7, w ∈ wsX3_pour := fun _ h => List.mem_cons_of_mem _ (List.mem_append_left _ (List.mem_append_left _ (List.mem_append_left _ (List.mem_append_left _ (List.mem_append_right _ h)))))
set_option maxHeartbeats 4000000 in
set_option maxRecDepth 100000 in
theorem t_X3_pour {p : Program} {l : Launch} {e : Env} {s : State} {m : MethodId} {args : Array Value} {below : List Frame} {meth : Method} {c : Code} {D : va_G} {cs : Nat → ClassId} {A : Nat → Prop} (hC : MAt p s m args meth c RX3 cX3_pour 5 (some .long) wsX3_pour D cs) (hfl : l.stackTraces = false) (hT0 : ∀ x ∈ c.exceptionTable.toList, False) {sa : Nat → Nat} (hTW : TW sa s) (hTZ : TZ A s s.heap) (x : Nat → Nat) (tq : Nat → Nat) (h : Nat → Nat) (a : Nat → Nat → Nat) (S : XO) (tx : TS) (hs : HS) (Ls : (Nat → LnS)) (x1 : Int32) (x2 : Int32) (Q : Int64 → XO → TS → HS → (Nat → LnS) → Prop) (QX : String → XO → TS → HS → (Nat → LnS) → Prop) (hA : ∀ q : Nat, s.heap.size ≤ q → A q) (hw : wp_X3_pour S tx hs Ls x1 x2 Q QX) (H : Heap) (locs : List Loc) (hP : va_P D vwCl (w_Xo cs x tq h a S ++ w_Text cs tq tx ++ w_Hist cs h a hs ++ linesW cs a 18 Ls) H) (hD : va_D A (w_Xo cs x tq h a S ++ w_Text cs tq tx ++ w_Hist cs h a hs ++ linesW cs a 18 Ls)) (hS : va_S A s.heap H locs) (ls : Array Slot) (hl : lv_has ls 5 [(0, .ref (x 0)), (1, .int x1), (2, .int x2)]) : W p l e ({ frames := 7, cells := 3, slots := 18, locals := 103 } : Room) s m args below meth c H locs 0 0 (vx_MQ below (va_Ql (fun r (u : XO × TS × HS × (Nat → LnS)) => Q r u.1 u.2.1 u.2.2.1 u.2.2.2) (fun (u : XO × TS × HS × (Nat → LnS)) t => va_P D vwCl (w_Xo cs x tq h a u.1 ++ w_Text cs tq u.2.1 ++ w_Hist cs h a u.2.2.1 ++ linesW cs a 18 u.2.2.2) t.heap ∧ va_D A (w_Xo cs x tq h a u.1 ++ w_Text cs tq u.2.1 ++ w_Hist cs h a u.2.2.1 ++ linesW cs a 18 u.2.2.2)) A) (vx_X (fun (_ : XO × TS × HS × (Nat → LnS)) => True) (fun E (u : XO × TS × HS × (Nat → LnS)) t => QX E u.1 u.2.1 u.2.2.1 u.2.2.2 ∧ va_P D vwCl (w_Xo cs x tq h a u.1 ++ w_Text cs tq u.2.1 ++ w_Hist cs h a u.2.2.1 ++ linesW cs a 18 u.2.2.2) t.heap ∧ va_D A (w_Xo cs x tq h a u.1 ++ w_Text cs tq u.2.1 ++ w_Hist cs h a u.2.2.1 ++ linesW cs a 18 u.2.2.2)) A) args s 3 18 A) (F0 m 0 ls []) := by
  obtain ⟨hx, hb, hr, hml, hown, hts, hlocks, hKK⟩ := id hC
  have hK := hKK.1
  refine lv_aload_n hx hb dX3_pour_0 rfl (lv_at hl 0 rfl) ?_
  refine lv_iload_n hx hb dX3_pour_1 rfl (lv_at hl 1 rfl) ?_
  have hFc := z_free (wr := []) (by rw [List.append_nil]; exact hD) hS hA
  refine vx_callv (vx_runV (As := [.int x1]) (rest := []) ⟨hx, hb, hml, hown, hts⟩ (c_X3_requireCounter l hfl D cs x tq h a H.size sa S tx hs Ls x1 _ _ hw) (cwV 1 hts gX3_pour_X3_requireCounter rfl rfl rfl (by decide +kernel) ⟨Nat.le_of_ble_eq_true rfl, Nat.le_of_ble_eq_true rfl⟩) (PX_V hP hD hKK hTW hTZ hS hFc 0 3 rfl rfl) rfl rfl hl.1 rfl (lv_room (Nat.le_of_ble_eq_true rfl)) dX3_pour_2 ⟨Nat.le_of_ble_eq_true rfl, Nat.le_of_ble_eq_true rfl⟩) hS (fun q _ h => hFc q h) hFc (fun q _ h => hFc q h) ?_ (fun u1 t H locs ht hvm hw hB hz1 hk1 hS => ?_)
  · intro E ce q9 u1 t H locs ht hvm hpx hB hz1 hk1 hS hq9 hce hcl
    obtain ⟨u1_0, u1_1, u1_2, u1_3⟩ := u1
    obtain ⟨hw, hP1, hD1⟩ := hB
    rw [ht] at hP1
    have hD : va_D A (w_Xo cs x tq h a u1_0 ++ w_Text cs tq u1_1 ++ w_Hist cs h a u1_2 ++ linesW cs a 18 u1_3) := hD1.weaken (fun k q _ h => hFc q.1 h)
    have hP : va_P D vwCl (w_Xo cs x tq h a u1_0 ++ w_Text cs tq u1_1 ++ w_Hist cs h a u1_2 ++ linesW cs a 18 u1_3) H := hP1
    exact vx_out (fun x h => (hT0 x h).elim) hlocks hq9 hce hcl (fun t2 ht2 hvm2 => ⟨(u1_0, u1_1, u1_2, u1_3), trivial, ⟨hw, by rw [ht2]; exact hP, hD⟩, hS.F ht2⟩) hS.2.2 (Nat.le_of_ble_eq_true rfl) (Nat.le_of_ble_eq_true rfl)
  obtain ⟨u1_0, u1_1, u1_2, u1_3⟩ := u1
  obtain ⟨hP1, hD1⟩ := hB
  rw [ht] at hP1
  have hD : va_D A (w_Xo cs x tq h a u1_0 ++ w_Text cs tq u1_1 ++ w_Hist cs h a u1_2 ++ linesW cs a 18 u1_3) := hD1.weaken (fun k q _ h => hFc q.1 h)
  have hP : va_P D vwCl (w_Xo cs x tq h a u1_0 ++ w_Text cs tq u1_1 ++ w_Hist cs h a u1_2 ++ linesW cs a 18 u1_3) H := hP1
  refine lv_aload_n hx hb dX3_pour_5 rfl (lv_at hl 0 rfl) ?_
  refine lv_iload_n hx hb dX3_pour_6 rfl (lv_at hl 2 rfl) ?_
  have hFc := z_free (wr := []) (by rw [List.append_nil]; exact hD) hS hA
  refine vx_callv (vx_runV (As := [.int x2]) (rest := []) ⟨hx, hb, hml, hown, hts⟩ (c_X3_requireCounter l hfl D cs x tq h a H.size sa u1_0 u1_1 u1_2 u1_3 x2 _ _ hw) (cwV 1 hts gX3_pour_X3_requireCounter rfl rfl rfl (by decide +kernel) ⟨Nat.le_of_ble_eq_true rfl, Nat.le_of_ble_eq_true rfl⟩) (PX_V hP hD hKK hTW hTZ hS hFc 0 3 rfl rfl) rfl rfl hl.1 rfl (lv_room (Nat.le_of_ble_eq_true rfl)) dX3_pour_7 ⟨Nat.le_of_ble_eq_true rfl, Nat.le_of_ble_eq_true rfl⟩) hS (fun q _ h => hFc q h) hFc (fun q _ h => hFc q h) ?_ (fun u2 t H locs ht hvm hw hB hz1 hk1 hS => ?_)
  · intro E ce q9 u2 t H locs ht hvm hpx hB hz1 hk1 hS hq9 hce hcl
    obtain ⟨u2_0, u2_1, u2_2, u2_3⟩ := u2
    obtain ⟨hw, hP1, hD1⟩ := hB
    rw [ht] at hP1
    have hD : va_D A (w_Xo cs x tq h a u2_0 ++ w_Text cs tq u2_1 ++ w_Hist cs h a u2_2 ++ linesW cs a 18 u2_3) := hD1.weaken (fun k q _ h => hFc q.1 h)
    have hP : va_P D vwCl (w_Xo cs x tq h a u2_0 ++ w_Text cs tq u2_1 ++ w_Hist cs h a u2_2 ++ linesW cs a 18 u2_3) H := hP1
    exact vx_out (fun x h => (hT0 x h).elim) hlocks hq9 hce hcl (fun t2 ht2 hvm2 => ⟨(u2_0, u2_1, u2_2, u2_3), trivial, ⟨hw, by rw [ht2]; exact hP, hD⟩, hS.F ht2⟩) hS.2.2 (Nat.le_of_ble_eq_true rfl) (Nat.le_of_ble_eq_true rfl)
  obtain ⟨u2_0, u2_1, u2_2, u2_3⟩ := u2
  obtain ⟨hP1, hD1⟩ := hB
  rw [ht] at hP1
  have hD : va_D A (w_Xo cs x tq h a u2_0 ++ w_Text cs tq u2_1 ++ w_Hist cs h a u2_2 ++ linesW cs a 18 u2_3) := hD1.weaken (fun k q _ h => hFc q.1 h)
  have hP : va_P D vwCl (w_Xo cs x tq h a u2_0 ++ w_Text cs tq u2_1 ++ w_Hist cs h a u2_2 ++ linesW cs a 18 u2_3) H := hP1
  refine lv_iload_n hx hb dX3_pour_10 rfl (lv_at hl 1 rfl) ?_
  refine lv_iload_n hx hb dX3_pour_11 rfl (lv_at hl 2 rfl) ?_
  refine lv_icmp_ne (tgt := 25) hx hb dX3_pour_12 (by decide) (fun c3 => ?_) (fun c3 => ?_)
  · have hw := hw.2 c3
    refine lv_aload_n hx hb dX3_pour_25 rfl (lv_at hl 0 rfl) ?_
    refine va_get (D := D) (ci := 3) (v := .ref (h 0)) (C := RX3) (T := TX3) (N := 7) hx hb hts (h_X3_X3_pour) hown hK hP 0 rfl rfl 2 (by decide) (z_w hts 3 rfl) (fun _ h9 => h9) rfl dX3_pour_26 ?_
    refine lv_aload_n hx hb dX3_pour_29 rfl (lv_at hl 0 rfl) ?_
    refine va_get (D := D) (ci := 3) (v := .ref (a 0 0)) (C := RX3) (T := TX3) (N := 7) hx hb hts (h_X3_X3_pour) hown hK hP 0 rfl rfl 1 (by decide) (z_w hts 4 rfl) (fun _ h9 => h9) rfl dX3_pour_30 ?_
    have hPx := z_perm_P z_rot hP
    have hDx := z_perm_D z_rot hD
    have hPc := (z_app_P hPx).1
    have hDc := (z_app_D hDx).1
    have hFc := z_free hDx hS hA
    refine va_callv (va_runV (As := [.ref (a 0 0)]) (rest := []) ⟨hx, hb, hml, hown, hts⟩ (c_X0_remember l D cs h a H.size u2_2 u2_3 _ hw) (cwV 1 hts gX3_pour_X0_remember rfl rfl rfl (by decide +kernel) ⟨Nat.le_of_ble_eq_true rfl, Nat.le_of_ble_eq_true rfl⟩) (PC_V hPc hDc hKK 0 0 rfl rfl) rfl rfl hl.1 rfl (lv_room (Nat.le_of_ble_eq_true rfl)) dX3_pour_33 ⟨Nat.le_of_ble_eq_true rfl, Nat.le_of_ble_eq_true rfl⟩) hS (fun q _ h => hFc q h) hFc (fun u4 t H locs ht hvm hw hB hz1 hk1 hS => ?_)
    obtain ⟨u4_0, u4_1⟩ := u4
    obtain ⟨hP1, hD1⟩ := hB
    rw [ht] at hP1
    obtain ⟨hPx, hDx⟩ := z_join hPx hDx hk1 hFc hP1 hD1
    have hP : va_P D vwCl (w_Xo cs x tq h a u2_0 ++ w_Text cs tq u2_1 ++ w_Hist cs h a u4_0 ++ linesW cs a 18 u4_1) H := z_perm_P z_rotb hPx
    have hD : va_D A (w_Xo cs x tq h a u2_0 ++ w_Text cs tq u2_1 ++ w_Hist cs h a u4_0 ++ linesW cs a 18 u4_1) := z_perm_D z_rotb hDx
    refine lv_aload_n hx hb dX3_pour_36 rfl (lv_at hl 0 rfl) ?_
    refine va_get (D := D) (ci := 3) (v := .ref (a 0 0)) (C := RX3) (T := TX3) (N := 7) hx hb hts (h_X3_X3_pour) hown hK hP 0 rfl rfl 1 (by decide) (z_w hts 4 rfl) (fun _ h9 => h9) rfl dX3_pour_37 ?_
    refine lv_iload_n hx hb dX3_pour_40 rfl (lv_at hl 2 rfl) ?_
    have hPx := z_perm_P (lines_1 (cs := cs) (a := a) (n := 18) (i := 0) u4_1 (w_Xo cs x tq h a u2_0 ++ w_Text cs tq u2_1 ++ w_Hist cs h a u4_0) (by decide)) hP
    have hDx := z_perm_D (lines_1 (cs := cs) (a := a) (n := 18) (i := 0) u4_1 (w_Xo cs x tq h a u2_0 ++ w_Text cs tq u2_1 ++ w_Hist cs h a u4_0) (by decide)) hD
    have hPc := (z_app_P hPx).1
    have hDc := (z_app_D hDx).1
    refine z_calll (va_runV (As := [.int x2]) (rest := []) ⟨hx, hb, hml, hown, hts⟩ (c_X1_fullReading l D cs (a 0) H.size (u4_1 0) x2 _ hw) (cwV 1 hts gX3_pour_X1_fullReading rfl rfl rfl (by decide +kernel) ⟨Nat.le_of_ble_eq_true rfl, Nat.le_of_ble_eq_true rfl⟩) (PC_V hPc hDc hKK 0 1 rfl rfl) rfl rfl hl.1 rfl (lv_room (Nat.le_of_ble_eq_true rfl)) dX3_pour_41 ⟨Nat.le_of_ble_eq_true rfl, Nat.le_of_ble_eq_true rfl⟩) (fun r5 hw => ?_)
    refine lv_lstore_n (lv' := [(3, .long r5), (0, .ref (x 0)), (1, .int x1), (2, .int x2)]) hx hb dX3_pour_44 rfl hl (by decide) rfl (fun ls hl => ?_)
    refine lv_aload_n hx hb dX3_pour_45 rfl (lv_at hl 1 rfl) ?_
    refine va_get (D := D) (ci := 3) (v := .ref (a 0 0)) (C := RX3) (T := TX3) (N := 7) hx hb hts (h_X3_X3_pour) hown hK hP 0 rfl rfl 1 (by decide) (z_w hts 4 rfl) (fun _ h9 => h9) rfl dX3_pour_46 ?_
    refine lv_iload_n hx hb dX3_pour_49 rfl (lv_at hl 2 rfl) ?_
    refine lv_iload_n hx hb dX3_pour_50 rfl (lv_at hl 3 rfl) ?_
    have hPx := z_perm_P (lines_1 (cs := cs) (a := a) (n := 18) (i := 0) u4_1 (w_Xo cs x tq h a u2_0 ++ w_Text cs tq u2_1 ++ w_Hist cs h a u4_0) (by decide)) hP
    have hDx := z_perm_D (lines_1 (cs := cs) (a := a) (n := 18) (i := 0) u4_1 (w_Xo cs x tq h a u2_0 ++ w_Text cs tq u2_1 ++ w_Hist cs h a u4_0) (by decide)) hD
    have hPc := (z_app_P hPx).1
    have hDc := (z_app_D hDx).1
    have hFc := z_free hDx hS hA
    refine va_callv (va_runV (As := [.int x1, .int x2]) (rest := []) ⟨hx, hb, hml, hown, hts⟩ (c_X1_pourInto l D cs (a 0) H.size (u4_1 0) x1 x2 _ hw) (cwV 2 hts gX3_pour_X1_pourInto rfl rfl rfl (by decide +kernel) ⟨Nat.le_of_ble_eq_true rfl, Nat.le_of_ble_eq_true rfl⟩) (PC_V hPc hDc hKK 0 1 rfl rfl) rfl rfl hl.1 rfl (lv_room (Nat.le_of_ble_eq_true rfl)) dX3_pour_51 ⟨Nat.le_of_ble_eq_true rfl, Nat.le_of_ble_eq_true rfl⟩) hS (fun q _ h => hFc q h) hFc (fun u6 t H locs ht hvm hw hB hz1 hk1 hS => ?_)
    obtain ⟨hP1, hD1⟩ := hB
    rw [ht] at hP1
    obtain ⟨hPx, hDx⟩ := z_join hPx hDx hk1 hFc hP1 hD1
    have hP : va_P D vwCl (w_Xo cs x tq h a u2_0 ++ w_Text cs tq u2_1 ++ w_Hist cs h a u4_0 ++ linesW cs a 18 (va_up u4_1 0 u6)) H := z_perm_P (lines_1b (cs := cs) (a := a) (n := 18) (i := 0) u4_1 (w_Xo cs x tq h a u2_0 ++ w_Text cs tq u2_1 ++ w_Hist cs h a u4_0) (by decide) u6) hPx
    have hD : va_D A (w_Xo cs x tq h a u2_0 ++ w_Text cs tq u2_1 ++ w_Hist cs h a u4_0 ++ linesW cs a 18 (va_up u4_1 0 u6)) := z_perm_D (lines_1b (cs := cs) (a := a) (n := 18) (i := 0) u4_1 (w_Xo cs x tq h a u2_0 ++ w_Text cs tq u2_1 ++ w_Hist cs h a u4_0) (by decide) u6) hDx
    refine lv_aload_n hx hb dX3_pour_54 rfl (lv_at hl 1 rfl) ?_
    refine va_get (D := D) (ci := 3) (v := .ref (a 0 0)) (C := RX3) (T := TX3) (N := 7) hx hb hts (h_X3_X3_pour) hown hK hP 0 rfl rfl 1 (by decide) (z_w hts 4 rfl) (fun _ h9 => h9) rfl dX3_pour_55 ?_
    refine lv_iload_n hx hb dX3_pour_58 rfl (lv_at hl 3 rfl) ?_
    have hPx := z_perm_P (lines_1 (cs := cs) (a := a) (n := 18) (i := 0) (va_up u4_1 0 u6) (w_Xo cs x tq h a u2_0 ++ w_Text cs tq u2_1 ++ w_Hist cs h a u4_0) (by decide)) hP
    have hDx := z_perm_D (lines_1 (cs := cs) (a := a) (n := 18) (i := 0) (va_up u4_1 0 u6) (w_Xo cs x tq h a u2_0 ++ w_Text cs tq u2_1 ++ w_Hist cs h a u4_0) (by decide)) hD
    have hPc := (z_app_P hPx).1
    have hDc := (z_app_D hDx).1
    refine z_calll (va_runV (As := [.int x2]) (rest := []) ⟨hx, hb, hml, hown, hts⟩ (c_X1_fullReading l D cs (a 0) H.size u6 x2 _ hw) (cwV 1 hts gX3_pour_X1_fullReading rfl rfl rfl (by decide +kernel) ⟨Nat.le_of_ble_eq_true rfl, Nat.le_of_ble_eq_true rfl⟩) (PC_V hPc hDc hKK 0 1 rfl rfl) rfl rfl hl.1 rfl (lv_room (Nat.le_of_ble_eq_true rfl)) dX3_pour_59 ⟨Nat.le_of_ble_eq_true rfl, Nat.le_of_ble_eq_true rfl⟩) (fun r7 hw => ?_)
    refine lv_lload_n hx hb dX3_pour_62 rfl (lv_at hl 0 rfl) ?_
    refine lv_lsub hx hb dX3_pour_63 ?_
    refine W.widen (k := 3) (n := 18) (Nat.le_of_ble_eq_true rfl) (Nat.le_of_ble_eq_true rfl) (vx_ret ?_)
    exact W.lret (v := r7 - r5) hx hb hr (fun t ht hW => ⟨⟨r7 - r5, (u2_0, u2_1, u4_0, va_up u4_1 0 u6), rfl, hw, by rw [ht]; exact hP, hD⟩, hS.F ht⟩) hS.2.2 dX3_pour_64 hlocks
  · have hw := hw.1 c3
    exact vx_throwS hx hb hfl hown (by decide +kernel) (by decide +kernel) (z_w hts 1 rfl) (z_w hts 2 rfl) (show vk_R RX3 207 "a counter can't be poured into itself" (sa 6) s from hTW.1 6 (by decide)) (vx_hat (fun w h => hts w (List.mem_cons_of_mem _ (List.mem_append_left _ (List.mem_append_right _ h)))) zb_eIAE (vx_c (va_Nw.use rfl hTW.2.2.1) (vx_c (va_Nw.use rfl hTW.2.2.2.2.2.2.2.2.2.2.1) (vx_c (va_Nw.use rfl hTW.2.2.2.2.2.2.2.2.2.2.2.1) (vx_c (va_Nw.use rfl hTW.2.2.2.2.2.2.2.2.2.2.2.2) vx_n))))) zh_eIAE hTZ.1 hTZ.2 hS (hl.1.trans hml.symm) dX3_pour_15 dX3_pour_18 dX3_pour_19 dX3_pour_21 dX3_pour_24 (fun x h => (hT0 x h).elim) (Nat.le_of_ble_eq_true rfl) (Nat.le_of_ble_eq_true rfl) (Nat.le_of_ble_eq_true rfl) (Nat.le_of_ble_eq_true rfl) hlocks (fun t ha hz hk => ⟨(u2_0, u2_1, u2_2, u2_3), trivial, ⟨hw, hP.kept (fun k q hq => hk q.1 (hP k q hq).lt), hD⟩, ⟨Nat.le_trans hS.1 hz, fun q h1 h2 => (hk q (Nat.lt_of_lt_of_le h1 hS.1)).trans (hS.2.1 q h1 h2)⟩⟩) hS.2.2 (Nat.le_of_ble_eq_true rfl) (Nat.le_of_ble_eq_true rfl)
set_option maxHeartbeats 4000000 in
set_option maxRecDepth 100000 in
theorem c_X3_pour (l : Launch) (hfl : l.stackTraces = false) (D : va_G) (cs : Nat → ClassId) (x : Nat → Nat) (tq : Nat → Nat) (h : Nat → Nat) (a : Nat → Nat → Nat) (sz : Nat) (sa : Nat → Nat) (S : XO) (tx : TS) (hs : HS) (Ls : (Nat → LnS)) (x1 : Int32) (x2 : Int32) (Q : Int64 → XO → TS → HS → (Nat → LnS) → Prop) (QX : String → XO → TS → HS → (Nat → LnS) → Prop) (hw : wp_X3_pour S tx hs Ls x1 x2 Q QX) : vx_Met l yX3_pour wsX3_pour ({ frames := 7, cells := 3, slots := 18, locals := 103 } : Room) (va_Pc [.ref (x 0), .int x1, .int x2] (PX D cs (w_Xo cs x tq h a S ++ w_Text cs tq tx ++ w_Hist cs h a hs ++ linesW cs a 18 Ls) sa sz)) (va_Ql (fun r (u : XO × TS × HS × (Nat → LnS)) => Q r u.1 u.2.1 u.2.2.1 u.2.2.2) (fun (u : XO × TS × HS × (Nat → LnS)) t => va_P D vwCl (w_Xo cs x tq h a u.1 ++ w_Text cs tq u.2.1 ++ w_Hist cs h a u.2.2.1 ++ linesW cs a 18 u.2.2.2) t.heap ∧ va_D (va_A (w_Xo cs x tq h a S ++ w_Text cs tq tx ++ w_Hist cs h a hs ++ linesW cs a 18 Ls) sz) (w_Xo cs x tq h a u.1 ++ w_Text cs tq u.2.1 ++ w_Hist cs h a u.2.2.1 ++ linesW cs a 18 u.2.2.2)) (va_A (w_Xo cs x tq h a S ++ w_Text cs tq tx ++ w_Hist cs h a hs ++ linesW cs a 18 Ls) sz)) (vx_X (fun (_ : XO × TS × HS × (Nat → LnS)) => True) (fun E (u : XO × TS × HS × (Nat → LnS)) t => QX E u.1 u.2.1 u.2.2.1 u.2.2.2 ∧ va_P D vwCl (w_Xo cs x tq h a u.1 ++ w_Text cs tq u.2.1 ++ w_Hist cs h a u.2.2.1 ++ linesW cs a 18 u.2.2.2) t.heap ∧ va_D (va_A (w_Xo cs x tq h a S ++ w_Text cs tq tx ++ w_Hist cs h a hs ++ linesW cs a 18 Ls) sz) (w_Xo cs x tq h a u.1 ++ w_Text cs tq u.2.1 ++ w_Hist cs h a u.2.2.1 ++ linesW cs a 18 u.2.2.2)) (va_A (w_Xo cs x tq h a S ++ w_Text cs tq tx ++ w_Hist cs h a hs ++ linesW cs a 18 Ls) sz)) 3 18 (va_A (w_Xo cs x tq h a S ++ w_Text cs tq tx ++ w_Hist cs h a hs ++ linesW cs a 18 Ls) sz) := by
  refine vx_ofW (cc := cX3_pour) (maxL := 5) (ret := (some .long)) (by decide) rfl ?_
  intro p e s m args below meth c s₁ B hml hT0 hv
  obtain ⟨rfl, ⟨hsz, hP, hKK, hD0⟩, hTW, hTZ⟩ := hv
  have hC : MAt p s m _ meth c RX3 cX3_pour 5 (some .long) wsX3_pour D cs := ⟨B.exec, B.bytes, B.returns, hml, findClass_of_methodNamed B.named, atoms_spec (ws := wsX3_pour) B.pre, B.notSynchronized, hKK⟩
  have hl := lv_entry ([.ref (x 0), .int x1, .int x2]) (n := 5) (Nat.le_of_ble_eq_true rfl)
  rw [lg_entry_eq]
  generalize (lg_sl ([.ref (x 0), .int x1, .int x2]) ++ List.replicate (5 - (lg_sl ([.ref (x 0), .int x1, .int x2])).length) Slot.unset).toArray = ls at hl ⊢
  subst hsz
  have hD := hD0.self (sz := s.heap.size)
  have hA : ∀ z : Nat, s.heap.size ≤ z → va_A (w_Xo cs x tq h a S ++ w_Text cs tq tx ++ w_Hist cs h a hs ++ linesW cs a 18 Ls) s.heap.size z := fun z h => Or.inr h
  exact t_X3_pour hC hfl hT0 hTW hTZ x tq h a S tx hs Ls x1 x2 Q QX hA hw s.heap [] hP hD va_S.rf ls hl
theorem h_X0_X3_undo : ∀ w ∈ u_ws RX0 TX0 3, w ∈ wsX3_undo := fun _ h => List.mem_cons_of_mem _ (List.mem_append_left _ (List.mem_append_left _ (List.mem_append_right _ h)))
theorem h_X3_X3_undo : ∀ w ∈ u_ws RX3 TX3 7, w ∈ wsX3_undo := fun _ h => List.mem_cons_of_mem _ (List.mem_append_left _ (List.mem_append_left _ (List.mem_append_left _ (List.mem_append_right _ h))))
set_option maxHeartbeats 4000000 in
set_option maxRecDepth 100000 in
theorem t_X3_undo {p : Program} {l : Launch} {e : Env} {s : State} {m : MethodId} {args : Array Value} {below : List Frame} {meth : Method} {c : Code} {D : va_G} {cs : Nat → ClassId} {A : Nat → Prop} (hC : MAt p s m args meth c RX3 cX3_undo 1 (some .int) wsX3_undo D cs) (hfl : l.stackTraces = false) (hT0 : ∀ x ∈ c.exceptionTable.toList, False) {sa : Nat → Nat} (hTW : TW sa s) (hTZ : TZ A s s.heap) (x : Nat → Nat) (tq : Nat → Nat) (h : Nat → Nat) (a : Nat → Nat → Nat) (S : XO) (tx : TS) (hs : HS) (Ls : (Nat → LnS)) (Q : Int32 → XO → TS → HS → (Nat → LnS) → Prop) (QX : String → XO → TS → HS → (Nat → LnS) → Prop) (hA : ∀ q : Nat, s.heap.size ≤ q → A q) (hw : wp_X3_undo S tx hs Ls Q QX) (H : Heap) (locs : List Loc) (hP : va_P D vwCl (w_Xo cs x tq h a S ++ w_Text cs tq tx ++ w_Hist cs h a hs ++ linesW cs a 18 Ls) H) (hD : va_D A (w_Xo cs x tq h a S ++ w_Text cs tq tx ++ w_Hist cs h a hs ++ linesW cs a 18 Ls)) (hS : va_S A s.heap H locs) (ls : Array Slot) (hl : lv_has ls 1 [(0, .ref (x 0))]) : W p l e ({ frames := 6, cells := 1, slots := 6, locals := 82 } : Room) s m args below meth c H locs 0 0 (vx_MQ below (va_Qi (fun r (u : XO × TS × HS × (Nat → LnS)) => Q r u.1 u.2.1 u.2.2.1 u.2.2.2) (fun (u : XO × TS × HS × (Nat → LnS)) t => va_P D vwCl (w_Xo cs x tq h a u.1 ++ w_Text cs tq u.2.1 ++ w_Hist cs h a u.2.2.1 ++ linesW cs a 18 u.2.2.2) t.heap ∧ va_D A (w_Xo cs x tq h a u.1 ++ w_Text cs tq u.2.1 ++ w_Hist cs h a u.2.2.1 ++ linesW cs a 18 u.2.2.2)) A) (vx_X (fun (_ : XO × TS × HS × (Nat → LnS)) => True) (fun E (u : XO × TS × HS × (Nat → LnS)) t => QX E u.1 u.2.1 u.2.2.1 u.2.2.2 ∧ va_P D vwCl (w_Xo cs x tq h a u.1 ++ w_Text cs tq u.2.1 ++ w_Hist cs h a u.2.2.1 ++ linesW cs a 18 u.2.2.2) t.heap ∧ va_D A (w_Xo cs x tq h a u.1 ++ w_Text cs tq u.2.1 ++ w_Hist cs h a u.2.2.1 ++ linesW cs a 18 u.2.2.2)) A) args s 1 6 A) (F0 m 0 ls []) := by
  obtain ⟨hx, hb, hr, hml, hown, hts, hlocks, hKK⟩ := id hC
  have hK := hKK.1
  refine lv_aload_n hx hb dX3_undo_0 rfl (lv_at hl 0 rfl) ?_
  refine va_get (D := D) (ci := 3) (v := .ref (h 0)) (C := RX3) (T := TX3) (N := 7) hx hb hts (h_X3_X3_undo) hown hK hP 0 rfl rfl 2 (by decide) (z_w hts 3 rfl) (fun _ h9 => h9) rfl dX3_undo_1 ?_
  refine va_get (D := D) (ci := 0) (v := .int hs.2) (C := RX0) (T := TX0) (N := 3) hx hb hts (h_X0_X3_undo) hown hK hP 6 rfl rfl 2 (by decide) (z_w hts 4 rfl) (fun _ h9 => h9) rfl dX3_undo_4 ?_
  refine lv_if_ne (tgt := 20) hx hb dX3_undo_7 (by decide) (fun c1 => ?_) (fun c1 => ?_)
  · have hw := hw.2 c1
    refine lv_aload_n hx hb dX3_undo_20 rfl (lv_at hl 0 rfl) ?_
    refine va_get (D := D) (ci := 3) (v := .ref (h 0)) (C := RX3) (T := TX3) (N := 7) hx hb hts (h_X3_X3_undo) hown hK hP 0 rfl rfl 2 (by decide) (z_w hts 3 rfl) (fun _ h9 => h9) rfl dX3_undo_21 ?_
    refine lv_aload_n hx hb dX3_undo_24 rfl (lv_at hl 0 rfl) ?_
    refine va_get (D := D) (ci := 3) (v := .ref (a 0 0)) (C := RX3) (T := TX3) (N := 7) hx hb hts (h_X3_X3_undo) hown hK hP 0 rfl rfl 1 (by decide) (z_w hts 5 rfl) (fun _ h9 => h9) rfl dX3_undo_25 ?_
    have hPx := z_perm_P z_rot hP
    have hDx := z_perm_D z_rot hD
    have hPc := (z_app_P hPx).1
    have hDc := (z_app_D hDx).1
    have hFc := z_free hDx hS hA
    refine va_callv (va_runV (As := [.ref (a 0 0)]) (rest := []) ⟨hx, hb, hml, hown, hts⟩ (c_X0_takeBack l D cs h a H.size hs Ls _ hw) (cwV 1 hts gX3_undo_X0_takeBack rfl rfl rfl (by decide +kernel) ⟨Nat.le_of_ble_eq_true rfl, Nat.le_of_ble_eq_true rfl⟩) (PC_V hPc hDc hKK 0 0 rfl rfl) rfl rfl hl.1 rfl (lv_room (Nat.le_of_ble_eq_true rfl)) dX3_undo_28 ⟨Nat.le_of_ble_eq_true rfl, Nat.le_of_ble_eq_true rfl⟩) hS (fun q _ h => hFc q h) hFc (fun u2 t H locs ht hvm hw hB hz1 hk1 hS => ?_)
    obtain ⟨u2_0, u2_1⟩ := u2
    obtain ⟨hP1, hD1⟩ := hB
    rw [ht] at hP1
    obtain ⟨hPx, hDx⟩ := z_join hPx hDx hk1 hFc hP1 hD1
    have hP : va_P D vwCl (w_Xo cs x tq h a S ++ w_Text cs tq tx ++ w_Hist cs h a u2_0 ++ linesW cs a 18 u2_1) H := z_perm_P z_rotb hPx
    have hD : va_D A (w_Xo cs x tq h a S ++ w_Text cs tq tx ++ w_Hist cs h a u2_0 ++ linesW cs a 18 u2_1) := z_perm_D z_rotb hDx
    refine lv_aload_n hx hb dX3_undo_31 rfl (lv_at hl 0 rfl) ?_
    refine va_get (D := D) (ci := 3) (v := .ref (h 0)) (C := RX3) (T := TX3) (N := 7) hx hb hts (h_X3_X3_undo) hown hK hP 0 rfl rfl 2 (by decide) (z_w hts 3 rfl) (fun _ h9 => h9) rfl dX3_undo_32 ?_
    refine va_get (D := D) (ci := 0) (v := .int u2_0.2) (C := RX0) (T := TX0) (N := 3) hx hb hts (h_X0_X3_undo) hown hK hP 6 rfl rfl 2 (by decide) (z_w hts 4 rfl) (fun _ h9 => h9) rfl dX3_undo_35 ?_
    refine W.widen (k := 1) (n := 6) (Nat.le_of_ble_eq_true rfl) (Nat.le_of_ble_eq_true rfl) (vx_ret ?_)
    exact W.iret (v := u2_0.2) hx hb hr (fun t ht hW => ⟨⟨u2_0.2, (S, tx, u2_0, u2_1), rfl, hw, by rw [ht]; exact hP, hD⟩, hS.F ht⟩) hS.2.2 dX3_undo_38 hlocks
  · have hw := hw.1 c1
    exact vx_throwS hx hb hfl hown (by decide +kernel) (by decide +kernel) (z_w hts 1 rfl) (z_w hts 2 rfl) (show vk_R RX3 216 "no state is remembered" (sa 7) s from hTW.1 7 (by decide)) (vx_hat (fun w h => hts w (List.mem_cons_of_mem _ (List.mem_append_right _ h))) zb_eISE (vx_c (va_Nw.use rfl hTW.2.1) (vx_c (va_Nw.use rfl hTW.2.2.2.2.2.2.2.2.2.2.1) (vx_c (va_Nw.use rfl hTW.2.2.2.2.2.2.2.2.2.2.2.1) (vx_c (va_Nw.use rfl hTW.2.2.2.2.2.2.2.2.2.2.2.2) vx_n))))) zh_eISE hTZ.1 hTZ.2 hS (hl.1.trans hml.symm) dX3_undo_10 dX3_undo_13 dX3_undo_14 dX3_undo_16 dX3_undo_19 (fun x h => (hT0 x h).elim) (Nat.le_of_ble_eq_true rfl) (Nat.le_of_ble_eq_true rfl) (Nat.le_of_ble_eq_true rfl) (Nat.le_of_ble_eq_true rfl) hlocks (fun t ha hz hk => ⟨(S, tx, hs, Ls), trivial, ⟨hw, hP.kept (fun k q hq => hk q.1 (hP k q hq).lt), hD⟩, ⟨Nat.le_trans hS.1 hz, fun q h1 h2 => (hk q (Nat.lt_of_lt_of_le h1 hS.1)).trans (hS.2.1 q h1 h2)⟩⟩) hS.2.2 (Nat.le_of_ble_eq_true rfl) (Nat.le_of_ble_eq_true rfl)
set_option maxHeartbeats 4000000 in
set_option maxRecDepth 100000 in
theorem c_X3_undo (l : Launch) (hfl : l.stackTraces = false) (D : va_G) (cs : Nat → ClassId) (x : Nat → Nat) (tq : Nat → Nat) (h : Nat → Nat) (a : Nat → Nat → Nat) (sz : Nat) (sa : Nat → Nat) (S : XO) (tx : TS) (hs : HS) (Ls : (Nat → LnS)) (Q : Int32 → XO → TS → HS → (Nat → LnS) → Prop) (QX : String → XO → TS → HS → (Nat → LnS) → Prop) (hw : wp_X3_undo S tx hs Ls Q QX) : vx_Met l yX3_undo wsX3_undo ({ frames := 6, cells := 1, slots := 6, locals := 82 } : Room) (va_Pc [.ref (x 0)] (PX D cs (w_Xo cs x tq h a S ++ w_Text cs tq tx ++ w_Hist cs h a hs ++ linesW cs a 18 Ls) sa sz)) (va_Qi (fun r (u : XO × TS × HS × (Nat → LnS)) => Q r u.1 u.2.1 u.2.2.1 u.2.2.2) (fun (u : XO × TS × HS × (Nat → LnS)) t => va_P D vwCl (w_Xo cs x tq h a u.1 ++ w_Text cs tq u.2.1 ++ w_Hist cs h a u.2.2.1 ++ linesW cs a 18 u.2.2.2) t.heap ∧ va_D (va_A (w_Xo cs x tq h a S ++ w_Text cs tq tx ++ w_Hist cs h a hs ++ linesW cs a 18 Ls) sz) (w_Xo cs x tq h a u.1 ++ w_Text cs tq u.2.1 ++ w_Hist cs h a u.2.2.1 ++ linesW cs a 18 u.2.2.2)) (va_A (w_Xo cs x tq h a S ++ w_Text cs tq tx ++ w_Hist cs h a hs ++ linesW cs a 18 Ls) sz)) (vx_X (fun (_ : XO × TS × HS × (Nat → LnS)) => True) (fun E (u : XO × TS × HS × (Nat → LnS)) t => QX E u.1 u.2.1 u.2.2.1 u.2.2.2 ∧ va_P D vwCl (w_Xo cs x tq h a u.1 ++ w_Text cs tq u.2.1 ++ w_Hist cs h a u.2.2.1 ++ linesW cs a 18 u.2.2.2) t.heap ∧ va_D (va_A (w_Xo cs x tq h a S ++ w_Text cs tq tx ++ w_Hist cs h a hs ++ linesW cs a 18 Ls) sz) (w_Xo cs x tq h a u.1 ++ w_Text cs tq u.2.1 ++ w_Hist cs h a u.2.2.1 ++ linesW cs a 18 u.2.2.2)) (va_A (w_Xo cs x tq h a S ++ w_Text cs tq tx ++ w_Hist cs h a hs ++ linesW cs a 18 Ls) sz)) 1 6 (va_A (w_Xo cs x tq h a S ++ w_Text cs tq tx ++ w_Hist cs h a hs ++ linesW cs a 18 Ls) sz) := by
  refine vx_ofW (cc := cX3_undo) (maxL := 1) (ret := (some .int)) (by decide) rfl ?_
  intro p e s m args below meth c s₁ B hml hT0 hv
  obtain ⟨rfl, ⟨hsz, hP, hKK, hD0⟩, hTW, hTZ⟩ := hv
  have hC : MAt p s m _ meth c RX3 cX3_undo 1 (some .int) wsX3_undo D cs := ⟨B.exec, B.bytes, B.returns, hml, findClass_of_methodNamed B.named, atoms_spec (ws := wsX3_undo) B.pre, B.notSynchronized, hKK⟩
  have hl := lv_entry ([.ref (x 0)]) (n := 1) (Nat.le_of_ble_eq_true rfl)
  rw [lg_entry_eq]
  generalize (lg_sl ([.ref (x 0)]) ++ List.replicate (1 - (lg_sl ([.ref (x 0)])).length) Slot.unset).toArray = ls at hl ⊢
  subst hsz
  have hD := hD0.self (sz := s.heap.size)
  have hA : ∀ z : Nat, s.heap.size ≤ z → va_A (w_Xo cs x tq h a S ++ w_Text cs tq tx ++ w_Hist cs h a hs ++ linesW cs a 18 Ls) s.heap.size z := fun z h => Or.inr h
  exact t_X3_undo hC hfl hT0 hTW hTZ x tq h a S tx hs Ls Q QX hA hw s.heap [] hP hD va_S.rf ls hl
theorem h_X3_X3_settled : ∀ w ∈ u_ws RX3 TX3 7, w ∈ wsX3_settled := fun _ h => List.mem_cons_of_mem _ (List.mem_append_left _ (List.mem_append_left _ (List.mem_append_right _ h)))
set_option maxHeartbeats 4000000 in
set_option maxRecDepth 100000 in
theorem t_X3_settled {p : Program} {l : Launch} {e : Env} {s : State} {m : MethodId} {args : Array Value} {below : List Frame} {meth : Method} {c : Code} {D : va_G} {cs : Nat → ClassId} {A : Nat → Prop} (hC : MAt p s m args meth c RX3 cX3_settled 2 (some .int) wsX3_settled D cs) (hfl : l.stackTraces = false) (hT0 : ∀ x ∈ c.exceptionTable.toList, False) {sa : Nat → Nat} (hTW : TW sa s) (hTZ : TZ A s s.heap) (x : Nat → Nat) (tq : Nat → Nat) (h : Nat → Nat) (a : Nat → Nat → Nat) (S : XO) (tx : TS) (hs : HS) (Ls : (Nat → LnS)) (x1 : Int32) (Q : Int32 → XO → TS → HS → (Nat → LnS) → Prop) (QX : String → XO → TS → HS → (Nat → LnS) → Prop) (hA : ∀ q : Nat, s.heap.size ≤ q → A q) (hw : wp_X3_settled S tx hs Ls x1 Q QX) (H : Heap) (locs : List Loc) (hP : va_P D vwCl (w_Xo cs x tq h a S ++ w_Text cs tq tx ++ w_Hist cs h a hs ++ linesW cs a 18 Ls) H) (hD : va_D A (w_Xo cs x tq h a S ++ w_Text cs tq tx ++ w_Hist cs h a hs ++ linesW cs a 18 Ls)) (hS : va_S A s.heap H locs) (ls : Array Slot) (hl : lv_has ls 2 [(0, .ref (x 0)), (1, .int x1)]) : W p l e ({ frames := 7, cells := 1, slots := 6, locals := 116 } : Room) s m args below meth c H locs 0 0 (vx_MQ below (va_Qi (fun r (u : XO × TS × HS × (Nat → LnS)) => Q r u.1 u.2.1 u.2.2.1 u.2.2.2) (fun (u : XO × TS × HS × (Nat → LnS)) t => va_P D vwCl (w_Xo cs x tq h a u.1 ++ w_Text cs tq u.2.1 ++ w_Hist cs h a u.2.2.1 ++ linesW cs a 18 u.2.2.2) t.heap ∧ va_D A (w_Xo cs x tq h a u.1 ++ w_Text cs tq u.2.1 ++ w_Hist cs h a u.2.2.1 ++ linesW cs a 18 u.2.2.2)) A) (vx_X (fun (_ : XO × TS × HS × (Nat → LnS)) => True) (fun E (u : XO × TS × HS × (Nat → LnS)) t => QX E u.1 u.2.1 u.2.2.1 u.2.2.2 ∧ va_P D vwCl (w_Xo cs x tq h a u.1 ++ w_Text cs tq u.2.1 ++ w_Hist cs h a u.2.2.1 ++ linesW cs a 18 u.2.2.2) t.heap ∧ va_D A (w_Xo cs x tq h a u.1 ++ w_Text cs tq u.2.1 ++ w_Hist cs h a u.2.2.1 ++ linesW cs a 18 u.2.2.2)) A) args s 1 6 A) (F0 m 0 ls []) := by
  obtain ⟨hx, hb, hr, hml, hown, hts, hlocks, hKK⟩ := id hC
  have hK := hKK.1
  refine lv_aload_n hx hb dX3_settled_0 rfl (lv_at hl 0 rfl) ?_
  refine lv_iload_n hx hb dX3_settled_1 rfl (lv_at hl 1 rfl) ?_
  have hFc := z_free (wr := []) (by rw [List.append_nil]; exact hD) hS hA
  refine vx_callv (vx_runV (As := [.int x1]) (rest := []) ⟨hx, hb, hml, hown, hts⟩ (c_X3_requireCounter l hfl D cs x tq h a H.size sa S tx hs Ls x1 _ _ hw) (cwV 1 hts gX3_settled_X3_requireCounter rfl rfl rfl (by decide +kernel) ⟨Nat.le_of_ble_eq_true rfl, Nat.le_of_ble_eq_true rfl⟩) (PX_V hP hD hKK hTW hTZ hS hFc 0 3 rfl rfl) rfl rfl hl.1 rfl (lv_room (Nat.le_of_ble_eq_true rfl)) dX3_settled_2 ⟨Nat.le_of_ble_eq_true rfl, Nat.le_of_ble_eq_true rfl⟩) hS (fun q _ h => hFc q h) hFc (fun q _ h => hFc q h) ?_ (fun u1 t H locs ht hvm hw hB hz1 hk1 hS => ?_)
  · intro E ce q9 u1 t H locs ht hvm hpx hB hz1 hk1 hS hq9 hce hcl
    obtain ⟨u1_0, u1_1, u1_2, u1_3⟩ := u1
    obtain ⟨hw, hP1, hD1⟩ := hB
    rw [ht] at hP1
    have hD : va_D A (w_Xo cs x tq h a u1_0 ++ w_Text cs tq u1_1 ++ w_Hist cs h a u1_2 ++ linesW cs a 18 u1_3) := hD1.weaken (fun k q _ h => hFc q.1 h)
    have hP : va_P D vwCl (w_Xo cs x tq h a u1_0 ++ w_Text cs tq u1_1 ++ w_Hist cs h a u1_2 ++ linesW cs a 18 u1_3) H := hP1
    exact vx_out (fun x h => (hT0 x h).elim) hlocks hq9 hce hcl (fun t2 ht2 hvm2 => ⟨(u1_0, u1_1, u1_2, u1_3), trivial, ⟨hw, by rw [ht2]; exact hP, hD⟩, hS.F ht2⟩) hS.2.2 (Nat.le_of_ble_eq_true rfl) (Nat.le_of_ble_eq_true rfl)
  obtain ⟨u1_0, u1_1, u1_2, u1_3⟩ := u1
  obtain ⟨hP1, hD1⟩ := hB
  rw [ht] at hP1
  have hD : va_D A (w_Xo cs x tq h a u1_0 ++ w_Text cs tq u1_1 ++ w_Hist cs h a u1_2 ++ linesW cs a 18 u1_3) := hD1.weaken (fun k q _ h => hFc q.1 h)
  have hP : va_P D vwCl (w_Xo cs x tq h a u1_0 ++ w_Text cs tq u1_1 ++ w_Hist cs h a u1_2 ++ linesW cs a 18 u1_3) H := hP1
  refine lv_aload_n hx hb dX3_settled_5 rfl (lv_at hl 0 rfl) ?_
  refine va_get (D := D) (ci := 3) (v := .ref (a 1 0)) (C := RX3) (T := TX3) (N := 7) hx hb hts (h_X3_X3_settled) hown hK hP 0 rfl rfl 5 (by decide) (z_w hts 1 rfl) (fun _ h9 => h9) rfl dX3_settled_6 ?_
  refine lv_aload_n hx hb dX3_settled_9 rfl (lv_at hl 0 rfl) ?_
  refine va_get (D := D) (ci := 3) (v := .ref (a 0 0)) (C := RX3) (T := TX3) (N := 7) hx hb hts (h_X3_X3_settled) hown hK hP 0 rfl rfl 1 (by decide) (z_w hts 2 rfl) (fun _ h9 => h9) rfl dX3_settled_10 ?_
  have hPx := z_perm_P (lines_2 (cs := cs) (a := a) (n := 18) (i := 1) (j := 0) u1_3 (w_Xo cs x tq h a u1_0 ++ w_Text cs tq u1_1 ++ w_Hist cs h a u1_2) (by decide) (by decide) (by omega)) hP
  have hDx := z_perm_D (lines_2 (cs := cs) (a := a) (n := 18) (i := 1) (j := 0) u1_3 (w_Xo cs x tq h a u1_0 ++ w_Text cs tq u1_1 ++ w_Hist cs h a u1_2) (by decide) (by decide) (by omega)) hD
  have hPc := (z_app_P hPx).1
  have hDc := (z_app_D hDx).1
  have hFc := z_free hDx hS hA
  refine va_callv (va_runV (As := [.ref (a 0 0)]) (rest := []) ⟨hx, hb, hml, hown, hts⟩ (c_X1_copyFrom l D cs (a 1) (a 0) H.size (u1_3 1) (u1_3 0) _ hw) (cwV 1 hts gX3_settled_X1_copyFrom rfl rfl rfl (by decide +kernel) ⟨Nat.le_of_ble_eq_true rfl, Nat.le_of_ble_eq_true rfl⟩) (PC_V hPc hDc hKK 0 1 rfl rfl) rfl rfl hl.1 rfl (lv_room (Nat.le_of_ble_eq_true rfl)) dX3_settled_13 ⟨Nat.le_of_ble_eq_true rfl, Nat.le_of_ble_eq_true rfl⟩) hS (fun q _ h => hFc q h) hFc (fun u2 t H locs ht hvm hw hB hz1 hk1 hS => ?_)
  obtain ⟨hP1, hD1⟩ := hB
  rw [ht] at hP1
  obtain ⟨hPx, hDx⟩ := z_join hPx hDx hk1 hFc hP1 hD1
  have hP : va_P D vwCl (w_Xo cs x tq h a u1_0 ++ w_Text cs tq u1_1 ++ w_Hist cs h a u1_2 ++ linesW cs a 18 (va_up u1_3 1 u2)) H := z_perm_P (lines_2b (cs := cs) (a := a) (n := 18) (i := 1) (j := 0) u1_3 (w_Xo cs x tq h a u1_0 ++ w_Text cs tq u1_1 ++ w_Hist cs h a u1_2) (by decide) (by decide) (by omega) u2) hPx
  have hD : va_D A (w_Xo cs x tq h a u1_0 ++ w_Text cs tq u1_1 ++ w_Hist cs h a u1_2 ++ linesW cs a 18 (va_up u1_3 1 u2)) := z_perm_D (lines_2b (cs := cs) (a := a) (n := 18) (i := 1) (j := 0) u1_3 (w_Xo cs x tq h a u1_0 ++ w_Text cs tq u1_1 ++ w_Hist cs h a u1_2) (by decide) (by decide) (by omega) u2) hDx
  refine lv_aload_n hx hb dX3_settled_16 rfl (lv_at hl 0 rfl) ?_
  refine va_get (D := D) (ci := 3) (v := .ref (a 1 0)) (C := RX3) (T := TX3) (N := 7) hx hb hts (h_X3_X3_settled) hown hK hP 0 rfl rfl 5 (by decide) (z_w hts 1 rfl) (fun _ h9 => h9) rfl dX3_settled_17 ?_
  refine lv_iload_n hx hb dX3_settled_20 rfl (lv_at hl 1 rfl) ?_
  have hPx := z_perm_P (lines_1 (cs := cs) (a := a) (n := 18) (i := 1) (va_up u1_3 1 u2) (w_Xo cs x tq h a u1_0 ++ w_Text cs tq u1_1 ++ w_Hist cs h a u1_2) (by decide)) hP
  have hDx := z_perm_D (lines_1 (cs := cs) (a := a) (n := 18) (i := 1) (va_up u1_3 1 u2) (w_Xo cs x tq h a u1_0 ++ w_Text cs tq u1_1 ++ w_Hist cs h a u1_2) (by decide)) hD
  have hPc := (z_app_P hPx).1
  have hDc := (z_app_D hDx).1
  have hFc := z_free hDx hS hA
  refine va_calli (va_runV (As := [.int x1]) (rest := []) ⟨hx, hb, hml, hown, hts⟩ (c_X1_runToRest l D cs (a 1) H.size u2 x1 _ hw) (cwV 1 hts gX3_settled_X1_runToRest rfl rfl rfl (by decide +kernel) ⟨Nat.le_of_ble_eq_true rfl, Nat.le_of_ble_eq_true rfl⟩) (PC_V hPc hDc hKK 0 1 rfl rfl) rfl rfl hl.1 rfl (lv_room (Nat.le_of_ble_eq_true rfl)) dX3_settled_21 ⟨Nat.le_of_ble_eq_true rfl, Nat.le_of_ble_eq_true rfl⟩) hS (fun q _ h => hFc q h) hFc (fun r3 u3 t H locs ht hvm hw hB hz1 hk1 hS => ?_)
  obtain ⟨hP1, hD1⟩ := hB
  rw [ht] at hP1
  obtain ⟨hPx, hDx⟩ := z_join hPx hDx hk1 hFc hP1 hD1
  have hP : va_P D vwCl (w_Xo cs x tq h a u1_0 ++ w_Text cs tq u1_1 ++ w_Hist cs h a u1_2 ++ linesW cs a 18 (va_up u1_3 1 u3)) H := z_perm_P (lines_1b (cs := cs) (a := a) (n := 18) (i := 1) (va_up u1_3 1 u2) (w_Xo cs x tq h a u1_0 ++ w_Text cs tq u1_1 ++ w_Hist cs h a u1_2) (by decide) u3) hPx
  have hD : va_D A (w_Xo cs x tq h a u1_0 ++ w_Text cs tq u1_1 ++ w_Hist cs h a u1_2 ++ linesW cs a 18 (va_up u1_3 1 u3)) := z_perm_D (lines_1b (cs := cs) (a := a) (n := 18) (i := 1) (va_up u1_3 1 u2) (w_Xo cs x tq h a u1_0 ++ w_Text cs tq u1_1 ++ w_Hist cs h a u1_2) (by decide) u3) hDx
  refine W.widen (k := 1) (n := 6) (Nat.le_of_ble_eq_true rfl) (Nat.le_of_ble_eq_true rfl) (vx_ret ?_)
  exact W.iret (v := r3) hx hb hr (fun t ht hW => ⟨⟨r3, (u1_0, u1_1, u1_2, va_up u1_3 1 u3), rfl, hw, by rw [ht]; exact hP, hD⟩, hS.F ht⟩) hS.2.2 dX3_settled_24 hlocks
set_option maxHeartbeats 4000000 in
set_option maxRecDepth 100000 in
theorem c_X3_settled (l : Launch) (hfl : l.stackTraces = false) (D : va_G) (cs : Nat → ClassId) (x : Nat → Nat) (tq : Nat → Nat) (h : Nat → Nat) (a : Nat → Nat → Nat) (sz : Nat) (sa : Nat → Nat) (S : XO) (tx : TS) (hs : HS) (Ls : (Nat → LnS)) (x1 : Int32) (Q : Int32 → XO → TS → HS → (Nat → LnS) → Prop) (QX : String → XO → TS → HS → (Nat → LnS) → Prop) (hw : wp_X3_settled S tx hs Ls x1 Q QX) : vx_Met l yX3_settled wsX3_settled ({ frames := 7, cells := 1, slots := 6, locals := 116 } : Room) (va_Pc [.ref (x 0), .int x1] (PX D cs (w_Xo cs x tq h a S ++ w_Text cs tq tx ++ w_Hist cs h a hs ++ linesW cs a 18 Ls) sa sz)) (va_Qi (fun r (u : XO × TS × HS × (Nat → LnS)) => Q r u.1 u.2.1 u.2.2.1 u.2.2.2) (fun (u : XO × TS × HS × (Nat → LnS)) t => va_P D vwCl (w_Xo cs x tq h a u.1 ++ w_Text cs tq u.2.1 ++ w_Hist cs h a u.2.2.1 ++ linesW cs a 18 u.2.2.2) t.heap ∧ va_D (va_A (w_Xo cs x tq h a S ++ w_Text cs tq tx ++ w_Hist cs h a hs ++ linesW cs a 18 Ls) sz) (w_Xo cs x tq h a u.1 ++ w_Text cs tq u.2.1 ++ w_Hist cs h a u.2.2.1 ++ linesW cs a 18 u.2.2.2)) (va_A (w_Xo cs x tq h a S ++ w_Text cs tq tx ++ w_Hist cs h a hs ++ linesW cs a 18 Ls) sz)) (vx_X (fun (_ : XO × TS × HS × (Nat → LnS)) => True) (fun E (u : XO × TS × HS × (Nat → LnS)) t => QX E u.1 u.2.1 u.2.2.1 u.2.2.2 ∧ va_P D vwCl (w_Xo cs x tq h a u.1 ++ w_Text cs tq u.2.1 ++ w_Hist cs h a u.2.2.1 ++ linesW cs a 18 u.2.2.2) t.heap ∧ va_D (va_A (w_Xo cs x tq h a S ++ w_Text cs tq tx ++ w_Hist cs h a hs ++ linesW cs a 18 Ls) sz) (w_Xo cs x tq h a u.1 ++ w_Text cs tq u.2.1 ++ w_Hist cs h a u.2.2.1 ++ linesW cs a 18 u.2.2.2)) (va_A (w_Xo cs x tq h a S ++ w_Text cs tq tx ++ w_Hist cs h a hs ++ linesW cs a 18 Ls) sz)) 1 6 (va_A (w_Xo cs x tq h a S ++ w_Text cs tq tx ++ w_Hist cs h a hs ++ linesW cs a 18 Ls) sz) := by
  refine vx_ofW (cc := cX3_settled) (maxL := 2) (ret := (some .int)) (by decide) rfl ?_
  intro p e s m args below meth c s₁ B hml hT0 hv
  obtain ⟨rfl, ⟨hsz, hP, hKK, hD0⟩, hTW, hTZ⟩ := hv
  have hC : MAt p s m _ meth c RX3 cX3_settled 2 (some .int) wsX3_settled D cs := ⟨B.exec, B.bytes, B.returns, hml, findClass_of_methodNamed B.named, atoms_spec (ws := wsX3_settled) B.pre, B.notSynchronized, hKK⟩
  have hl := lv_entry ([.ref (x 0), .int x1]) (n := 2) (Nat.le_of_ble_eq_true rfl)
  rw [lg_entry_eq]
  generalize (lg_sl ([.ref (x 0), .int x1]) ++ List.replicate (2 - (lg_sl ([.ref (x 0), .int x1])).length) Slot.unset).toArray = ls at hl ⊢
  subst hsz
  have hD := hD0.self (sz := s.heap.size)
  have hA : ∀ z : Nat, s.heap.size ≤ z → va_A (w_Xo cs x tq h a S ++ w_Text cs tq tx ++ w_Hist cs h a hs ++ linesW cs a 18 Ls) s.heap.size z := fun z h => Or.inr h
  exact t_X3_settled hC hfl hT0 hTW hTZ x tq h a S tx hs Ls x1 Q QX hA hw s.heap [] hP hD va_S.rf ls hl
theorem h_X3_X3_shownAtLast : ∀ w ∈ u_ws RX3 TX3 7, w ∈ wsX3_shownAtLast := fun _ h => List.mem_cons_of_mem _ (List.mem_append_left _ (List.mem_append_left _ (List.mem_append_right _ h)))
set_option maxHeartbeats 4000000 in
set_option maxRecDepth 100000 in
theorem t_X3_shownAtLast {p : Program} {l : Launch} {e : Env} {s : State} {m : MethodId} {args : Array Value} {below : List Frame} {meth : Method} {c : Code} {D : va_G} {cs : Nat → ClassId} {A : Nat → Prop} (hC : MAt p s m args meth c RX3 cX3_shownAtLast 2 (some .int) wsX3_shownAtLast D cs) (hfl : l.stackTraces = false) (hT0 : ∀ x ∈ c.exceptionTable.toList, False) {sa : Nat → Nat} (hTW : TW sa s) (hTZ : TZ A s s.heap) (x : Nat → Nat) (tq : Nat → Nat) (h : Nat → Nat) (a : Nat → Nat → Nat) (S : XO) (tx : TS) (hs : HS) (Ls : (Nat → LnS)) (x1 : Int32) (Q : Int32 → XO → TS → HS → (Nat → LnS) → Prop) (QX : String → XO → TS → HS → (Nat → LnS) → Prop) (hA : ∀ q : Nat, s.heap.size ≤ q → A q) (hw : wp_X3_shownAtLast S tx hs Ls x1 Q QX) (H : Heap) (locs : List Loc) (hP : va_P D vwCl (w_Xo cs x tq h a S ++ w_Text cs tq tx ++ w_Hist cs h a hs ++ linesW cs a 18 Ls) H) (hD : va_D A (w_Xo cs x tq h a S ++ w_Text cs tq tx ++ w_Hist cs h a hs ++ linesW cs a 18 Ls)) (hS : va_S A s.heap H locs) (ls : Array Slot) (hl : lv_has ls 2 [(0, .ref (x 0)), (1, .int x1)]) : W p l e ({ frames := 7, cells := 1, slots := 6, locals := 116 } : Room) s m args below meth c H locs 0 0 (vx_MQ below (va_Qi (fun r (u : XO × TS × HS × (Nat → LnS)) => Q r u.1 u.2.1 u.2.2.1 u.2.2.2) (fun (u : XO × TS × HS × (Nat → LnS)) t => va_P D vwCl (w_Xo cs x tq h a u.1 ++ w_Text cs tq u.2.1 ++ w_Hist cs h a u.2.2.1 ++ linesW cs a 18 u.2.2.2) t.heap ∧ va_D A (w_Xo cs x tq h a u.1 ++ w_Text cs tq u.2.1 ++ w_Hist cs h a u.2.2.1 ++ linesW cs a 18 u.2.2.2)) A) (vx_X (fun (_ : XO × TS × HS × (Nat → LnS)) => True) (fun E (u : XO × TS × HS × (Nat → LnS)) t => QX E u.1 u.2.1 u.2.2.1 u.2.2.2 ∧ va_P D vwCl (w_Xo cs x tq h a u.1 ++ w_Text cs tq u.2.1 ++ w_Hist cs h a u.2.2.1 ++ linesW cs a 18 u.2.2.2) t.heap ∧ va_D A (w_Xo cs x tq h a u.1 ++ w_Text cs tq u.2.1 ++ w_Hist cs h a u.2.2.1 ++ linesW cs a 18 u.2.2.2)) A) args s 1 6 A) (F0 m 0 ls []) := by
  obtain ⟨hx, hb, hr, hml, hown, hts, hlocks, hKK⟩ := id hC
  have hK := hKK.1
  refine lv_aload_n hx hb dX3_shownAtLast_0 rfl (lv_at hl 0 rfl) ?_
  refine lv_iload_n hx hb dX3_shownAtLast_1 rfl (lv_at hl 1 rfl) ?_
  have hFc := z_free (wr := []) (by rw [List.append_nil]; exact hD) hS hA
  refine vx_callv (vx_runV (As := [.int x1]) (rest := []) ⟨hx, hb, hml, hown, hts⟩ (c_X3_requireCounter l hfl D cs x tq h a H.size sa S tx hs Ls x1 _ _ hw) (cwV 1 hts gX3_shownAtLast_X3_requireCounter rfl rfl rfl (by decide +kernel) ⟨Nat.le_of_ble_eq_true rfl, Nat.le_of_ble_eq_true rfl⟩) (PX_V hP hD hKK hTW hTZ hS hFc 0 3 rfl rfl) rfl rfl hl.1 rfl (lv_room (Nat.le_of_ble_eq_true rfl)) dX3_shownAtLast_2 ⟨Nat.le_of_ble_eq_true rfl, Nat.le_of_ble_eq_true rfl⟩) hS (fun q _ h => hFc q h) hFc (fun q _ h => hFc q h) ?_ (fun u1 t H locs ht hvm hw hB hz1 hk1 hS => ?_)
  · intro E ce q9 u1 t H locs ht hvm hpx hB hz1 hk1 hS hq9 hce hcl
    obtain ⟨u1_0, u1_1, u1_2, u1_3⟩ := u1
    obtain ⟨hw, hP1, hD1⟩ := hB
    rw [ht] at hP1
    have hD : va_D A (w_Xo cs x tq h a u1_0 ++ w_Text cs tq u1_1 ++ w_Hist cs h a u1_2 ++ linesW cs a 18 u1_3) := hD1.weaken (fun k q _ h => hFc q.1 h)
    have hP : va_P D vwCl (w_Xo cs x tq h a u1_0 ++ w_Text cs tq u1_1 ++ w_Hist cs h a u1_2 ++ linesW cs a 18 u1_3) H := hP1
    exact vx_out (fun x h => (hT0 x h).elim) hlocks hq9 hce hcl (fun t2 ht2 hvm2 => ⟨(u1_0, u1_1, u1_2, u1_3), trivial, ⟨hw, by rw [ht2]; exact hP, hD⟩, hS.F ht2⟩) hS.2.2 (Nat.le_of_ble_eq_true rfl) (Nat.le_of_ble_eq_true rfl)
  obtain ⟨u1_0, u1_1, u1_2, u1_3⟩ := u1
  obtain ⟨hP1, hD1⟩ := hB
  rw [ht] at hP1
  have hD : va_D A (w_Xo cs x tq h a u1_0 ++ w_Text cs tq u1_1 ++ w_Hist cs h a u1_2 ++ linesW cs a 18 u1_3) := hD1.weaken (fun k q _ h => hFc q.1 h)
  have hP : va_P D vwCl (w_Xo cs x tq h a u1_0 ++ w_Text cs tq u1_1 ++ w_Hist cs h a u1_2 ++ linesW cs a 18 u1_3) H := hP1
  refine lv_aload_n hx hb dX3_shownAtLast_5 rfl (lv_at hl 0 rfl) ?_
  refine va_get (D := D) (ci := 3) (v := .ref (a 1 0)) (C := RX3) (T := TX3) (N := 7) hx hb hts (h_X3_X3_shownAtLast) hown hK hP 0 rfl rfl 5 (by decide) (z_w hts 1 rfl) (fun _ h9 => h9) rfl dX3_shownAtLast_6 ?_
  refine lv_aload_n hx hb dX3_shownAtLast_9 rfl (lv_at hl 0 rfl) ?_
  refine va_get (D := D) (ci := 3) (v := .ref (a 0 0)) (C := RX3) (T := TX3) (N := 7) hx hb hts (h_X3_X3_shownAtLast) hown hK hP 0 rfl rfl 1 (by decide) (z_w hts 2 rfl) (fun _ h9 => h9) rfl dX3_shownAtLast_10 ?_
  have hPx := z_perm_P (lines_2 (cs := cs) (a := a) (n := 18) (i := 1) (j := 0) u1_3 (w_Xo cs x tq h a u1_0 ++ w_Text cs tq u1_1 ++ w_Hist cs h a u1_2) (by decide) (by decide) (by omega)) hP
  have hDx := z_perm_D (lines_2 (cs := cs) (a := a) (n := 18) (i := 1) (j := 0) u1_3 (w_Xo cs x tq h a u1_0 ++ w_Text cs tq u1_1 ++ w_Hist cs h a u1_2) (by decide) (by decide) (by omega)) hD
  have hPc := (z_app_P hPx).1
  have hDc := (z_app_D hDx).1
  have hFc := z_free hDx hS hA
  refine va_callv (va_runV (As := [.ref (a 0 0)]) (rest := []) ⟨hx, hb, hml, hown, hts⟩ (c_X1_copyFrom l D cs (a 1) (a 0) H.size (u1_3 1) (u1_3 0) _ hw) (cwV 1 hts gX3_shownAtLast_X1_copyFrom rfl rfl rfl (by decide +kernel) ⟨Nat.le_of_ble_eq_true rfl, Nat.le_of_ble_eq_true rfl⟩) (PC_V hPc hDc hKK 0 1 rfl rfl) rfl rfl hl.1 rfl (lv_room (Nat.le_of_ble_eq_true rfl)) dX3_shownAtLast_13 ⟨Nat.le_of_ble_eq_true rfl, Nat.le_of_ble_eq_true rfl⟩) hS (fun q _ h => hFc q h) hFc (fun u2 t H locs ht hvm hw hB hz1 hk1 hS => ?_)
  obtain ⟨hP1, hD1⟩ := hB
  rw [ht] at hP1
  obtain ⟨hPx, hDx⟩ := z_join hPx hDx hk1 hFc hP1 hD1
  have hP : va_P D vwCl (w_Xo cs x tq h a u1_0 ++ w_Text cs tq u1_1 ++ w_Hist cs h a u1_2 ++ linesW cs a 18 (va_up u1_3 1 u2)) H := z_perm_P (lines_2b (cs := cs) (a := a) (n := 18) (i := 1) (j := 0) u1_3 (w_Xo cs x tq h a u1_0 ++ w_Text cs tq u1_1 ++ w_Hist cs h a u1_2) (by decide) (by decide) (by omega) u2) hPx
  have hD : va_D A (w_Xo cs x tq h a u1_0 ++ w_Text cs tq u1_1 ++ w_Hist cs h a u1_2 ++ linesW cs a 18 (va_up u1_3 1 u2)) := z_perm_D (lines_2b (cs := cs) (a := a) (n := 18) (i := 1) (j := 0) u1_3 (w_Xo cs x tq h a u1_0 ++ w_Text cs tq u1_1 ++ w_Hist cs h a u1_2) (by decide) (by decide) (by omega) u2) hDx
  refine lv_aload_n hx hb dX3_shownAtLast_16 rfl (lv_at hl 0 rfl) ?_
  refine va_get (D := D) (ci := 3) (v := .ref (a 1 0)) (C := RX3) (T := TX3) (N := 7) hx hb hts (h_X3_X3_shownAtLast) hown hK hP 0 rfl rfl 5 (by decide) (z_w hts 1 rfl) (fun _ h9 => h9) rfl dX3_shownAtLast_17 ?_
  refine lv_iload_n hx hb dX3_shownAtLast_20 rfl (lv_at hl 1 rfl) ?_
  have hPx := z_perm_P (lines_1 (cs := cs) (a := a) (n := 18) (i := 1) (va_up u1_3 1 u2) (w_Xo cs x tq h a u1_0 ++ w_Text cs tq u1_1 ++ w_Hist cs h a u1_2) (by decide)) hP
  have hDx := z_perm_D (lines_1 (cs := cs) (a := a) (n := 18) (i := 1) (va_up u1_3 1 u2) (w_Xo cs x tq h a u1_0 ++ w_Text cs tq u1_1 ++ w_Hist cs h a u1_2) (by decide)) hD
  have hPc := (z_app_P hPx).1
  have hDc := (z_app_D hDx).1
  have hFc := z_free hDx hS hA
  refine va_calli (va_runV (As := [.int x1]) (rest := []) ⟨hx, hb, hml, hown, hts⟩ (c_X1_runToRest l D cs (a 1) H.size u2 x1 _ hw) (cwV 1 hts gX3_shownAtLast_X1_runToRest rfl rfl rfl (by decide +kernel) ⟨Nat.le_of_ble_eq_true rfl, Nat.le_of_ble_eq_true rfl⟩) (PC_V hPc hDc hKK 0 1 rfl rfl) rfl rfl hl.1 rfl (lv_room (Nat.le_of_ble_eq_true rfl)) dX3_shownAtLast_21 ⟨Nat.le_of_ble_eq_true rfl, Nat.le_of_ble_eq_true rfl⟩) hS (fun q _ h => hFc q h) hFc (fun r3 u3 t H locs ht hvm hw hB hz1 hk1 hS => ?_)
  obtain ⟨hP1, hD1⟩ := hB
  rw [ht] at hP1
  obtain ⟨hPx, hDx⟩ := z_join hPx hDx hk1 hFc hP1 hD1
  have hP : va_P D vwCl (w_Xo cs x tq h a u1_0 ++ w_Text cs tq u1_1 ++ w_Hist cs h a u1_2 ++ linesW cs a 18 (va_up u1_3 1 u3)) H := z_perm_P (lines_1b (cs := cs) (a := a) (n := 18) (i := 1) (va_up u1_3 1 u2) (w_Xo cs x tq h a u1_0 ++ w_Text cs tq u1_1 ++ w_Hist cs h a u1_2) (by decide) u3) hPx
  have hD : va_D A (w_Xo cs x tq h a u1_0 ++ w_Text cs tq u1_1 ++ w_Hist cs h a u1_2 ++ linesW cs a 18 (va_up u1_3 1 u3)) := z_perm_D (lines_1b (cs := cs) (a := a) (n := 18) (i := 1) (va_up u1_3 1 u2) (w_Xo cs x tq h a u1_0 ++ w_Text cs tq u1_1 ++ w_Hist cs h a u1_2) (by decide) u3) hDx
  refine lv_pop hx hb dX3_shownAtLast_24 rfl ?_
  refine lv_aload_n hx hb dX3_shownAtLast_25 rfl (lv_at hl 0 rfl) ?_
  refine va_get (D := D) (ci := 3) (v := .ref (a 1 0)) (C := RX3) (T := TX3) (N := 7) hx hb hts (h_X3_X3_shownAtLast) hown hK hP 0 rfl rfl 5 (by decide) (z_w hts 1 rfl) (fun _ h9 => h9) rfl dX3_shownAtLast_26 ?_
  refine lv_iload_n hx hb dX3_shownAtLast_29 rfl (lv_at hl 1 rfl) ?_
  have hPx := z_perm_P (lines_1 (cs := cs) (a := a) (n := 18) (i := 1) (va_up u1_3 1 u3) (w_Xo cs x tq h a u1_0 ++ w_Text cs tq u1_1 ++ w_Hist cs h a u1_2) (by decide)) hP
  have hDx := z_perm_D (lines_1 (cs := cs) (a := a) (n := 18) (i := 1) (va_up u1_3 1 u3) (w_Xo cs x tq h a u1_0 ++ w_Text cs tq u1_1 ++ w_Hist cs h a u1_2) (by decide)) hD
  have hPc := (z_app_P hPx).1
  have hDc := (z_app_D hDx).1
  refine z_calli (va_runV (As := [.int x1]) (rest := []) ⟨hx, hb, hml, hown, hts⟩ (c_X1_reading l D cs (a 1) H.size u3 x1 _ hw) (cwV 1 hts gX3_shownAtLast_X1_reading rfl rfl rfl (by decide +kernel) ⟨Nat.le_of_ble_eq_true rfl, Nat.le_of_ble_eq_true rfl⟩) (PC_V hPc hDc hKK 0 1 rfl rfl) rfl rfl hl.1 rfl (lv_room (Nat.le_of_ble_eq_true rfl)) dX3_shownAtLast_30 ⟨Nat.le_of_ble_eq_true rfl, Nat.le_of_ble_eq_true rfl⟩) (fun r4 hw => ?_)
  refine W.widen (k := 1) (n := 6) (Nat.le_of_ble_eq_true rfl) (Nat.le_of_ble_eq_true rfl) (vx_ret ?_)
  exact W.iret (v := r4) hx hb hr (fun t ht hW => ⟨⟨r4, (u1_0, u1_1, u1_2, va_up u1_3 1 u3), rfl, hw, by rw [ht]; exact hP, hD⟩, hS.F ht⟩) hS.2.2 dX3_shownAtLast_33 hlocks
set_option maxHeartbeats 4000000 in
set_option maxRecDepth 100000 in
theorem c_X3_shownAtLast (l : Launch) (hfl : l.stackTraces = false) (D : va_G) (cs : Nat → ClassId) (x : Nat → Nat) (tq : Nat → Nat) (h : Nat → Nat) (a : Nat → Nat → Nat) (sz : Nat) (sa : Nat → Nat) (S : XO) (tx : TS) (hs : HS) (Ls : (Nat → LnS)) (x1 : Int32) (Q : Int32 → XO → TS → HS → (Nat → LnS) → Prop) (QX : String → XO → TS → HS → (Nat → LnS) → Prop) (hw : wp_X3_shownAtLast S tx hs Ls x1 Q QX) : vx_Met l yX3_shownAtLast wsX3_shownAtLast ({ frames := 7, cells := 1, slots := 6, locals := 116 } : Room) (va_Pc [.ref (x 0), .int x1] (PX D cs (w_Xo cs x tq h a S ++ w_Text cs tq tx ++ w_Hist cs h a hs ++ linesW cs a 18 Ls) sa sz)) (va_Qi (fun r (u : XO × TS × HS × (Nat → LnS)) => Q r u.1 u.2.1 u.2.2.1 u.2.2.2) (fun (u : XO × TS × HS × (Nat → LnS)) t => va_P D vwCl (w_Xo cs x tq h a u.1 ++ w_Text cs tq u.2.1 ++ w_Hist cs h a u.2.2.1 ++ linesW cs a 18 u.2.2.2) t.heap ∧ va_D (va_A (w_Xo cs x tq h a S ++ w_Text cs tq tx ++ w_Hist cs h a hs ++ linesW cs a 18 Ls) sz) (w_Xo cs x tq h a u.1 ++ w_Text cs tq u.2.1 ++ w_Hist cs h a u.2.2.1 ++ linesW cs a 18 u.2.2.2)) (va_A (w_Xo cs x tq h a S ++ w_Text cs tq tx ++ w_Hist cs h a hs ++ linesW cs a 18 Ls) sz)) (vx_X (fun (_ : XO × TS × HS × (Nat → LnS)) => True) (fun E (u : XO × TS × HS × (Nat → LnS)) t => QX E u.1 u.2.1 u.2.2.1 u.2.2.2 ∧ va_P D vwCl (w_Xo cs x tq h a u.1 ++ w_Text cs tq u.2.1 ++ w_Hist cs h a u.2.2.1 ++ linesW cs a 18 u.2.2.2) t.heap ∧ va_D (va_A (w_Xo cs x tq h a S ++ w_Text cs tq tx ++ w_Hist cs h a hs ++ linesW cs a 18 Ls) sz) (w_Xo cs x tq h a u.1 ++ w_Text cs tq u.2.1 ++ w_Hist cs h a u.2.2.1 ++ linesW cs a 18 u.2.2.2)) (va_A (w_Xo cs x tq h a S ++ w_Text cs tq tx ++ w_Hist cs h a hs ++ linesW cs a 18 Ls) sz)) 1 6 (va_A (w_Xo cs x tq h a S ++ w_Text cs tq tx ++ w_Hist cs h a hs ++ linesW cs a 18 Ls) sz) := by
  refine vx_ofW (cc := cX3_shownAtLast) (maxL := 2) (ret := (some .int)) (by decide) rfl ?_
  intro p e s m args below meth c s₁ B hml hT0 hv
  obtain ⟨rfl, ⟨hsz, hP, hKK, hD0⟩, hTW, hTZ⟩ := hv
  have hC : MAt p s m _ meth c RX3 cX3_shownAtLast 2 (some .int) wsX3_shownAtLast D cs := ⟨B.exec, B.bytes, B.returns, hml, findClass_of_methodNamed B.named, atoms_spec (ws := wsX3_shownAtLast) B.pre, B.notSynchronized, hKK⟩
  have hl := lv_entry ([.ref (x 0), .int x1]) (n := 2) (Nat.le_of_ble_eq_true rfl)
  rw [lg_entry_eq]
  generalize (lg_sl ([.ref (x 0), .int x1]) ++ List.replicate (2 - (lg_sl ([.ref (x 0), .int x1])).length) Slot.unset).toArray = ls at hl ⊢
  subst hsz
  have hD := hD0.self (sz := s.heap.size)
  have hA : ∀ z : Nat, s.heap.size ≤ z → va_A (w_Xo cs x tq h a S ++ w_Text cs tq tx ++ w_Hist cs h a hs ++ linesW cs a 18 Ls) s.heap.size z := fun z h => Or.inr h
  exact t_X3_shownAtLast hC hfl hT0 hTW hTZ x tq h a S tx hs Ls x1 Q QX hA hw s.heap [] hP hD va_S.rf ls hl
theorem h_X3_X3_whenShown : ∀ w ∈ u_ws RX3 TX3 7, w ∈ wsX3_whenShown := fun _ h => List.mem_cons_of_mem _ (List.mem_append_left _ (List.mem_append_left _ (List.mem_append_left _ (List.mem_append_right _ h))))
set_option maxHeartbeats 4000000 in
set_option maxRecDepth 100000 in
theorem t_X3_whenShown {p : Program} {l : Launch} {e : Env} {s : State} {m : MethodId} {args : Array Value} {below : List Frame} {meth : Method} {c : Code} {D : va_G} {cs : Nat → ClassId} {A : Nat → Prop} (hC : MAt p s m args meth c RX3 cX3_whenShown 3 (some .int) wsX3_whenShown D cs) (hfl : l.stackTraces = false) (hT0 : ∀ x ∈ c.exceptionTable.toList, False) {sa : Nat → Nat} (hTW : TW sa s) (hTZ : TZ A s s.heap) (x : Nat → Nat) (tq : Nat → Nat) (h : Nat → Nat) (a : Nat → Nat → Nat) (S : XO) (tx : TS) (hs : HS) (Ls : (Nat → LnS)) (x1 : Int32) (x2 : Int32) (Q : Int32 → XO → TS → HS → (Nat → LnS) → Prop) (QX : String → XO → TS → HS → (Nat → LnS) → Prop) (hA : ∀ q : Nat, s.heap.size ≤ q → A q) (hw : wp_X3_whenShown S tx hs Ls x1 x2 Q QX) (H : Heap) (locs : List Loc) (hP : va_P D vwCl (w_Xo cs x tq h a S ++ w_Text cs tq tx ++ w_Hist cs h a hs ++ linesW cs a 18 Ls) H) (hD : va_D A (w_Xo cs x tq h a S ++ w_Text cs tq tx ++ w_Hist cs h a hs ++ linesW cs a 18 Ls)) (hS : va_S A s.heap H locs) (ls : Array Slot) (hl : lv_has ls 3 [(0, .ref (x 0)), (1, .int x1), (2, .int x2)]) : W p l e ({ frames := 7, cells := 2, slots := 12, locals := 117 } : Room) s m args below meth c H locs 0 0 (vx_MQ below (va_Qi (fun r (u : XO × TS × HS × (Nat → LnS)) => Q r u.1 u.2.1 u.2.2.1 u.2.2.2) (fun (u : XO × TS × HS × (Nat → LnS)) t => va_P D vwCl (w_Xo cs x tq h a u.1 ++ w_Text cs tq u.2.1 ++ w_Hist cs h a u.2.2.1 ++ linesW cs a 18 u.2.2.2) t.heap ∧ va_D A (w_Xo cs x tq h a u.1 ++ w_Text cs tq u.2.1 ++ w_Hist cs h a u.2.2.1 ++ linesW cs a 18 u.2.2.2)) A) (vx_X (fun (_ : XO × TS × HS × (Nat → LnS)) => True) (fun E (u : XO × TS × HS × (Nat → LnS)) t => QX E u.1 u.2.1 u.2.2.1 u.2.2.2 ∧ va_P D vwCl (w_Xo cs x tq h a u.1 ++ w_Text cs tq u.2.1 ++ w_Hist cs h a u.2.2.1 ++ linesW cs a 18 u.2.2.2) t.heap ∧ va_D A (w_Xo cs x tq h a u.1 ++ w_Text cs tq u.2.1 ++ w_Hist cs h a u.2.2.1 ++ linesW cs a 18 u.2.2.2)) A) args s 2 12 A) (F0 m 0 ls []) := by
  obtain ⟨hx, hb, hr, hml, hown, hts, hlocks, hKK⟩ := id hC
  have hK := hKK.1
  refine lv_aload_n hx hb dX3_whenShown_0 rfl (lv_at hl 0 rfl) ?_
  refine lv_iload_n hx hb dX3_whenShown_1 rfl (lv_at hl 1 rfl) ?_
  have hFc := z_free (wr := []) (by rw [List.append_nil]; exact hD) hS hA
  refine vx_callv (vx_runV (As := [.int x1]) (rest := []) ⟨hx, hb, hml, hown, hts⟩ (c_X3_requireCounter l hfl D cs x tq h a H.size sa S tx hs Ls x1 _ _ hw) (cwV 1 hts gX3_whenShown_X3_requireCounter rfl rfl rfl (by decide +kernel) ⟨Nat.le_of_ble_eq_true rfl, Nat.le_of_ble_eq_true rfl⟩) (PX_V hP hD hKK hTW hTZ hS hFc 0 3 rfl rfl) rfl rfl hl.1 rfl (lv_room (Nat.le_of_ble_eq_true rfl)) dX3_whenShown_2 ⟨Nat.le_of_ble_eq_true rfl, Nat.le_of_ble_eq_true rfl⟩) hS (fun q _ h => hFc q h) hFc (fun q _ h => hFc q h) ?_ (fun u1 t H locs ht hvm hw hB hz1 hk1 hS => ?_)
  · intro E ce q9 u1 t H locs ht hvm hpx hB hz1 hk1 hS hq9 hce hcl
    obtain ⟨u1_0, u1_1, u1_2, u1_3⟩ := u1
    obtain ⟨hw, hP1, hD1⟩ := hB
    rw [ht] at hP1
    have hD : va_D A (w_Xo cs x tq h a u1_0 ++ w_Text cs tq u1_1 ++ w_Hist cs h a u1_2 ++ linesW cs a 18 u1_3) := hD1.weaken (fun k q _ h => hFc q.1 h)
    have hP : va_P D vwCl (w_Xo cs x tq h a u1_0 ++ w_Text cs tq u1_1 ++ w_Hist cs h a u1_2 ++ linesW cs a 18 u1_3) H := hP1
    exact vx_out (fun x h => (hT0 x h).elim) hlocks hq9 hce hcl (fun t2 ht2 hvm2 => ⟨(u1_0, u1_1, u1_2, u1_3), trivial, ⟨hw, by rw [ht2]; exact hP, hD⟩, hS.F ht2⟩) hS.2.2 (Nat.le_of_ble_eq_true rfl) (Nat.le_of_ble_eq_true rfl)
  obtain ⟨u1_0, u1_1, u1_2, u1_3⟩ := u1
  obtain ⟨hP1, hD1⟩ := hB
  rw [ht] at hP1
  have hD : va_D A (w_Xo cs x tq h a u1_0 ++ w_Text cs tq u1_1 ++ w_Hist cs h a u1_2 ++ linesW cs a 18 u1_3) := hD1.weaken (fun k q _ h => hFc q.1 h)
  have hP : va_P D vwCl (w_Xo cs x tq h a u1_0 ++ w_Text cs tq u1_1 ++ w_Hist cs h a u1_2 ++ linesW cs a 18 u1_3) H := hP1
  refine lv_iload_n hx hb dX3_whenShown_5 rfl (lv_at hl 2 rfl) ?_
  refine lv_iconst (v := (0 : Int32)) hx hb dX3_whenShown_6 (by decide) ?_
  refine lv_sipush (v := (19682 : Int32)) hx hb dX3_whenShown_7 (by decide) ?_
  have hPc : va_P D vwCl ([] : va_W) H := z_nilP
  have hDc : va_D A ([] : va_W) := z_nilD
  have hFc := z_free (wc := []) hD hS hA
  refine vx_callv (vx_runS (As := [.int x2, .int (0 : Int32), .int (19682 : Int32)]) (rest := []) ⟨hx, hb, hml, hown, hts⟩ (c_X3_requireRange l hfl D cs  H.size sa x2 (0 : Int32) (19682 : Int32) _ _ hw) (va_cwS 3 hts gX3_whenShown_X3_requireRange rfl rfl rfl (by decide +kernel) ⟨Nat.le_of_ble_eq_true rfl, Nat.le_of_ble_eq_true rfl⟩) (PX_S hPc hDc hKK hTW hTZ hS hFc) rfl rfl hl.1 rfl (lv_room (Nat.le_of_ble_eq_true rfl)) dX3_whenShown_10 ⟨Nat.le_of_ble_eq_true rfl, Nat.le_of_ble_eq_true rfl⟩) hS (fun q _ h => hFc q h) hFc (fun q _ h => hFc q h) ?_ (fun u2 t H locs ht hvm hw hB hz1 hk1 hS => ?_)
  · intro E ce q9 u2 t H locs ht hvm hpx hB hz1 hk1 hS hq9 hce hcl
    obtain ⟨hw, hP1, hD1⟩ := hB
    rw [ht] at hP1
    obtain ⟨hP, hD⟩ := z_join (wc := []) hP hD hk1 hFc hP1 hD1
    have hP : va_P D vwCl (w_Xo cs x tq h a u1_0 ++ w_Text cs tq u1_1 ++ w_Hist cs h a u1_2 ++ linesW cs a 18 u1_3) H := hP
    have hD : va_D A (w_Xo cs x tq h a u1_0 ++ w_Text cs tq u1_1 ++ w_Hist cs h a u1_2 ++ linesW cs a 18 u1_3) := hD
    exact vx_out (fun x h => (hT0 x h).elim) hlocks hq9 hce hcl (fun t2 ht2 hvm2 => ⟨(u1_0, u1_1, u1_2, u1_3), trivial, ⟨hw, by rw [ht2]; exact hP, hD⟩, hS.F ht2⟩) hS.2.2 (Nat.le_of_ble_eq_true rfl) (Nat.le_of_ble_eq_true rfl)
  obtain ⟨hP1, hD1⟩ := hB
  rw [ht] at hP1
  obtain ⟨hP, hD⟩ := z_join (wc := []) hP hD hk1 hFc hP1 hD1
  have hP : va_P D vwCl (w_Xo cs x tq h a u1_0 ++ w_Text cs tq u1_1 ++ w_Hist cs h a u1_2 ++ linesW cs a 18 u1_3) H := hP
  have hD : va_D A (w_Xo cs x tq h a u1_0 ++ w_Text cs tq u1_1 ++ w_Hist cs h a u1_2 ++ linesW cs a 18 u1_3) := hD
  refine lv_aload_n hx hb dX3_whenShown_13 rfl (lv_at hl 0 rfl) ?_
  refine va_get (D := D) (ci := 3) (v := .ref (a 1 0)) (C := RX3) (T := TX3) (N := 7) hx hb hts (h_X3_X3_whenShown) hown hK hP 0 rfl rfl 5 (by decide) (z_w hts 1 rfl) (fun _ h9 => h9) rfl dX3_whenShown_14 ?_
  refine lv_aload_n hx hb dX3_whenShown_17 rfl (lv_at hl 0 rfl) ?_
  refine va_get (D := D) (ci := 3) (v := .ref (a 0 0)) (C := RX3) (T := TX3) (N := 7) hx hb hts (h_X3_X3_whenShown) hown hK hP 0 rfl rfl 1 (by decide) (z_w hts 2 rfl) (fun _ h9 => h9) rfl dX3_whenShown_18 ?_
  have hPx := z_perm_P (lines_2 (cs := cs) (a := a) (n := 18) (i := 1) (j := 0) u1_3 (w_Xo cs x tq h a u1_0 ++ w_Text cs tq u1_1 ++ w_Hist cs h a u1_2) (by decide) (by decide) (by omega)) hP
  have hDx := z_perm_D (lines_2 (cs := cs) (a := a) (n := 18) (i := 1) (j := 0) u1_3 (w_Xo cs x tq h a u1_0 ++ w_Text cs tq u1_1 ++ w_Hist cs h a u1_2) (by decide) (by decide) (by omega)) hD
  have hPc := (z_app_P hPx).1
  have hDc := (z_app_D hDx).1
  have hFc := z_free hDx hS hA
  refine va_callv (va_runV (As := [.ref (a 0 0)]) (rest := []) ⟨hx, hb, hml, hown, hts⟩ (c_X1_copyFrom l D cs (a 1) (a 0) H.size (u1_3 1) (u1_3 0) _ hw) (cwV 1 hts gX3_whenShown_X1_copyFrom rfl rfl rfl (by decide +kernel) ⟨Nat.le_of_ble_eq_true rfl, Nat.le_of_ble_eq_true rfl⟩) (PC_V hPc hDc hKK 0 1 rfl rfl) rfl rfl hl.1 rfl (lv_room (Nat.le_of_ble_eq_true rfl)) dX3_whenShown_21 ⟨Nat.le_of_ble_eq_true rfl, Nat.le_of_ble_eq_true rfl⟩) hS (fun q _ h => hFc q h) hFc (fun u3 t H locs ht hvm hw hB hz1 hk1 hS => ?_)
  obtain ⟨hP1, hD1⟩ := hB
  rw [ht] at hP1
  obtain ⟨hPx, hDx⟩ := z_join hPx hDx hk1 hFc hP1 hD1
  have hP : va_P D vwCl (w_Xo cs x tq h a u1_0 ++ w_Text cs tq u1_1 ++ w_Hist cs h a u1_2 ++ linesW cs a 18 (va_up u1_3 1 u3)) H := z_perm_P (lines_2b (cs := cs) (a := a) (n := 18) (i := 1) (j := 0) u1_3 (w_Xo cs x tq h a u1_0 ++ w_Text cs tq u1_1 ++ w_Hist cs h a u1_2) (by decide) (by decide) (by omega) u3) hPx
  have hD : va_D A (w_Xo cs x tq h a u1_0 ++ w_Text cs tq u1_1 ++ w_Hist cs h a u1_2 ++ linesW cs a 18 (va_up u1_3 1 u3)) := z_perm_D (lines_2b (cs := cs) (a := a) (n := 18) (i := 1) (j := 0) u1_3 (w_Xo cs x tq h a u1_0 ++ w_Text cs tq u1_1 ++ w_Hist cs h a u1_2) (by decide) (by decide) (by omega) u3) hDx
  refine lv_aload_n hx hb dX3_whenShown_24 rfl (lv_at hl 0 rfl) ?_
  refine va_get (D := D) (ci := 3) (v := .ref (a 1 0)) (C := RX3) (T := TX3) (N := 7) hx hb hts (h_X3_X3_whenShown) hown hK hP 0 rfl rfl 5 (by decide) (z_w hts 1 rfl) (fun _ h9 => h9) rfl dX3_whenShown_25 ?_
  refine lv_iload_n hx hb dX3_whenShown_28 rfl (lv_at hl 1 rfl) ?_
  refine lv_iload_n hx hb dX3_whenShown_29 rfl (lv_at hl 2 rfl) ?_
  have hPx := z_perm_P (lines_1 (cs := cs) (a := a) (n := 18) (i := 1) (va_up u1_3 1 u3) (w_Xo cs x tq h a u1_0 ++ w_Text cs tq u1_1 ++ w_Hist cs h a u1_2) (by decide)) hP
  have hDx := z_perm_D (lines_1 (cs := cs) (a := a) (n := 18) (i := 1) (va_up u1_3 1 u3) (w_Xo cs x tq h a u1_0 ++ w_Text cs tq u1_1 ++ w_Hist cs h a u1_2) (by decide)) hD
  have hPc := (z_app_P hPx).1
  have hDc := (z_app_D hDx).1
  have hFc := z_free hDx hS hA
  refine va_calli (va_runV (As := [.int x1, .int x2]) (rest := []) ⟨hx, hb, hml, hown, hts⟩ (c_X1_runToReading l D cs (a 1) H.size u3 x1 x2 _ hw) (cwV 2 hts gX3_whenShown_X1_runToReading rfl rfl rfl (by decide +kernel) ⟨Nat.le_of_ble_eq_true rfl, Nat.le_of_ble_eq_true rfl⟩) (PC_V hPc hDc hKK 0 1 rfl rfl) rfl rfl hl.1 rfl (lv_room (Nat.le_of_ble_eq_true rfl)) dX3_whenShown_30 ⟨Nat.le_of_ble_eq_true rfl, Nat.le_of_ble_eq_true rfl⟩) hS (fun q _ h => hFc q h) hFc (fun r4 u4 t H locs ht hvm hw hB hz1 hk1 hS => ?_)
  obtain ⟨hP1, hD1⟩ := hB
  rw [ht] at hP1
  obtain ⟨hPx, hDx⟩ := z_join hPx hDx hk1 hFc hP1 hD1
  have hP : va_P D vwCl (w_Xo cs x tq h a u1_0 ++ w_Text cs tq u1_1 ++ w_Hist cs h a u1_2 ++ linesW cs a 18 (va_up u1_3 1 u4)) H := z_perm_P (lines_1b (cs := cs) (a := a) (n := 18) (i := 1) (va_up u1_3 1 u3) (w_Xo cs x tq h a u1_0 ++ w_Text cs tq u1_1 ++ w_Hist cs h a u1_2) (by decide) u4) hPx
  have hD : va_D A (w_Xo cs x tq h a u1_0 ++ w_Text cs tq u1_1 ++ w_Hist cs h a u1_2 ++ linesW cs a 18 (va_up u1_3 1 u4)) := z_perm_D (lines_1b (cs := cs) (a := a) (n := 18) (i := 1) (va_up u1_3 1 u3) (w_Xo cs x tq h a u1_0 ++ w_Text cs tq u1_1 ++ w_Hist cs h a u1_2) (by decide) u4) hDx
  refine W.widen (k := 2) (n := 12) (Nat.le_of_ble_eq_true rfl) (Nat.le_of_ble_eq_true rfl) (vx_ret ?_)
  exact W.iret (v := r4) hx hb hr (fun t ht hW => ⟨⟨r4, (u1_0, u1_1, u1_2, va_up u1_3 1 u4), rfl, hw, by rw [ht]; exact hP, hD⟩, hS.F ht⟩) hS.2.2 dX3_whenShown_33 hlocks
set_option maxHeartbeats 4000000 in
set_option maxRecDepth 100000 in
theorem c_X3_whenShown (l : Launch) (hfl : l.stackTraces = false) (D : va_G) (cs : Nat → ClassId) (x : Nat → Nat) (tq : Nat → Nat) (h : Nat → Nat) (a : Nat → Nat → Nat) (sz : Nat) (sa : Nat → Nat) (S : XO) (tx : TS) (hs : HS) (Ls : (Nat → LnS)) (x1 : Int32) (x2 : Int32) (Q : Int32 → XO → TS → HS → (Nat → LnS) → Prop) (QX : String → XO → TS → HS → (Nat → LnS) → Prop) (hw : wp_X3_whenShown S tx hs Ls x1 x2 Q QX) : vx_Met l yX3_whenShown wsX3_whenShown ({ frames := 7, cells := 2, slots := 12, locals := 117 } : Room) (va_Pc [.ref (x 0), .int x1, .int x2] (PX D cs (w_Xo cs x tq h a S ++ w_Text cs tq tx ++ w_Hist cs h a hs ++ linesW cs a 18 Ls) sa sz)) (va_Qi (fun r (u : XO × TS × HS × (Nat → LnS)) => Q r u.1 u.2.1 u.2.2.1 u.2.2.2) (fun (u : XO × TS × HS × (Nat → LnS)) t => va_P D vwCl (w_Xo cs x tq h a u.1 ++ w_Text cs tq u.2.1 ++ w_Hist cs h a u.2.2.1 ++ linesW cs a 18 u.2.2.2) t.heap ∧ va_D (va_A (w_Xo cs x tq h a S ++ w_Text cs tq tx ++ w_Hist cs h a hs ++ linesW cs a 18 Ls) sz) (w_Xo cs x tq h a u.1 ++ w_Text cs tq u.2.1 ++ w_Hist cs h a u.2.2.1 ++ linesW cs a 18 u.2.2.2)) (va_A (w_Xo cs x tq h a S ++ w_Text cs tq tx ++ w_Hist cs h a hs ++ linesW cs a 18 Ls) sz)) (vx_X (fun (_ : XO × TS × HS × (Nat → LnS)) => True) (fun E (u : XO × TS × HS × (Nat → LnS)) t => QX E u.1 u.2.1 u.2.2.1 u.2.2.2 ∧ va_P D vwCl (w_Xo cs x tq h a u.1 ++ w_Text cs tq u.2.1 ++ w_Hist cs h a u.2.2.1 ++ linesW cs a 18 u.2.2.2) t.heap ∧ va_D (va_A (w_Xo cs x tq h a S ++ w_Text cs tq tx ++ w_Hist cs h a hs ++ linesW cs a 18 Ls) sz) (w_Xo cs x tq h a u.1 ++ w_Text cs tq u.2.1 ++ w_Hist cs h a u.2.2.1 ++ linesW cs a 18 u.2.2.2)) (va_A (w_Xo cs x tq h a S ++ w_Text cs tq tx ++ w_Hist cs h a hs ++ linesW cs a 18 Ls) sz)) 2 12 (va_A (w_Xo cs x tq h a S ++ w_Text cs tq tx ++ w_Hist cs h a hs ++ linesW cs a 18 Ls) sz) := by
  refine vx_ofW (cc := cX3_whenShown) (maxL := 3) (ret := (some .int)) (by decide) rfl ?_
  intro p e s m args below meth c s₁ B hml hT0 hv
  obtain ⟨rfl, ⟨hsz, hP, hKK, hD0⟩, hTW, hTZ⟩ := hv
  have hC : MAt p s m _ meth c RX3 cX3_whenShown 3 (some .int) wsX3_whenShown D cs := ⟨B.exec, B.bytes, B.returns, hml, findClass_of_methodNamed B.named, atoms_spec (ws := wsX3_whenShown) B.pre, B.notSynchronized, hKK⟩
  have hl := lv_entry ([.ref (x 0), .int x1, .int x2]) (n := 3) (Nat.le_of_ble_eq_true rfl)
  rw [lg_entry_eq]
  generalize (lg_sl ([.ref (x 0), .int x1, .int x2]) ++ List.replicate (3 - (lg_sl ([.ref (x 0), .int x1, .int x2])).length) Slot.unset).toArray = ls at hl ⊢
  subst hsz
  have hD := hD0.self (sz := s.heap.size)
  have hA : ∀ z : Nat, s.heap.size ≤ z → va_A (w_Xo cs x tq h a S ++ w_Text cs tq tx ++ w_Hist cs h a hs ++ linesW cs a 18 Ls) s.heap.size z := fun z h => Or.inr h
  exact t_X3_whenShown hC hfl hT0 hTW hTZ x tq h a S tx hs Ls x1 x2 Q QX hA hw s.heap [] hP hD va_S.rf ls hl
theorem h_X1_X3_leastPace : ∀ w ∈ u_ws RX1 TX1 13, w ∈ wsX3_leastPace := fun _ h => List.mem_cons_of_mem _ (List.mem_append_left _ (List.mem_append_right _ h))
theorem h_X3_X3_leastPace : ∀ w ∈ u_ws RX3 TX3 7, w ∈ wsX3_leastPace := fun _ h => List.mem_cons_of_mem _ (List.mem_append_left _ (List.mem_append_left _ (List.mem_append_right _ h)))
set_option maxHeartbeats 4000000 in
set_option maxRecDepth 100000 in
theorem t_X3_leastPace_9 {p : Program} {l : Launch} {e : Env} {s : State} {m : MethodId} {args : Array Value} {below : List Frame} {meth : Method} {c : Code} {D : va_G} {cs : Nat → ClassId} {A : Nat → Prop} (hC : MAt p s m args meth c RX3 cX3_leastPace 3 (some .int) wsX3_leastPace D cs) (hfl : l.stackTraces = false) (hT0 : ∀ x ∈ c.exceptionTable.toList, False) {sa : Nat → Nat} (hTW : TW sa s) (hTZ : TZ A s s.heap) (x : Nat → Nat) (tq : Nat → Nat) (h : Nat → Nat) (a : Nat → Nat → Nat) (x1 : Int32) (Q : Int32 → XO → TS → HS → (Nat → LnS) → Prop) (QX : String → XO → TS → HS → (Nat → LnS) → Prop) (hA : ∀ q : Nat, s.heap.size ≤ q → A q) : ∀ (n : Nat) (S : XO) (tx : TS) (hs : HS) (Ls : (Nat → LnS)) (x2 : Int32), wl_X3_leastPace_9 x1 Q QX n S tx hs Ls x2 → ∀ (H : Heap) (locs : List Loc), va_P D vwCl (w_Xo cs x tq h a S ++ w_Text cs tq tx ++ w_Hist cs h a hs ++ linesW cs a 18 Ls) H → va_D A (w_Xo cs x tq h a S ++ w_Text cs tq tx ++ w_Hist cs h a hs ++ linesW cs a 18 Ls) → va_S A s.heap H locs → ∀ ls : Array Slot, lv_has ls 3 [(0, .ref (x 0)), (1, .int x1), (2, .int x2)] → W p l e ({ frames := 7, cells := 1, slots := 6, locals := 115 } : Room) s m args below meth c H locs 1 6 (vx_MQ below (va_Qi (fun r (u : XO × TS × HS × (Nat → LnS)) => Q r u.1 u.2.1 u.2.2.1 u.2.2.2) (fun (u : XO × TS × HS × (Nat → LnS)) t => va_P D vwCl (w_Xo cs x tq h a u.1 ++ w_Text cs tq u.2.1 ++ w_Hist cs h a u.2.2.1 ++ linesW cs a 18 u.2.2.2) t.heap ∧ va_D A (w_Xo cs x tq h a u.1 ++ w_Text cs tq u.2.1 ++ w_Hist cs h a u.2.2.1 ++ linesW cs a 18 u.2.2.2)) A) (vx_X (fun (_ : XO × TS × HS × (Nat → LnS)) => True) (fun E (u : XO × TS × HS × (Nat → LnS)) t => QX E u.1 u.2.1 u.2.2.1 u.2.2.2 ∧ va_P D vwCl (w_Xo cs x tq h a u.1 ++ w_Text cs tq u.2.1 ++ w_Hist cs h a u.2.2.1 ++ linesW cs a 18 u.2.2.2) t.heap ∧ va_D A (w_Xo cs x tq h a u.1 ++ w_Text cs tq u.2.1 ++ w_Hist cs h a u.2.2.1 ++ linesW cs a 18 u.2.2.2)) A) args s 1 6 A) (F0 m 9 ls []) := by
  obtain ⟨hx, hb, hr, hml, hown, hts, hlocks, hKK⟩ := id hC
  have hK := hKK.1
  intro n
  induction n with
  | zero =>
    intro S tx hs Ls x2 hw
    exact False.elim hw
  | succ n ih =>
    intro S tx hs Ls x2 hw H locs hP hD hS ls hl
    refine lv_iload_n hx hb dX3_leastPace_9 rfl (lv_at hl 2 rfl) ?_
    refine lv_bipush (v := (9 : Int32)) hx hb dX3_leastPace_10 (by decide) ?_
    refine lv_icmp_gt (tgt := 60) hx hb dX3_leastPace_12 (by decide) (fun c2 => ?_) (fun c2 => ?_)
    · have hw := hw.1 c2
      refine lv_iconst (v := (-1 : Int32)) hx hb dX3_leastPace_60 (by decide) ?_
      refine W.widen (k := 1) (n := 6) (Nat.le_of_ble_eq_true rfl) (Nat.le_of_ble_eq_true rfl) (vx_ret ?_)
      exact W.iret (v := (-1 : Int32)) hx hb hr (fun t ht hW => ⟨⟨(-1 : Int32), (S, tx, hs, Ls), rfl, hw, by rw [ht]; exact hP, hD⟩, hS.F ht⟩) hS.2.2 dX3_leastPace_61 hlocks
    · have hw := hw.2 c2
      refine lv_aload_n hx hb dX3_leastPace_15 rfl (lv_at hl 0 rfl) ?_
      refine va_get (D := D) (ci := 3) (v := .ref (a 1 0)) (C := RX3) (T := TX3) (N := 7) hx hb hts (h_X3_X3_leastPace) hown hK hP 0 rfl rfl 5 (by decide) (z_w hts 1 rfl) (fun _ h9 => h9) rfl dX3_leastPace_16 ?_
      refine lv_aload_n hx hb dX3_leastPace_19 rfl (lv_at hl 0 rfl) ?_
      refine va_get (D := D) (ci := 3) (v := .ref (a 0 0)) (C := RX3) (T := TX3) (N := 7) hx hb hts (h_X3_X3_leastPace) hown hK hP 0 rfl rfl 1 (by decide) (z_w hts 2 rfl) (fun _ h9 => h9) rfl dX3_leastPace_20 ?_
      have hPx := z_perm_P (lines_2 (cs := cs) (a := a) (n := 18) (i := 1) (j := 0) Ls (w_Xo cs x tq h a S ++ w_Text cs tq tx ++ w_Hist cs h a hs) (by decide) (by decide) (by omega)) hP
      have hDx := z_perm_D (lines_2 (cs := cs) (a := a) (n := 18) (i := 1) (j := 0) Ls (w_Xo cs x tq h a S ++ w_Text cs tq tx ++ w_Hist cs h a hs) (by decide) (by decide) (by omega)) hD
      have hPc := (z_app_P hPx).1
      have hDc := (z_app_D hDx).1
      have hFc := z_free hDx hS hA
      refine va_callv (va_runV (As := [.ref (a 0 0)]) (rest := []) ⟨hx, hb, hml, hown, hts⟩ (c_X1_copyFrom l D cs (a 1) (a 0) H.size (Ls 1) (Ls 0) _ hw) (cwV 1 hts gX3_leastPace_X1_copyFrom rfl rfl rfl (by decide +kernel) ⟨Nat.le_of_ble_eq_true rfl, Nat.le_of_ble_eq_true rfl⟩) (PC_V hPc hDc hKK 0 1 rfl rfl) rfl rfl hl.1 rfl (lv_room (Nat.le_of_ble_eq_true rfl)) dX3_leastPace_23 ⟨Nat.le_of_ble_eq_true rfl, Nat.le_of_ble_eq_true rfl⟩) hS (fun q _ h => hFc q h) hFc (fun u3 t H locs ht hvm hw hB hz1 hk1 hS => ?_)
      obtain ⟨hP1, hD1⟩ := hB
      rw [ht] at hP1
      obtain ⟨hPx, hDx⟩ := z_join hPx hDx hk1 hFc hP1 hD1
      have hP : va_P D vwCl (w_Xo cs x tq h a S ++ w_Text cs tq tx ++ w_Hist cs h a hs ++ linesW cs a 18 (va_up Ls 1 u3)) H := z_perm_P (lines_2b (cs := cs) (a := a) (n := 18) (i := 1) (j := 0) Ls (w_Xo cs x tq h a S ++ w_Text cs tq tx ++ w_Hist cs h a hs) (by decide) (by decide) (by omega) u3) hPx
      have hD : va_D A (w_Xo cs x tq h a S ++ w_Text cs tq tx ++ w_Hist cs h a hs ++ linesW cs a 18 (va_up Ls 1 u3)) := z_perm_D (lines_2b (cs := cs) (a := a) (n := 18) (i := 1) (j := 0) Ls (w_Xo cs x tq h a S ++ w_Text cs tq tx ++ w_Hist cs h a hs) (by decide) (by decide) (by omega) u3) hDx
      refine lv_aload_n hx hb dX3_leastPace_26 rfl (lv_at hl 0 rfl) ?_
      refine va_get (D := D) (ci := 3) (v := .ref (a 1 0)) (C := RX3) (T := TX3) (N := 7) hx hb hts (h_X3_X3_leastPace) hown hK hP 0 rfl rfl 5 (by decide) (z_w hts 1 rfl) (fun _ h9 => h9) rfl dX3_leastPace_27 ?_
      refine lv_iload_n hx hb dX3_leastPace_30 rfl (lv_at hl 2 rfl) ?_
      refine va_put (D := D) (ci := 1) (v := .int x2) (ty := .int) (C := RX1) (T := TX1) (N := 13) hx hb hts (h_X1_X3_leastPace) tyX1 tyX1_ok nmX1 hown hK hP hD hS 18 rfl rfl 1 (by decide) (z_w hts 3 rfl) (fun _ h9 => h9) rfl (by decide +kernel) rfl rfl (Nat.le_of_ble_eq_true rfl) dX3_leastPace_31 (fun H locs hP hD hS => ?_)
      have hP : va_P D vwCl (w_Xo cs x tq h a S ++ w_Text cs tq tx ++ w_Hist cs h a hs ++ linesW cs a 18 (va_up Ls 1 (lsS u3 0 1 x2))) H := hP
      have hD : va_D A (w_Xo cs x tq h a S ++ w_Text cs tq tx ++ w_Hist cs h a hs ++ linesW cs a 18 (va_up Ls 1 (lsS u3 0 1 x2))) := hD
      refine lv_aload_n hx hb dX3_leastPace_34 rfl (lv_at hl 0 rfl) ?_
      refine va_get (D := D) (ci := 3) (v := .ref (a 1 0)) (C := RX3) (T := TX3) (N := 7) hx hb hts (h_X3_X3_leastPace) hown hK hP 0 rfl rfl 5 (by decide) (z_w hts 1 rfl) (fun _ h9 => h9) rfl dX3_leastPace_35 ?_
      refine lv_iload_n hx hb dX3_leastPace_38 rfl (lv_at hl 1 rfl) ?_
      have hPx := z_perm_P (lines_1 (cs := cs) (a := a) (n := 18) (i := 1) (va_up Ls 1 (lsS u3 0 1 x2)) (w_Xo cs x tq h a S ++ w_Text cs tq tx ++ w_Hist cs h a hs) (by decide)) hP
      have hDx := z_perm_D (lines_1 (cs := cs) (a := a) (n := 18) (i := 1) (va_up Ls 1 (lsS u3 0 1 x2)) (w_Xo cs x tq h a S ++ w_Text cs tq tx ++ w_Hist cs h a hs) (by decide)) hD
      have hPc := (z_app_P hPx).1
      have hDc := (z_app_D hDx).1
      have hFc := z_free hDx hS hA
      refine va_callv (va_runV (As := [.int x1]) (rest := []) ⟨hx, hb, hml, hown, hts⟩ (c_X1_passBeats l D cs (a 1) H.size (lsS u3 0 1 x2) x1 _ hw) (cwV 1 hts gX3_leastPace_X1_passBeats rfl rfl rfl (by decide +kernel) ⟨Nat.le_of_ble_eq_true rfl, Nat.le_of_ble_eq_true rfl⟩) (PC_V hPc hDc hKK 0 1 rfl rfl) rfl rfl hl.1 rfl (lv_room (Nat.le_of_ble_eq_true rfl)) dX3_leastPace_39 ⟨Nat.le_of_ble_eq_true rfl, Nat.le_of_ble_eq_true rfl⟩) hS (fun q _ h => hFc q h) hFc (fun u4 t H locs ht hvm hw hB hz1 hk1 hS => ?_)
      obtain ⟨hP1, hD1⟩ := hB
      rw [ht] at hP1
      obtain ⟨hPx, hDx⟩ := z_join hPx hDx hk1 hFc hP1 hD1
      have hP : va_P D vwCl (w_Xo cs x tq h a S ++ w_Text cs tq tx ++ w_Hist cs h a hs ++ linesW cs a 18 (va_up Ls 1 u4)) H := z_perm_P (lines_1b (cs := cs) (a := a) (n := 18) (i := 1) (va_up Ls 1 (lsS u3 0 1 x2)) (w_Xo cs x tq h a S ++ w_Text cs tq tx ++ w_Hist cs h a hs) (by decide) u4) hPx
      have hD : va_D A (w_Xo cs x tq h a S ++ w_Text cs tq tx ++ w_Hist cs h a hs ++ linesW cs a 18 (va_up Ls 1 u4)) := z_perm_D (lines_1b (cs := cs) (a := a) (n := 18) (i := 1) (va_up Ls 1 (lsS u3 0 1 x2)) (w_Xo cs x tq h a S ++ w_Text cs tq tx ++ w_Hist cs h a hs) (by decide) u4) hDx
      refine lv_aload_n hx hb dX3_leastPace_42 rfl (lv_at hl 0 rfl) ?_
      refine va_get (D := D) (ci := 3) (v := .ref (a 1 0)) (C := RX3) (T := TX3) (N := 7) hx hb hts (h_X3_X3_leastPace) hown hK hP 0 rfl rfl 5 (by decide) (z_w hts 1 rfl) (fun _ h9 => h9) rfl dX3_leastPace_43 ?_
      have hPx := z_perm_P (lines_1 (cs := cs) (a := a) (n := 18) (i := 1) (va_up Ls 1 u4) (w_Xo cs x tq h a S ++ w_Text cs tq tx ++ w_Hist cs h a hs) (by decide)) hP
      have hDx := z_perm_D (lines_1 (cs := cs) (a := a) (n := 18) (i := 1) (va_up Ls 1 u4) (w_Xo cs x tq h a S ++ w_Text cs tq tx ++ w_Hist cs h a hs) (by decide)) hD
      have hPc := (z_app_P hPx).1
      have hDc := (z_app_D hDx).1
      refine z_calli (va_runV (As := []) (rest := []) ⟨hx, hb, hml, hown, hts⟩ (c_X1_waitingInAll l D cs (a 1) H.size u4 _ hw) (cwV 0 hts gX3_leastPace_X1_waitingInAll rfl rfl rfl (by decide +kernel) ⟨Nat.le_of_ble_eq_true rfl, Nat.le_of_ble_eq_true rfl⟩) (PC_V hPc hDc hKK 0 1 rfl rfl) rfl rfl hl.1 rfl (lv_room (Nat.le_of_ble_eq_true rfl)) dX3_leastPace_46 ⟨Nat.le_of_ble_eq_true rfl, Nat.le_of_ble_eq_true rfl⟩) (fun r5 hw => ?_)
      refine lv_if_ne (tgt := 54) hx hb dX3_leastPace_49 (by decide) (fun c6 => ?_) (fun c6 => ?_)
      · have hw := hw.2 c6
        refine lv_iinc (v := x2 + 1) (lv' := [(2, .int (x2 + 1)), (0, .ref (x 0)), (1, .int x1)]) hx hb dX3_leastPace_54 hl (k := 2) rfl rfl (by decide) rfl (fun ls hl => ?_)
        refine lv_goto (tgt := 9) hx hb dX3_leastPace_57 (by decide) ?_
        exact ih _ _ _ _ _ hw _ _ hP hD hS ls (lv_sub hl [1, 2, 0] rfl)
      · have hw := hw.1 c6
        refine lv_iload_n hx hb dX3_leastPace_52 rfl (lv_at hl 2 rfl) ?_
        refine W.widen (k := 1) (n := 6) (Nat.le_of_ble_eq_true rfl) (Nat.le_of_ble_eq_true rfl) (vx_ret ?_)
        exact W.iret (v := x2) hx hb hr (fun t ht hW => ⟨⟨x2, (S, tx, hs, va_up Ls 1 u4), rfl, hw, by rw [ht]; exact hP, hD⟩, hS.F ht⟩) hS.2.2 dX3_leastPace_53 hlocks
set_option maxHeartbeats 4000000 in
set_option maxRecDepth 100000 in
theorem t_X3_leastPace {p : Program} {l : Launch} {e : Env} {s : State} {m : MethodId} {args : Array Value} {below : List Frame} {meth : Method} {c : Code} {D : va_G} {cs : Nat → ClassId} {A : Nat → Prop} (hC : MAt p s m args meth c RX3 cX3_leastPace 3 (some .int) wsX3_leastPace D cs) (hfl : l.stackTraces = false) (hT0 : ∀ x ∈ c.exceptionTable.toList, False) {sa : Nat → Nat} (hTW : TW sa s) (hTZ : TZ A s s.heap) (x : Nat → Nat) (tq : Nat → Nat) (h : Nat → Nat) (a : Nat → Nat → Nat) (S : XO) (tx : TS) (hs : HS) (Ls : (Nat → LnS)) (x1 : Int32) (Q : Int32 → XO → TS → HS → (Nat → LnS) → Prop) (QX : String → XO → TS → HS → (Nat → LnS) → Prop) (hA : ∀ q : Nat, s.heap.size ≤ q → A q) (hw : wp_X3_leastPace S tx hs Ls x1 Q QX) (H : Heap) (locs : List Loc) (hP : va_P D vwCl (w_Xo cs x tq h a S ++ w_Text cs tq tx ++ w_Hist cs h a hs ++ linesW cs a 18 Ls) H) (hD : va_D A (w_Xo cs x tq h a S ++ w_Text cs tq tx ++ w_Hist cs h a hs ++ linesW cs a 18 Ls)) (hS : va_S A s.heap H locs) (ls : Array Slot) (hl : lv_has ls 3 [(0, .ref (x 0)), (1, .int x1)]) : W p l e ({ frames := 7, cells := 1, slots := 6, locals := 115 } : Room) s m args below meth c H locs 0 0 (vx_MQ below (va_Qi (fun r (u : XO × TS × HS × (Nat → LnS)) => Q r u.1 u.2.1 u.2.2.1 u.2.2.2) (fun (u : XO × TS × HS × (Nat → LnS)) t => va_P D vwCl (w_Xo cs x tq h a u.1 ++ w_Text cs tq u.2.1 ++ w_Hist cs h a u.2.2.1 ++ linesW cs a 18 u.2.2.2) t.heap ∧ va_D A (w_Xo cs x tq h a u.1 ++ w_Text cs tq u.2.1 ++ w_Hist cs h a u.2.2.1 ++ linesW cs a 18 u.2.2.2)) A) (vx_X (fun (_ : XO × TS × HS × (Nat → LnS)) => True) (fun E (u : XO × TS × HS × (Nat → LnS)) t => QX E u.1 u.2.1 u.2.2.1 u.2.2.2 ∧ va_P D vwCl (w_Xo cs x tq h a u.1 ++ w_Text cs tq u.2.1 ++ w_Hist cs h a u.2.2.1 ++ linesW cs a 18 u.2.2.2) t.heap ∧ va_D A (w_Xo cs x tq h a u.1 ++ w_Text cs tq u.2.1 ++ w_Hist cs h a u.2.2.1 ++ linesW cs a 18 u.2.2.2)) A) args s 1 6 A) (F0 m 0 ls []) := by
  obtain ⟨hx, hb, hr, hml, hown, hts, hlocks, hKK⟩ := id hC
  have hK := hKK.1
  refine lv_iload_n hx hb dX3_leastPace_0 rfl (lv_at hl 1 rfl) ?_
  refine lv_iconst (v := (0 : Int32)) hx hb dX3_leastPace_1 (by decide) ?_
  refine lv_bipush (v := (99 : Int32)) hx hb dX3_leastPace_2 (by decide) ?_
  have hPc : va_P D vwCl ([] : va_W) H := z_nilP
  have hDc : va_D A ([] : va_W) := z_nilD
  have hFc := z_free (wc := []) hD hS hA
  refine vx_callv (vx_runS (As := [.int x1, .int (0 : Int32), .int (99 : Int32)]) (rest := []) ⟨hx, hb, hml, hown, hts⟩ (c_X3_requireRange l hfl D cs  H.size sa x1 (0 : Int32) (99 : Int32) _ _ hw) (va_cwS 3 hts gX3_leastPace_X3_requireRange rfl rfl rfl (by decide +kernel) ⟨Nat.le_of_ble_eq_true rfl, Nat.le_of_ble_eq_true rfl⟩) (PX_S hPc hDc hKK hTW hTZ hS hFc) rfl rfl hl.1 rfl (lv_room (Nat.le_of_ble_eq_true rfl)) dX3_leastPace_4 ⟨Nat.le_of_ble_eq_true rfl, Nat.le_of_ble_eq_true rfl⟩) hS (fun q _ h => hFc q h) hFc (fun q _ h => hFc q h) ?_ (fun u1 t H locs ht hvm hw hB hz1 hk1 hS => ?_)
  · intro E ce q9 u1 t H locs ht hvm hpx hB hz1 hk1 hS hq9 hce hcl
    obtain ⟨hw, hP1, hD1⟩ := hB
    rw [ht] at hP1
    obtain ⟨hP, hD⟩ := z_join (wc := []) hP hD hk1 hFc hP1 hD1
    have hP : va_P D vwCl (w_Xo cs x tq h a S ++ w_Text cs tq tx ++ w_Hist cs h a hs ++ linesW cs a 18 Ls) H := hP
    have hD : va_D A (w_Xo cs x tq h a S ++ w_Text cs tq tx ++ w_Hist cs h a hs ++ linesW cs a 18 Ls) := hD
    exact vx_out (fun x h => (hT0 x h).elim) hlocks hq9 hce hcl (fun t2 ht2 hvm2 => ⟨(S, tx, hs, Ls), trivial, ⟨hw, by rw [ht2]; exact hP, hD⟩, hS.F ht2⟩) hS.2.2 (Nat.le_of_ble_eq_true rfl) (Nat.le_of_ble_eq_true rfl)
  obtain ⟨hP1, hD1⟩ := hB
  rw [ht] at hP1
  obtain ⟨hP, hD⟩ := z_join (wc := []) hP hD hk1 hFc hP1 hD1
  have hP : va_P D vwCl (w_Xo cs x tq h a S ++ w_Text cs tq tx ++ w_Hist cs h a hs ++ linesW cs a 18 Ls) H := hP
  have hD : va_D A (w_Xo cs x tq h a S ++ w_Text cs tq tx ++ w_Hist cs h a hs ++ linesW cs a 18 Ls) := hD
  refine lv_iconst (v := (1 : Int32)) hx hb dX3_leastPace_7 (by decide) ?_
  refine lv_istore_n (lv' := [(2, .int (1 : Int32)), (0, .ref (x 0)), (1, .int x1)]) hx hb dX3_leastPace_8 rfl hl (by decide) rfl (fun ls hl => ?_)
  obtain ⟨n7, hw⟩ := hw
  exact t_X3_leastPace_9 hC hfl hT0 hTW hTZ x tq h a _ _ _ hA n7 _ _ _ _ _ hw H locs hP hD hS ls (lv_sub hl [1, 2, 0] rfl)
set_option maxHeartbeats 4000000 in
set_option maxRecDepth 100000 in
theorem c_X3_leastPace (l : Launch) (hfl : l.stackTraces = false) (D : va_G) (cs : Nat → ClassId) (x : Nat → Nat) (tq : Nat → Nat) (h : Nat → Nat) (a : Nat → Nat → Nat) (sz : Nat) (sa : Nat → Nat) (S : XO) (tx : TS) (hs : HS) (Ls : (Nat → LnS)) (x1 : Int32) (Q : Int32 → XO → TS → HS → (Nat → LnS) → Prop) (QX : String → XO → TS → HS → (Nat → LnS) → Prop) (hw : wp_X3_leastPace S tx hs Ls x1 Q QX) : vx_Met l yX3_leastPace wsX3_leastPace ({ frames := 7, cells := 1, slots := 6, locals := 115 } : Room) (va_Pc [.ref (x 0), .int x1] (PX D cs (w_Xo cs x tq h a S ++ w_Text cs tq tx ++ w_Hist cs h a hs ++ linesW cs a 18 Ls) sa sz)) (va_Qi (fun r (u : XO × TS × HS × (Nat → LnS)) => Q r u.1 u.2.1 u.2.2.1 u.2.2.2) (fun (u : XO × TS × HS × (Nat → LnS)) t => va_P D vwCl (w_Xo cs x tq h a u.1 ++ w_Text cs tq u.2.1 ++ w_Hist cs h a u.2.2.1 ++ linesW cs a 18 u.2.2.2) t.heap ∧ va_D (va_A (w_Xo cs x tq h a S ++ w_Text cs tq tx ++ w_Hist cs h a hs ++ linesW cs a 18 Ls) sz) (w_Xo cs x tq h a u.1 ++ w_Text cs tq u.2.1 ++ w_Hist cs h a u.2.2.1 ++ linesW cs a 18 u.2.2.2)) (va_A (w_Xo cs x tq h a S ++ w_Text cs tq tx ++ w_Hist cs h a hs ++ linesW cs a 18 Ls) sz)) (vx_X (fun (_ : XO × TS × HS × (Nat → LnS)) => True) (fun E (u : XO × TS × HS × (Nat → LnS)) t => QX E u.1 u.2.1 u.2.2.1 u.2.2.2 ∧ va_P D vwCl (w_Xo cs x tq h a u.1 ++ w_Text cs tq u.2.1 ++ w_Hist cs h a u.2.2.1 ++ linesW cs a 18 u.2.2.2) t.heap ∧ va_D (va_A (w_Xo cs x tq h a S ++ w_Text cs tq tx ++ w_Hist cs h a hs ++ linesW cs a 18 Ls) sz) (w_Xo cs x tq h a u.1 ++ w_Text cs tq u.2.1 ++ w_Hist cs h a u.2.2.1 ++ linesW cs a 18 u.2.2.2)) (va_A (w_Xo cs x tq h a S ++ w_Text cs tq tx ++ w_Hist cs h a hs ++ linesW cs a 18 Ls) sz)) 1 6 (va_A (w_Xo cs x tq h a S ++ w_Text cs tq tx ++ w_Hist cs h a hs ++ linesW cs a 18 Ls) sz) := by
  refine vx_ofW (cc := cX3_leastPace) (maxL := 3) (ret := (some .int)) (by decide) rfl ?_
  intro p e s m args below meth c s₁ B hml hT0 hv
  obtain ⟨rfl, ⟨hsz, hP, hKK, hD0⟩, hTW, hTZ⟩ := hv
  have hC : MAt p s m _ meth c RX3 cX3_leastPace 3 (some .int) wsX3_leastPace D cs := ⟨B.exec, B.bytes, B.returns, hml, findClass_of_methodNamed B.named, atoms_spec (ws := wsX3_leastPace) B.pre, B.notSynchronized, hKK⟩
  have hl := lv_entry ([.ref (x 0), .int x1]) (n := 3) (Nat.le_of_ble_eq_true rfl)
  rw [lg_entry_eq]
  generalize (lg_sl ([.ref (x 0), .int x1]) ++ List.replicate (3 - (lg_sl ([.ref (x 0), .int x1])).length) Slot.unset).toArray = ls at hl ⊢
  subst hsz
  have hD := hD0.self (sz := s.heap.size)
  have hA : ∀ z : Nat, s.heap.size ≤ z → va_A (w_Xo cs x tq h a S ++ w_Text cs tq tx ++ w_Hist cs h a hs ++ linesW cs a 18 Ls) s.heap.size z := fun z h => Or.inr h
  exact t_X3_leastPace hC hfl hT0 hTW hTZ x tq h a S tx hs Ls x1 Q QX hA hw s.heap [] hP hD va_S.rf ls hl
theorem h_X1_X3_slowest : ∀ w ∈ u_ws RX1 TX1 13, w ∈ wsX3_slowest := fun _ h => List.mem_cons_of_mem _ (List.mem_append_left _ (List.mem_append_right _ h))
theorem h_X3_X3_slowest : ∀ w ∈ u_ws RX3 TX3 7, w ∈ wsX3_slowest := fun _ h => List.mem_cons_of_mem _ (List.mem_append_left _ (List.mem_append_left _ (List.mem_append_right _ h)))
set_option maxHeartbeats 4000000 in
set_option maxRecDepth 100000 in
theorem t_X3_slowest_26 {p : Program} {l : Launch} {e : Env} {s : State} {m : MethodId} {args : Array Value} {below : List Frame} {meth : Method} {c : Code} {D : va_G} {cs : Nat → ClassId} {A : Nat → Prop} (hC : MAt p s m args meth c RX3 cX3_slowest 7 (some .int) wsX3_slowest D cs) (hfl : l.stackTraces = false) (hT0 : ∀ x ∈ c.exceptionTable.toList, False) {sa : Nat → Nat} (hTW : TW sa s) (hTZ : TZ A s s.heap) (x : Nat → Nat) (tq : Nat → Nat) (h : Nat → Nat) (a : Nat → Nat → Nat) (x1 : Int32) (x2 : Int32) (Q : Int32 → XO → TS → HS → (Nat → LnS) → Prop) (QX : String → XO → TS → HS → (Nat → LnS) → Prop) (hA : ∀ q : Nat, s.heap.size ≤ q → A q) : ∀ (n : Nat) (S : XO) (tx : TS) (hs : HS) (Ls : (Nat → LnS)) (x3 : Int32) (x4 : Int32) (x5 : Int32), wl_X3_slowest_26 x1 x2 Q QX n S tx hs Ls x3 x4 x5 → ∀ (H : Heap) (locs : List Loc), va_P D vwCl (w_Xo cs x tq h a S ++ w_Text cs tq tx ++ w_Hist cs h a hs ++ linesW cs a 18 Ls) H → va_D A (w_Xo cs x tq h a S ++ w_Text cs tq tx ++ w_Hist cs h a hs ++ linesW cs a 18 Ls) → va_S A s.heap H locs → ∀ ls : Array Slot, lv_has ls 7 [(0, .ref (x 0)), (1, .int x1), (2, .int x2), (3, .int x3), (4, .int x4), (5, .int x5)] → W p l e ({ frames := 7, cells := 1, slots := 6, locals := 116 } : Room) s m args below meth c H locs 1 6 (vx_MQ below (va_Qi (fun r (u : XO × TS × HS × (Nat → LnS)) => Q r u.1 u.2.1 u.2.2.1 u.2.2.2) (fun (u : XO × TS × HS × (Nat → LnS)) t => va_P D vwCl (w_Xo cs x tq h a u.1 ++ w_Text cs tq u.2.1 ++ w_Hist cs h a u.2.2.1 ++ linesW cs a 18 u.2.2.2) t.heap ∧ va_D A (w_Xo cs x tq h a u.1 ++ w_Text cs tq u.2.1 ++ w_Hist cs h a u.2.2.1 ++ linesW cs a 18 u.2.2.2)) A) (vx_X (fun (_ : XO × TS × HS × (Nat → LnS)) => True) (fun E (u : XO × TS × HS × (Nat → LnS)) t => QX E u.1 u.2.1 u.2.2.1 u.2.2.2 ∧ va_P D vwCl (w_Xo cs x tq h a u.1 ++ w_Text cs tq u.2.1 ++ w_Hist cs h a u.2.2.1 ++ linesW cs a 18 u.2.2.2) t.heap ∧ va_D A (w_Xo cs x tq h a u.1 ++ w_Text cs tq u.2.1 ++ w_Hist cs h a u.2.2.1 ++ linesW cs a 18 u.2.2.2)) A) args s 1 6 A) (F0 m 26 ls []) := by
  obtain ⟨hx, hb, hr, hml, hown, hts, hlocks, hKK⟩ := id hC
  have hK := hKK.1
  intro n
  induction n with
  | zero =>
    intro S tx hs Ls x3 x4 x5 hw
    exact False.elim hw
  | succ n ih =>
    intro S tx hs Ls x3 x4 x5 hw H locs hP hD hS ls hl
    refine lv_iload hx hb dX3_slowest_26 (lv_at hl 5 rfl) ?_
    refine lv_iload_n hx hb dX3_slowest_28 rfl (lv_at hl 2 rfl) ?_
    refine lv_icmp_gt (tgt := 84) hx hb dX3_slowest_29 (by decide) (fun c4 => ?_) (fun c4 => ?_)
    · have hw := hw.1 c4
      refine lv_iload_n hx hb dX3_slowest_84 rfl (lv_at hl 3 rfl) ?_
      refine W.widen (k := 1) (n := 6) (Nat.le_of_ble_eq_true rfl) (Nat.le_of_ble_eq_true rfl) (vx_ret ?_)
      exact W.iret (v := x3) hx hb hr (fun t ht hW => ⟨⟨x3, (S, tx, hs, Ls), rfl, hw, by rw [ht]; exact hP, hD⟩, hS.F ht⟩) hS.2.2 dX3_slowest_85 hlocks
    · have hw := hw.2 c4
      refine lv_aload_n hx hb dX3_slowest_32 rfl (lv_at hl 0 rfl) ?_
      refine va_get (D := D) (ci := 3) (v := .ref (a 1 0)) (C := RX3) (T := TX3) (N := 7) hx hb hts (h_X3_X3_slowest) hown hK hP 0 rfl rfl 5 (by decide) (z_w hts 3 rfl) (fun _ h9 => h9) rfl dX3_slowest_33 ?_
      refine lv_aload_n hx hb dX3_slowest_36 rfl (lv_at hl 0 rfl) ?_
      refine va_get (D := D) (ci := 3) (v := .ref (a 0 0)) (C := RX3) (T := TX3) (N := 7) hx hb hts (h_X3_X3_slowest) hown hK hP 0 rfl rfl 1 (by decide) (z_w hts 1 rfl) (fun _ h9 => h9) rfl dX3_slowest_37 ?_
      have hPx := z_perm_P (lines_2 (cs := cs) (a := a) (n := 18) (i := 1) (j := 0) Ls (w_Xo cs x tq h a S ++ w_Text cs tq tx ++ w_Hist cs h a hs) (by decide) (by decide) (by omega)) hP
      have hDx := z_perm_D (lines_2 (cs := cs) (a := a) (n := 18) (i := 1) (j := 0) Ls (w_Xo cs x tq h a S ++ w_Text cs tq tx ++ w_Hist cs h a hs) (by decide) (by decide) (by omega)) hD
      have hPc := (z_app_P hPx).1
      have hDc := (z_app_D hDx).1
      have hFc := z_free hDx hS hA
      refine va_callv (va_runV (As := [.ref (a 0 0)]) (rest := []) ⟨hx, hb, hml, hown, hts⟩ (c_X1_copyFrom l D cs (a 1) (a 0) H.size (Ls 1) (Ls 0) _ hw) (cwV 1 hts gX3_slowest_X1_copyFrom rfl rfl rfl (by decide +kernel) ⟨Nat.le_of_ble_eq_true rfl, Nat.le_of_ble_eq_true rfl⟩) (PC_V hPc hDc hKK 0 1 rfl rfl) rfl rfl hl.1 rfl (lv_room (Nat.le_of_ble_eq_true rfl)) dX3_slowest_40 ⟨Nat.le_of_ble_eq_true rfl, Nat.le_of_ble_eq_true rfl⟩) hS (fun q _ h => hFc q h) hFc (fun u5 t H locs ht hvm hw hB hz1 hk1 hS => ?_)
      obtain ⟨hP1, hD1⟩ := hB
      rw [ht] at hP1
      obtain ⟨hPx, hDx⟩ := z_join hPx hDx hk1 hFc hP1 hD1
      have hP : va_P D vwCl (w_Xo cs x tq h a S ++ w_Text cs tq tx ++ w_Hist cs h a hs ++ linesW cs a 18 (va_up Ls 1 u5)) H := z_perm_P (lines_2b (cs := cs) (a := a) (n := 18) (i := 1) (j := 0) Ls (w_Xo cs x tq h a S ++ w_Text cs tq tx ++ w_Hist cs h a hs) (by decide) (by decide) (by omega) u5) hPx
      have hD : va_D A (w_Xo cs x tq h a S ++ w_Text cs tq tx ++ w_Hist cs h a hs ++ linesW cs a 18 (va_up Ls 1 u5)) := z_perm_D (lines_2b (cs := cs) (a := a) (n := 18) (i := 1) (j := 0) Ls (w_Xo cs x tq h a S ++ w_Text cs tq tx ++ w_Hist cs h a hs) (by decide) (by decide) (by omega) u5) hDx
      refine lv_aload_n hx hb dX3_slowest_43 rfl (lv_at hl 0 rfl) ?_
      refine va_get (D := D) (ci := 3) (v := .ref (a 1 0)) (C := RX3) (T := TX3) (N := 7) hx hb hts (h_X3_X3_slowest) hown hK hP 0 rfl rfl 5 (by decide) (z_w hts 3 rfl) (fun _ h9 => h9) rfl dX3_slowest_44 ?_
      refine lv_iload_n hx hb dX3_slowest_47 rfl (lv_at hl 1 rfl) ?_
      refine lv_iload hx hb dX3_slowest_48 (lv_at hl 5 rfl) ?_
      have hPx := z_perm_P (lines_1 (cs := cs) (a := a) (n := 18) (i := 1) (va_up Ls 1 u5) (w_Xo cs x tq h a S ++ w_Text cs tq tx ++ w_Hist cs h a hs) (by decide)) hP
      have hDx := z_perm_D (lines_1 (cs := cs) (a := a) (n := 18) (i := 1) (va_up Ls 1 u5) (w_Xo cs x tq h a S ++ w_Text cs tq tx ++ w_Hist cs h a hs) (by decide)) hD
      have hPc := (z_app_P hPx).1
      have hDc := (z_app_D hDx).1
      have hFc := z_free hDx hS hA
      refine va_calli (va_runV (As := [.int x1, .int x5]) (rest := []) ⟨hx, hb, hml, hown, hts⟩ (c_X1_putDigits l D cs (a 1) H.size u5 x1 x5 _ hw) (cwV 2 hts gX3_slowest_X1_putDigits rfl rfl rfl (by decide +kernel) ⟨Nat.le_of_ble_eq_true rfl, Nat.le_of_ble_eq_true rfl⟩) (PC_V hPc hDc hKK 0 1 rfl rfl) rfl rfl hl.1 rfl (lv_room (Nat.le_of_ble_eq_true rfl)) dX3_slowest_50 ⟨Nat.le_of_ble_eq_true rfl, Nat.le_of_ble_eq_true rfl⟩) hS (fun q _ h => hFc q h) hFc (fun r6 u6 t H locs ht hvm hw hB hz1 hk1 hS => ?_)
      obtain ⟨hP1, hD1⟩ := hB
      rw [ht] at hP1
      obtain ⟨hPx, hDx⟩ := z_join hPx hDx hk1 hFc hP1 hD1
      have hP : va_P D vwCl (w_Xo cs x tq h a S ++ w_Text cs tq tx ++ w_Hist cs h a hs ++ linesW cs a 18 (va_up Ls 1 u6)) H := z_perm_P (lines_1b (cs := cs) (a := a) (n := 18) (i := 1) (va_up Ls 1 u5) (w_Xo cs x tq h a S ++ w_Text cs tq tx ++ w_Hist cs h a hs) (by decide) u6) hPx
      have hD : va_D A (w_Xo cs x tq h a S ++ w_Text cs tq tx ++ w_Hist cs h a hs ++ linesW cs a 18 (va_up Ls 1 u6)) := z_perm_D (lines_1b (cs := cs) (a := a) (n := 18) (i := 1) (va_up Ls 1 u5) (w_Xo cs x tq h a S ++ w_Text cs tq tx ++ w_Hist cs h a hs) (by decide) u6) hDx
      refine lv_pop hx hb dX3_slowest_53 rfl ?_
      refine lv_aload_n hx hb dX3_slowest_54 rfl (lv_at hl 0 rfl) ?_
      refine va_get (D := D) (ci := 3) (v := .ref (a 1 0)) (C := RX3) (T := TX3) (N := 7) hx hb hts (h_X3_X3_slowest) hown hK hP 0 rfl rfl 5 (by decide) (z_w hts 3 rfl) (fun _ h9 => h9) rfl dX3_slowest_55 ?_
      refine lv_iload_n hx hb dX3_slowest_58 rfl (lv_at hl 1 rfl) ?_
      have hPx := z_perm_P (lines_1 (cs := cs) (a := a) (n := 18) (i := 1) (va_up Ls 1 u6) (w_Xo cs x tq h a S ++ w_Text cs tq tx ++ w_Hist cs h a hs) (by decide)) hP
      have hDx := z_perm_D (lines_1 (cs := cs) (a := a) (n := 18) (i := 1) (va_up Ls 1 u6) (w_Xo cs x tq h a S ++ w_Text cs tq tx ++ w_Hist cs h a hs) (by decide)) hD
      have hPc := (z_app_P hPx).1
      have hDc := (z_app_D hDx).1
      have hFc := z_free hDx hS hA
      refine va_calli (va_runV (As := [.int x1]) (rest := []) ⟨hx, hb, hml, hown, hts⟩ (c_X1_runToRest l D cs (a 1) H.size u6 x1 _ hw) (cwV 1 hts gX3_slowest_X1_runToRest rfl rfl rfl (by decide +kernel) ⟨Nat.le_of_ble_eq_true rfl, Nat.le_of_ble_eq_true rfl⟩) (PC_V hPc hDc hKK 0 1 rfl rfl) rfl rfl hl.1 rfl (lv_room (Nat.le_of_ble_eq_true rfl)) dX3_slowest_59 ⟨Nat.le_of_ble_eq_true rfl, Nat.le_of_ble_eq_true rfl⟩) hS (fun q _ h => hFc q h) hFc (fun r7 u7 t H locs ht hvm hw hB hz1 hk1 hS => ?_)
      obtain ⟨hP1, hD1⟩ := hB
      rw [ht] at hP1
      obtain ⟨hPx, hDx⟩ := z_join hPx hDx hk1 hFc hP1 hD1
      have hP : va_P D vwCl (w_Xo cs x tq h a S ++ w_Text cs tq tx ++ w_Hist cs h a hs ++ linesW cs a 18 (va_up Ls 1 u7)) H := z_perm_P (lines_1b (cs := cs) (a := a) (n := 18) (i := 1) (va_up Ls 1 u6) (w_Xo cs x tq h a S ++ w_Text cs tq tx ++ w_Hist cs h a hs) (by decide) u7) hPx
      have hD : va_D A (w_Xo cs x tq h a S ++ w_Text cs tq tx ++ w_Hist cs h a hs ++ linesW cs a 18 (va_up Ls 1 u7)) := z_perm_D (lines_1b (cs := cs) (a := a) (n := 18) (i := 1) (va_up Ls 1 u6) (w_Xo cs x tq h a S ++ w_Text cs tq tx ++ w_Hist cs h a hs) (by decide) u7) hDx
      refine lv_istore (lv' := [(6, .int r7), (0, .ref (x 0)), (1, .int x1), (2, .int x2), (3, .int x3), (4, .int x4), (5, .int x5)]) hx hb dX3_slowest_62 hl (by decide) rfl (fun ls hl => ?_)
      refine lv_iload hx hb dX3_slowest_64 (lv_at hl 0 rfl) ?_
      refine lv_iload hx hb dX3_slowest_66 (lv_at hl 5 rfl) ?_
      refine lv_icmp_le (tgt := 78) hx hb dX3_slowest_68 (by decide) (fun c8 => ?_) (fun c8 => ?_)
      · have hw := hw.1 c8
        refine lv_iinc (v := x5 + 1) (lv' := [(5, .int (x5 + 1)), (6, .int r7), (0, .ref (x 0)), (1, .int x1), (2, .int x2), (3, .int x3), (4, .int x4)]) hx hb dX3_slowest_78 hl (k := 6) rfl rfl (by decide) rfl (fun ls hl => ?_)
        refine lv_goto (tgt := 26) hx hb dX3_slowest_81 (by decide) ?_
        exact ih _ _ _ _ _ _ _ hw _ _ hP hD hS ls (lv_sub hl [2, 3, 4, 5, 6, 0] rfl)
      · have hw := hw.2 c8
        refine lv_iload hx hb dX3_slowest_71 (lv_at hl 0 rfl) ?_
        refine lv_istore (lv' := [(4, .int r7), (6, .int r7), (0, .ref (x 0)), (1, .int x1), (2, .int x2), (3, .int x3), (5, .int x5)]) hx hb dX3_slowest_73 hl (by decide) rfl (fun ls hl => ?_)
        refine lv_iload hx hb dX3_slowest_75 (lv_at hl 6 rfl) ?_
        refine lv_istore_n (lv' := [(3, .int x5), (4, .int r7), (6, .int r7), (0, .ref (x 0)), (1, .int x1), (2, .int x2), (5, .int x5)]) hx hb dX3_slowest_77 rfl hl (by decide) rfl (fun ls hl => ?_)
        refine lv_iinc (v := x5 + 1) (lv' := [(5, .int (x5 + 1)), (3, .int x5), (4, .int r7), (6, .int r7), (0, .ref (x 0)), (1, .int x1), (2, .int x2)]) hx hb dX3_slowest_78 hl (k := 6) rfl rfl (by decide) rfl (fun ls hl => ?_)
        refine lv_goto (tgt := 26) hx hb dX3_slowest_81 (by decide) ?_
        exact ih _ _ _ _ _ _ _ hw _ _ hP hD hS ls (lv_sub hl [4, 5, 6, 1, 2, 0] rfl)
set_option maxHeartbeats 4000000 in
set_option maxRecDepth 100000 in
theorem t_X3_slowest {p : Program} {l : Launch} {e : Env} {s : State} {m : MethodId} {args : Array Value} {below : List Frame} {meth : Method} {c : Code} {D : va_G} {cs : Nat → ClassId} {A : Nat → Prop} (hC : MAt p s m args meth c RX3 cX3_slowest 7 (some .int) wsX3_slowest D cs) (hfl : l.stackTraces = false) (hT0 : ∀ x ∈ c.exceptionTable.toList, False) {sa : Nat → Nat} (hTW : TW sa s) (hTZ : TZ A s s.heap) (x : Nat → Nat) (tq : Nat → Nat) (h : Nat → Nat) (a : Nat → Nat → Nat) (S : XO) (tx : TS) (hs : HS) (Ls : (Nat → LnS)) (x1 : Int32) (Q : Int32 → XO → TS → HS → (Nat → LnS) → Prop) (QX : String → XO → TS → HS → (Nat → LnS) → Prop) (hA : ∀ q : Nat, s.heap.size ≤ q → A q) (hw : wp_X3_slowest S tx hs Ls x1 Q QX) (H : Heap) (locs : List Loc) (hP : va_P D vwCl (w_Xo cs x tq h a S ++ w_Text cs tq tx ++ w_Hist cs h a hs ++ linesW cs a 18 Ls) H) (hD : va_D A (w_Xo cs x tq h a S ++ w_Text cs tq tx ++ w_Hist cs h a hs ++ linesW cs a 18 Ls)) (hS : va_S A s.heap H locs) (ls : Array Slot) (hl : lv_has ls 7 [(0, .ref (x 0)), (1, .int x1)]) : W p l e ({ frames := 7, cells := 1, slots := 6, locals := 116 } : Room) s m args below meth c H locs 0 0 (vx_MQ below (va_Qi (fun r (u : XO × TS × HS × (Nat → LnS)) => Q r u.1 u.2.1 u.2.2.1 u.2.2.2) (fun (u : XO × TS × HS × (Nat → LnS)) t => va_P D vwCl (w_Xo cs x tq h a u.1 ++ w_Text cs tq u.2.1 ++ w_Hist cs h a u.2.2.1 ++ linesW cs a 18 u.2.2.2) t.heap ∧ va_D A (w_Xo cs x tq h a u.1 ++ w_Text cs tq u.2.1 ++ w_Hist cs h a u.2.2.1 ++ linesW cs a 18 u.2.2.2)) A) (vx_X (fun (_ : XO × TS × HS × (Nat → LnS)) => True) (fun E (u : XO × TS × HS × (Nat → LnS)) t => QX E u.1 u.2.1 u.2.2.1 u.2.2.2 ∧ va_P D vwCl (w_Xo cs x tq h a u.1 ++ w_Text cs tq u.2.1 ++ w_Hist cs h a u.2.2.1 ++ linesW cs a 18 u.2.2.2) t.heap ∧ va_D A (w_Xo cs x tq h a u.1 ++ w_Text cs tq u.2.1 ++ w_Hist cs h a u.2.2.1 ++ linesW cs a 18 u.2.2.2)) A) args s 1 6 A) (F0 m 0 ls []) := by
  obtain ⟨hx, hb, hr, hml, hown, hts, hlocks, hKK⟩ := id hC
  have hK := hKK.1
  refine lv_aload_n hx hb dX3_slowest_0 rfl (lv_at hl 0 rfl) ?_
  refine lv_iload_n hx hb dX3_slowest_1 rfl (lv_at hl 1 rfl) ?_
  have hFc := z_free (wr := []) (by rw [List.append_nil]; exact hD) hS hA
  refine vx_callv (vx_runV (As := [.int x1]) (rest := []) ⟨hx, hb, hml, hown, hts⟩ (c_X3_requireCounter l hfl D cs x tq h a H.size sa S tx hs Ls x1 _ _ hw) (cwV 1 hts gX3_slowest_X3_requireCounter rfl rfl rfl (by decide +kernel) ⟨Nat.le_of_ble_eq_true rfl, Nat.le_of_ble_eq_true rfl⟩) (PX_V hP hD hKK hTW hTZ hS hFc 0 3 rfl rfl) rfl rfl hl.1 rfl (lv_room (Nat.le_of_ble_eq_true rfl)) dX3_slowest_2 ⟨Nat.le_of_ble_eq_true rfl, Nat.le_of_ble_eq_true rfl⟩) hS (fun q _ h => hFc q h) hFc (fun q _ h => hFc q h) ?_ (fun u1 t H locs ht hvm hw hB hz1 hk1 hS => ?_)
  · intro E ce q9 u1 t H locs ht hvm hpx hB hz1 hk1 hS hq9 hce hcl
    obtain ⟨u1_0, u1_1, u1_2, u1_3⟩ := u1
    obtain ⟨hw, hP1, hD1⟩ := hB
    rw [ht] at hP1
    have hD : va_D A (w_Xo cs x tq h a u1_0 ++ w_Text cs tq u1_1 ++ w_Hist cs h a u1_2 ++ linesW cs a 18 u1_3) := hD1.weaken (fun k q _ h => hFc q.1 h)
    have hP : va_P D vwCl (w_Xo cs x tq h a u1_0 ++ w_Text cs tq u1_1 ++ w_Hist cs h a u1_2 ++ linesW cs a 18 u1_3) H := hP1
    exact vx_out (fun x h => (hT0 x h).elim) hlocks hq9 hce hcl (fun t2 ht2 hvm2 => ⟨(u1_0, u1_1, u1_2, u1_3), trivial, ⟨hw, by rw [ht2]; exact hP, hD⟩, hS.F ht2⟩) hS.2.2 (Nat.le_of_ble_eq_true rfl) (Nat.le_of_ble_eq_true rfl)
  obtain ⟨u1_0, u1_1, u1_2, u1_3⟩ := u1
  obtain ⟨hP1, hD1⟩ := hB
  rw [ht] at hP1
  have hD : va_D A (w_Xo cs x tq h a u1_0 ++ w_Text cs tq u1_1 ++ w_Hist cs h a u1_2 ++ linesW cs a 18 u1_3) := hD1.weaken (fun k q _ h => hFc q.1 h)
  have hP : va_P D vwCl (w_Xo cs x tq h a u1_0 ++ w_Text cs tq u1_1 ++ w_Hist cs h a u1_2 ++ linesW cs a 18 u1_3) H := hP1
  refine lv_aload_n hx hb dX3_slowest_5 rfl (lv_at hl 0 rfl) ?_
  refine va_get (D := D) (ci := 3) (v := .ref (a 0 0)) (C := RX3) (T := TX3) (N := 7) hx hb hts (h_X3_X3_slowest) hown hK hP 0 rfl rfl 1 (by decide) (z_w hts 1 rfl) (fun _ h9 => h9) rfl dX3_slowest_6 ?_
  refine va_get (D := D) (ci := 1) (v := .ref (a 0 1)) (C := RX1) (T := TX1) (N := 13) hx hb hts (h_X1_X3_slowest) hown hK hP 8 rfl rfl 4 (by decide) (z_w hts 2 rfl) (fun _ h9 => h9) rfl dX3_slowest_9 ?_
  refine lv_iload_n hx hb dX3_slowest_12 rfl (lv_at hl 1 rfl) ?_
  obtain ⟨h2, hw⟩ := hw
  refine va_iald hx hb hK hP 9 0 rfl rfl h2 dX3_slowest_13 ?_
  have hPc : va_P D vwCl ([] : va_W) H := z_nilP
  have hDc : va_D A ([] : va_W) := z_nilD
  refine z_calli (va_runS (As := [.int ((u1_3 0).1 1 x1.toNatClampNeg)]) (rest := []) ⟨hx, hb, hml, hown, hts⟩ (c_X3_greatestToTry l D cs  H.size ((u1_3 0).1 1 x1.toNatClampNeg) _ hw) (va_cwS 1 hts gX3_slowest_X3_greatestToTry rfl rfl rfl (by decide +kernel) ⟨Nat.le_of_ble_eq_true rfl, Nat.le_of_ble_eq_true rfl⟩) (PC_S hPc hDc hKK) rfl rfl hl.1 rfl (lv_room (Nat.le_of_ble_eq_true rfl)) dX3_slowest_14 ⟨Nat.le_of_ble_eq_true rfl, Nat.le_of_ble_eq_true rfl⟩) (fun r3 hw => ?_)
  refine lv_istore_n (lv' := [(2, .int r3), (0, .ref (x 0)), (1, .int x1)]) hx hb dX3_slowest_17 rfl hl (by decide) rfl (fun ls hl => ?_)
  refine lv_iconst (v := (-1 : Int32)) hx hb dX3_slowest_18 (by decide) ?_
  refine lv_istore_n (lv' := [(3, .int (-1 : Int32)), (2, .int r3), (0, .ref (x 0)), (1, .int x1)]) hx hb dX3_slowest_19 rfl hl (by decide) rfl (fun ls hl => ?_)
  refine lv_iconst (v := (-1 : Int32)) hx hb dX3_slowest_20 (by decide) ?_
  refine lv_istore (lv' := [(4, .int (-1 : Int32)), (3, .int (-1 : Int32)), (2, .int r3), (0, .ref (x 0)), (1, .int x1)]) hx hb dX3_slowest_21 hl (by decide) rfl (fun ls hl => ?_)
  refine lv_iconst (v := (1 : Int32)) hx hb dX3_slowest_23 (by decide) ?_
  refine lv_istore (lv' := [(5, .int (1 : Int32)), (4, .int (-1 : Int32)), (3, .int (-1 : Int32)), (2, .int r3), (0, .ref (x 0)), (1, .int x1)]) hx hb dX3_slowest_24 hl (by decide) rfl (fun ls hl => ?_)
  obtain ⟨n9, hw⟩ := hw
  exact t_X3_slowest_26 hC hfl hT0 hTW hTZ x tq h a _ _ _ _ hA n9 _ _ _ _ _ _ _ hw H locs hP hD hS ls (lv_sub hl [4, 5, 3, 2, 1, 0] rfl)
set_option maxHeartbeats 4000000 in
set_option maxRecDepth 100000 in
theorem c_X3_slowest (l : Launch) (hfl : l.stackTraces = false) (D : va_G) (cs : Nat → ClassId) (x : Nat → Nat) (tq : Nat → Nat) (h : Nat → Nat) (a : Nat → Nat → Nat) (sz : Nat) (sa : Nat → Nat) (S : XO) (tx : TS) (hs : HS) (Ls : (Nat → LnS)) (x1 : Int32) (Q : Int32 → XO → TS → HS → (Nat → LnS) → Prop) (QX : String → XO → TS → HS → (Nat → LnS) → Prop) (hw : wp_X3_slowest S tx hs Ls x1 Q QX) : vx_Met l yX3_slowest wsX3_slowest ({ frames := 7, cells := 1, slots := 6, locals := 116 } : Room) (va_Pc [.ref (x 0), .int x1] (PX D cs (w_Xo cs x tq h a S ++ w_Text cs tq tx ++ w_Hist cs h a hs ++ linesW cs a 18 Ls) sa sz)) (va_Qi (fun r (u : XO × TS × HS × (Nat → LnS)) => Q r u.1 u.2.1 u.2.2.1 u.2.2.2) (fun (u : XO × TS × HS × (Nat → LnS)) t => va_P D vwCl (w_Xo cs x tq h a u.1 ++ w_Text cs tq u.2.1 ++ w_Hist cs h a u.2.2.1 ++ linesW cs a 18 u.2.2.2) t.heap ∧ va_D (va_A (w_Xo cs x tq h a S ++ w_Text cs tq tx ++ w_Hist cs h a hs ++ linesW cs a 18 Ls) sz) (w_Xo cs x tq h a u.1 ++ w_Text cs tq u.2.1 ++ w_Hist cs h a u.2.2.1 ++ linesW cs a 18 u.2.2.2)) (va_A (w_Xo cs x tq h a S ++ w_Text cs tq tx ++ w_Hist cs h a hs ++ linesW cs a 18 Ls) sz)) (vx_X (fun (_ : XO × TS × HS × (Nat → LnS)) => True) (fun E (u : XO × TS × HS × (Nat → LnS)) t => QX E u.1 u.2.1 u.2.2.1 u.2.2.2 ∧ va_P D vwCl (w_Xo cs x tq h a u.1 ++ w_Text cs tq u.2.1 ++ w_Hist cs h a u.2.2.1 ++ linesW cs a 18 u.2.2.2) t.heap ∧ va_D (va_A (w_Xo cs x tq h a S ++ w_Text cs tq tx ++ w_Hist cs h a hs ++ linesW cs a 18 Ls) sz) (w_Xo cs x tq h a u.1 ++ w_Text cs tq u.2.1 ++ w_Hist cs h a u.2.2.1 ++ linesW cs a 18 u.2.2.2)) (va_A (w_Xo cs x tq h a S ++ w_Text cs tq tx ++ w_Hist cs h a hs ++ linesW cs a 18 Ls) sz)) 1 6 (va_A (w_Xo cs x tq h a S ++ w_Text cs tq tx ++ w_Hist cs h a hs ++ linesW cs a 18 Ls) sz) := by
  refine vx_ofW (cc := cX3_slowest) (maxL := 7) (ret := (some .int)) (by decide) rfl ?_
  intro p e s m args below meth c s₁ B hml hT0 hv
  obtain ⟨rfl, ⟨hsz, hP, hKK, hD0⟩, hTW, hTZ⟩ := hv
  have hC : MAt p s m _ meth c RX3 cX3_slowest 7 (some .int) wsX3_slowest D cs := ⟨B.exec, B.bytes, B.returns, hml, findClass_of_methodNamed B.named, atoms_spec (ws := wsX3_slowest) B.pre, B.notSynchronized, hKK⟩
  have hl := lv_entry ([.ref (x 0), .int x1]) (n := 7) (Nat.le_of_ble_eq_true rfl)
  rw [lg_entry_eq]
  generalize (lg_sl ([.ref (x 0), .int x1]) ++ List.replicate (7 - (lg_sl ([.ref (x 0), .int x1])).length) Slot.unset).toArray = ls at hl ⊢
  subst hsz
  have hD := hD0.self (sz := s.heap.size)
  have hA : ∀ z : Nat, s.heap.size ≤ z → va_A (w_Xo cs x tq h a S ++ w_Text cs tq tx ++ w_Hist cs h a hs ++ linesW cs a 18 Ls) s.heap.size z := fun z h => Or.inr h
  exact t_X3_slowest hC hfl hT0 hTW hTZ x tq h a S tx hs Ls x1 Q QX hA hw s.heap [] hP hD va_S.rf ls hl
theorem h_X3_X3_doubles : ∀ w ∈ u_ws RX3 TX3 7, w ∈ wsX3_doubles := fun _ h => List.mem_cons_of_mem _ (List.mem_append_left _ (List.mem_append_left _ (List.mem_append_left _ (List.mem_append_right _ h))))
set_option maxHeartbeats 4000000 in
set_option maxRecDepth 100000 in
theorem t_X3_doubles_25 {p : Program} {l : Launch} {e : Env} {s : State} {m : MethodId} {args : Array Value} {below : List Frame} {meth : Method} {c : Code} {D : va_G} {cs : Nat → ClassId} {A : Nat → Prop} (hC : MAt p s m args meth c RX3 cX3_doubles 4 (some .int) wsX3_doubles D cs) (hfl : l.stackTraces = false) (hT0 : ∀ x ∈ c.exceptionTable.toList, False) {sa : Nat → Nat} (hTW : TW sa s) (hTZ : TZ A s s.heap) (x : Nat → Nat) (tq : Nat → Nat) (h : Nat → Nat) (a : Nat → Nat → Nat) (x1 : Int32) (x2 : Int32) (Q : Int32 → XO → TS → HS → (Nat → LnS) → Prop) (QX : String → XO → TS → HS → (Nat → LnS) → Prop) (hA : ∀ q : Nat, s.heap.size ≤ q → A q) : ∀ (n : Nat) (S : XO) (tx : TS) (hs : HS) (Ls : (Nat → LnS)) (x3 : Int32), wl_X3_doubles_25 x1 x2 Q QX n S tx hs Ls x3 → ∀ (H : Heap) (locs : List Loc), va_P D vwCl (w_Xo cs x tq h a S ++ w_Text cs tq tx ++ w_Hist cs h a hs ++ linesW cs a 18 Ls) H → va_D A (w_Xo cs x tq h a S ++ w_Text cs tq tx ++ w_Hist cs h a hs ++ linesW cs a 18 Ls) → va_S A s.heap H locs → ∀ ls : Array Slot, lv_has ls 4 [(0, .ref (x 0)), (1, .int x1), (2, .int x2), (3, .int x3)] → W p l e ({ frames := 7, cells := 2, slots := 12, locals := 115 } : Room) s m args below meth c H locs 2 12 (vx_MQ below (va_Qi (fun r (u : XO × TS × HS × (Nat → LnS)) => Q r u.1 u.2.1 u.2.2.1 u.2.2.2) (fun (u : XO × TS × HS × (Nat → LnS)) t => va_P D vwCl (w_Xo cs x tq h a u.1 ++ w_Text cs tq u.2.1 ++ w_Hist cs h a u.2.2.1 ++ linesW cs a 18 u.2.2.2) t.heap ∧ va_D A (w_Xo cs x tq h a u.1 ++ w_Text cs tq u.2.1 ++ w_Hist cs h a u.2.2.1 ++ linesW cs a 18 u.2.2.2)) A) (vx_X (fun (_ : XO × TS × HS × (Nat → LnS)) => True) (fun E (u : XO × TS × HS × (Nat → LnS)) t => QX E u.1 u.2.1 u.2.2.1 u.2.2.2 ∧ va_P D vwCl (w_Xo cs x tq h a u.1 ++ w_Text cs tq u.2.1 ++ w_Hist cs h a u.2.2.1 ++ linesW cs a 18 u.2.2.2) t.heap ∧ va_D A (w_Xo cs x tq h a u.1 ++ w_Text cs tq u.2.1 ++ w_Hist cs h a u.2.2.1 ++ linesW cs a 18 u.2.2.2)) A) args s 2 12 A) (F0 m 25 ls []) := by
  obtain ⟨hx, hb, hr, hml, hown, hts, hlocks, hKK⟩ := id hC
  have hK := hKK.1
  intro n
  induction n with
  | zero =>
    intro S tx hs Ls x3 hw
    exact False.elim hw
  | succ n ih =>
    intro S tx hs Ls x3 hw H locs hP hD hS ls hl
    refine lv_iload_n hx hb dX3_doubles_25 rfl (lv_at hl 3 rfl) ?_
    refine lv_iload_n hx hb dX3_doubles_26 rfl (lv_at hl 2 rfl) ?_
    refine lv_icmp_ge (tgt := 53) hx hb dX3_doubles_27 (by decide) (fun c4 => ?_) (fun c4 => ?_)
    · have hw := hw.1 c4
      refine lv_aload_n hx hb dX3_doubles_53 rfl (lv_at hl 0 rfl) ?_
      refine va_get (D := D) (ci := 3) (v := .ref (a 1 0)) (C := RX3) (T := TX3) (N := 7) hx hb hts (h_X3_X3_doubles) hown hK hP 0 rfl rfl 5 (by decide) (z_w hts 1 rfl) (fun _ h9 => h9) rfl dX3_doubles_54 ?_
      have hPx := z_perm_P (lines_1 (cs := cs) (a := a) (n := 18) (i := 1) Ls (w_Xo cs x tq h a S ++ w_Text cs tq tx ++ w_Hist cs h a hs) (by decide)) hP
      have hDx := z_perm_D (lines_1 (cs := cs) (a := a) (n := 18) (i := 1) Ls (w_Xo cs x tq h a S ++ w_Text cs tq tx ++ w_Hist cs h a hs) (by decide)) hD
      have hPc := (z_app_P hPx).1
      have hDc := (z_app_D hDx).1
      refine z_calli (va_runV (As := []) (rest := []) ⟨hx, hb, hml, hown, hts⟩ (c_X1_pairs l D cs (a 1) H.size (Ls 1) _ hw) (cwV 0 hts gX3_doubles_X1_pairs rfl rfl rfl (by decide +kernel) ⟨Nat.le_of_ble_eq_true rfl, Nat.le_of_ble_eq_true rfl⟩) (PC_V hPc hDc hKK 0 1 rfl rfl) rfl rfl hl.1 rfl (lv_room (Nat.le_of_ble_eq_true rfl)) dX3_doubles_57 ⟨Nat.le_of_ble_eq_true rfl, Nat.le_of_ble_eq_true rfl⟩) (fun r5 hw => ?_)
      refine W.widen (k := 2) (n := 12) (Nat.le_of_ble_eq_true rfl) (Nat.le_of_ble_eq_true rfl) (vx_ret ?_)
      exact W.iret (v := r5) hx hb hr (fun t ht hW => ⟨⟨r5, (S, tx, hs, Ls), rfl, hw, by rw [ht]; exact hP, hD⟩, hS.F ht⟩) hS.2.2 dX3_doubles_60 hlocks
    · have hw := hw.2 c4
      refine lv_aload_n hx hb dX3_doubles_30 rfl (lv_at hl 0 rfl) ?_
      refine va_get (D := D) (ci := 3) (v := .ref (a 1 0)) (C := RX3) (T := TX3) (N := 7) hx hb hts (h_X3_X3_doubles) hown hK hP 0 rfl rfl 5 (by decide) (z_w hts 1 rfl) (fun _ h9 => h9) rfl dX3_doubles_31 ?_
      refine lv_iload_n hx hb dX3_doubles_34 rfl (lv_at hl 1 rfl) ?_
      have hPx := z_perm_P (lines_1 (cs := cs) (a := a) (n := 18) (i := 1) Ls (w_Xo cs x tq h a S ++ w_Text cs tq tx ++ w_Hist cs h a hs) (by decide)) hP
      have hDx := z_perm_D (lines_1 (cs := cs) (a := a) (n := 18) (i := 1) Ls (w_Xo cs x tq h a S ++ w_Text cs tq tx ++ w_Hist cs h a hs) (by decide)) hD
      have hPc := (z_app_P hPx).1
      have hDc := (z_app_D hDx).1
      have hFc := z_free hDx hS hA
      refine va_calli (va_runV (As := [.int x1]) (rest := []) ⟨hx, hb, hml, hown, hts⟩ (c_X1_drawFrom l D cs (a 1) H.size (Ls 1) x1 _ hw) (cwV 1 hts gX3_doubles_X1_drawFrom rfl rfl rfl (by decide +kernel) ⟨Nat.le_of_ble_eq_true rfl, Nat.le_of_ble_eq_true rfl⟩) (PC_V hPc hDc hKK 0 1 rfl rfl) rfl rfl hl.1 rfl (lv_room (Nat.le_of_ble_eq_true rfl)) dX3_doubles_35 ⟨Nat.le_of_ble_eq_true rfl, Nat.le_of_ble_eq_true rfl⟩) hS (fun q _ h => hFc q h) hFc (fun r6 u6 t H locs ht hvm hw hB hz1 hk1 hS => ?_)
      obtain ⟨hP1, hD1⟩ := hB
      rw [ht] at hP1
      obtain ⟨hPx, hDx⟩ := z_join hPx hDx hk1 hFc hP1 hD1
      have hP : va_P D vwCl (w_Xo cs x tq h a S ++ w_Text cs tq tx ++ w_Hist cs h a hs ++ linesW cs a 18 (va_up Ls 1 u6)) H := z_perm_P (lines_1b (cs := cs) (a := a) (n := 18) (i := 1) Ls (w_Xo cs x tq h a S ++ w_Text cs tq tx ++ w_Hist cs h a hs) (by decide) u6) hPx
      have hD : va_D A (w_Xo cs x tq h a S ++ w_Text cs tq tx ++ w_Hist cs h a hs ++ linesW cs a 18 (va_up Ls 1 u6)) := z_perm_D (lines_1b (cs := cs) (a := a) (n := 18) (i := 1) Ls (w_Xo cs x tq h a S ++ w_Text cs tq tx ++ w_Hist cs h a hs) (by decide) u6) hDx
      refine lv_pop hx hb dX3_doubles_38 rfl ?_
      refine lv_aload_n hx hb dX3_doubles_39 rfl (lv_at hl 0 rfl) ?_
      refine va_get (D := D) (ci := 3) (v := .ref (a 1 0)) (C := RX3) (T := TX3) (N := 7) hx hb hts (h_X3_X3_doubles) hown hK hP 0 rfl rfl 5 (by decide) (z_w hts 1 rfl) (fun _ h9 => h9) rfl dX3_doubles_40 ?_
      refine lv_iconst (v := (1 : Int32)) hx hb dX3_doubles_43 (by decide) ?_
      have hPx := z_perm_P (lines_1 (cs := cs) (a := a) (n := 18) (i := 1) (va_up Ls 1 u6) (w_Xo cs x tq h a S ++ w_Text cs tq tx ++ w_Hist cs h a hs) (by decide)) hP
      have hDx := z_perm_D (lines_1 (cs := cs) (a := a) (n := 18) (i := 1) (va_up Ls 1 u6) (w_Xo cs x tq h a S ++ w_Text cs tq tx ++ w_Hist cs h a hs) (by decide)) hD
      have hPc := (z_app_P hPx).1
      have hDc := (z_app_D hDx).1
      have hFc := z_free hDx hS hA
      refine va_callv (va_runV (As := [.int (1 : Int32)]) (rest := []) ⟨hx, hb, hml, hown, hts⟩ (c_X1_passBeats l D cs (a 1) H.size u6 (1 : Int32) _ hw) (cwV 1 hts gX3_doubles_X1_passBeats rfl rfl rfl (by decide +kernel) ⟨Nat.le_of_ble_eq_true rfl, Nat.le_of_ble_eq_true rfl⟩) (PC_V hPc hDc hKK 0 1 rfl rfl) rfl rfl hl.1 rfl (lv_room (Nat.le_of_ble_eq_true rfl)) dX3_doubles_44 ⟨Nat.le_of_ble_eq_true rfl, Nat.le_of_ble_eq_true rfl⟩) hS (fun q _ h => hFc q h) hFc (fun u7 t H locs ht hvm hw hB hz1 hk1 hS => ?_)
      obtain ⟨hP1, hD1⟩ := hB
      rw [ht] at hP1
      obtain ⟨hPx, hDx⟩ := z_join hPx hDx hk1 hFc hP1 hD1
      have hP : va_P D vwCl (w_Xo cs x tq h a S ++ w_Text cs tq tx ++ w_Hist cs h a hs ++ linesW cs a 18 (va_up Ls 1 u7)) H := z_perm_P (lines_1b (cs := cs) (a := a) (n := 18) (i := 1) (va_up Ls 1 u6) (w_Xo cs x tq h a S ++ w_Text cs tq tx ++ w_Hist cs h a hs) (by decide) u7) hPx
      have hD : va_D A (w_Xo cs x tq h a S ++ w_Text cs tq tx ++ w_Hist cs h a hs ++ linesW cs a 18 (va_up Ls 1 u7)) := z_perm_D (lines_1b (cs := cs) (a := a) (n := 18) (i := 1) (va_up Ls 1 u6) (w_Xo cs x tq h a S ++ w_Text cs tq tx ++ w_Hist cs h a hs) (by decide) u7) hDx
      refine lv_iinc (v := x3 + 1) (lv' := [(3, .int (x3 + 1)), (0, .ref (x 0)), (1, .int x1), (2, .int x2)]) hx hb dX3_doubles_47 hl (k := 3) rfl rfl (by decide) rfl (fun ls hl => ?_)
      refine lv_goto (tgt := 25) hx hb dX3_doubles_50 (by decide) ?_
      exact ih _ _ _ _ _ hw _ _ hP hD hS ls (lv_sub hl [1, 2, 3, 0] rfl)
set_option maxHeartbeats 4000000 in
set_option maxRecDepth 100000 in
theorem t_X3_doubles {p : Program} {l : Launch} {e : Env} {s : State} {m : MethodId} {args : Array Value} {below : List Frame} {meth : Method} {c : Code} {D : va_G} {cs : Nat → ClassId} {A : Nat → Prop} (hC : MAt p s m args meth c RX3 cX3_doubles 4 (some .int) wsX3_doubles D cs) (hfl : l.stackTraces = false) (hT0 : ∀ x ∈ c.exceptionTable.toList, False) {sa : Nat → Nat} (hTW : TW sa s) (hTZ : TZ A s s.heap) (x : Nat → Nat) (tq : Nat → Nat) (h : Nat → Nat) (a : Nat → Nat → Nat) (S : XO) (tx : TS) (hs : HS) (Ls : (Nat → LnS)) (x1 : Int32) (x2 : Int32) (Q : Int32 → XO → TS → HS → (Nat → LnS) → Prop) (QX : String → XO → TS → HS → (Nat → LnS) → Prop) (hA : ∀ q : Nat, s.heap.size ≤ q → A q) (hw : wp_X3_doubles S tx hs Ls x1 x2 Q QX) (H : Heap) (locs : List Loc) (hP : va_P D vwCl (w_Xo cs x tq h a S ++ w_Text cs tq tx ++ w_Hist cs h a hs ++ linesW cs a 18 Ls) H) (hD : va_D A (w_Xo cs x tq h a S ++ w_Text cs tq tx ++ w_Hist cs h a hs ++ linesW cs a 18 Ls)) (hS : va_S A s.heap H locs) (ls : Array Slot) (hl : lv_has ls 4 [(0, .ref (x 0)), (1, .int x1), (2, .int x2)]) : W p l e ({ frames := 7, cells := 2, slots := 12, locals := 115 } : Room) s m args below meth c H locs 0 0 (vx_MQ below (va_Qi (fun r (u : XO × TS × HS × (Nat → LnS)) => Q r u.1 u.2.1 u.2.2.1 u.2.2.2) (fun (u : XO × TS × HS × (Nat → LnS)) t => va_P D vwCl (w_Xo cs x tq h a u.1 ++ w_Text cs tq u.2.1 ++ w_Hist cs h a u.2.2.1 ++ linesW cs a 18 u.2.2.2) t.heap ∧ va_D A (w_Xo cs x tq h a u.1 ++ w_Text cs tq u.2.1 ++ w_Hist cs h a u.2.2.1 ++ linesW cs a 18 u.2.2.2)) A) (vx_X (fun (_ : XO × TS × HS × (Nat → LnS)) => True) (fun E (u : XO × TS × HS × (Nat → LnS)) t => QX E u.1 u.2.1 u.2.2.1 u.2.2.2 ∧ va_P D vwCl (w_Xo cs x tq h a u.1 ++ w_Text cs tq u.2.1 ++ w_Hist cs h a u.2.2.1 ++ linesW cs a 18 u.2.2.2) t.heap ∧ va_D A (w_Xo cs x tq h a u.1 ++ w_Text cs tq u.2.1 ++ w_Hist cs h a u.2.2.1 ++ linesW cs a 18 u.2.2.2)) A) args s 2 12 A) (F0 m 0 ls []) := by
  obtain ⟨hx, hb, hr, hml, hown, hts, hlocks, hKK⟩ := id hC
  have hK := hKK.1
  refine lv_aload_n hx hb dX3_doubles_0 rfl (lv_at hl 0 rfl) ?_
  refine lv_iload_n hx hb dX3_doubles_1 rfl (lv_at hl 1 rfl) ?_
  have hFc := z_free (wr := []) (by rw [List.append_nil]; exact hD) hS hA
  refine vx_callv (vx_runV (As := [.int x1]) (rest := []) ⟨hx, hb, hml, hown, hts⟩ (c_X3_requireCounter l hfl D cs x tq h a H.size sa S tx hs Ls x1 _ _ hw) (cwV 1 hts gX3_doubles_X3_requireCounter rfl rfl rfl (by decide +kernel) ⟨Nat.le_of_ble_eq_true rfl, Nat.le_of_ble_eq_true rfl⟩) (PX_V hP hD hKK hTW hTZ hS hFc 0 3 rfl rfl) rfl rfl hl.1 rfl (lv_room (Nat.le_of_ble_eq_true rfl)) dX3_doubles_2 ⟨Nat.le_of_ble_eq_true rfl, Nat.le_of_ble_eq_true rfl⟩) hS (fun q _ h => hFc q h) hFc (fun q _ h => hFc q h) ?_ (fun u1 t H locs ht hvm hw hB hz1 hk1 hS => ?_)
  · intro E ce q9 u1 t H locs ht hvm hpx hB hz1 hk1 hS hq9 hce hcl
    obtain ⟨u1_0, u1_1, u1_2, u1_3⟩ := u1
    obtain ⟨hw, hP1, hD1⟩ := hB
    rw [ht] at hP1
    have hD : va_D A (w_Xo cs x tq h a u1_0 ++ w_Text cs tq u1_1 ++ w_Hist cs h a u1_2 ++ linesW cs a 18 u1_3) := hD1.weaken (fun k q _ h => hFc q.1 h)
    have hP : va_P D vwCl (w_Xo cs x tq h a u1_0 ++ w_Text cs tq u1_1 ++ w_Hist cs h a u1_2 ++ linesW cs a 18 u1_3) H := hP1
    exact vx_out (fun x h => (hT0 x h).elim) hlocks hq9 hce hcl (fun t2 ht2 hvm2 => ⟨(u1_0, u1_1, u1_2, u1_3), trivial, ⟨hw, by rw [ht2]; exact hP, hD⟩, hS.F ht2⟩) hS.2.2 (Nat.le_of_ble_eq_true rfl) (Nat.le_of_ble_eq_true rfl)
  obtain ⟨u1_0, u1_1, u1_2, u1_3⟩ := u1
  obtain ⟨hP1, hD1⟩ := hB
  rw [ht] at hP1
  have hD : va_D A (w_Xo cs x tq h a u1_0 ++ w_Text cs tq u1_1 ++ w_Hist cs h a u1_2 ++ linesW cs a 18 u1_3) := hD1.weaken (fun k q _ h => hFc q.1 h)
  have hP : va_P D vwCl (w_Xo cs x tq h a u1_0 ++ w_Text cs tq u1_1 ++ w_Hist cs h a u1_2 ++ linesW cs a 18 u1_3) H := hP1
  refine lv_iload_n hx hb dX3_doubles_5 rfl (lv_at hl 2 rfl) ?_
  refine lv_iconst (v := (1 : Int32)) hx hb dX3_doubles_6 (by decide) ?_
  refine lv_bipush (v := (9 : Int32)) hx hb dX3_doubles_7 (by decide) ?_
  have hPc : va_P D vwCl ([] : va_W) H := z_nilP
  have hDc : va_D A ([] : va_W) := z_nilD
  have hFc := z_free (wc := []) hD hS hA
  refine vx_callv (vx_runS (As := [.int x2, .int (1 : Int32), .int (9 : Int32)]) (rest := []) ⟨hx, hb, hml, hown, hts⟩ (c_X3_requireRange l hfl D cs  H.size sa x2 (1 : Int32) (9 : Int32) _ _ hw) (va_cwS 3 hts gX3_doubles_X3_requireRange rfl rfl rfl (by decide +kernel) ⟨Nat.le_of_ble_eq_true rfl, Nat.le_of_ble_eq_true rfl⟩) (PX_S hPc hDc hKK hTW hTZ hS hFc) rfl rfl hl.1 rfl (lv_room (Nat.le_of_ble_eq_true rfl)) dX3_doubles_9 ⟨Nat.le_of_ble_eq_true rfl, Nat.le_of_ble_eq_true rfl⟩) hS (fun q _ h => hFc q h) hFc (fun q _ h => hFc q h) ?_ (fun u2 t H locs ht hvm hw hB hz1 hk1 hS => ?_)
  · intro E ce q9 u2 t H locs ht hvm hpx hB hz1 hk1 hS hq9 hce hcl
    obtain ⟨hw, hP1, hD1⟩ := hB
    rw [ht] at hP1
    obtain ⟨hP, hD⟩ := z_join (wc := []) hP hD hk1 hFc hP1 hD1
    have hP : va_P D vwCl (w_Xo cs x tq h a u1_0 ++ w_Text cs tq u1_1 ++ w_Hist cs h a u1_2 ++ linesW cs a 18 u1_3) H := hP
    have hD : va_D A (w_Xo cs x tq h a u1_0 ++ w_Text cs tq u1_1 ++ w_Hist cs h a u1_2 ++ linesW cs a 18 u1_3) := hD
    exact vx_out (fun x h => (hT0 x h).elim) hlocks hq9 hce hcl (fun t2 ht2 hvm2 => ⟨(u1_0, u1_1, u1_2, u1_3), trivial, ⟨hw, by rw [ht2]; exact hP, hD⟩, hS.F ht2⟩) hS.2.2 (Nat.le_of_ble_eq_true rfl) (Nat.le_of_ble_eq_true rfl)
  obtain ⟨hP1, hD1⟩ := hB
  rw [ht] at hP1
  obtain ⟨hP, hD⟩ := z_join (wc := []) hP hD hk1 hFc hP1 hD1
  have hP : va_P D vwCl (w_Xo cs x tq h a u1_0 ++ w_Text cs tq u1_1 ++ w_Hist cs h a u1_2 ++ linesW cs a 18 u1_3) H := hP
  have hD : va_D A (w_Xo cs x tq h a u1_0 ++ w_Text cs tq u1_1 ++ w_Hist cs h a u1_2 ++ linesW cs a 18 u1_3) := hD
  refine lv_aload_n hx hb dX3_doubles_12 rfl (lv_at hl 0 rfl) ?_
  refine va_get (D := D) (ci := 3) (v := .ref (a 1 0)) (C := RX3) (T := TX3) (N := 7) hx hb hts (h_X3_X3_doubles) hown hK hP 0 rfl rfl 5 (by decide) (z_w hts 1 rfl) (fun _ h9 => h9) rfl dX3_doubles_13 ?_
  refine lv_aload_n hx hb dX3_doubles_16 rfl (lv_at hl 0 rfl) ?_
  refine va_get (D := D) (ci := 3) (v := .ref (a 0 0)) (C := RX3) (T := TX3) (N := 7) hx hb hts (h_X3_X3_doubles) hown hK hP 0 rfl rfl 1 (by decide) (z_w hts 2 rfl) (fun _ h9 => h9) rfl dX3_doubles_17 ?_
  have hPx := z_perm_P (lines_2 (cs := cs) (a := a) (n := 18) (i := 1) (j := 0) u1_3 (w_Xo cs x tq h a u1_0 ++ w_Text cs tq u1_1 ++ w_Hist cs h a u1_2) (by decide) (by decide) (by omega)) hP
  have hDx := z_perm_D (lines_2 (cs := cs) (a := a) (n := 18) (i := 1) (j := 0) u1_3 (w_Xo cs x tq h a u1_0 ++ w_Text cs tq u1_1 ++ w_Hist cs h a u1_2) (by decide) (by decide) (by omega)) hD
  have hPc := (z_app_P hPx).1
  have hDc := (z_app_D hDx).1
  have hFc := z_free hDx hS hA
  refine va_callv (va_runV (As := [.ref (a 0 0)]) (rest := []) ⟨hx, hb, hml, hown, hts⟩ (c_X1_copyFrom l D cs (a 1) (a 0) H.size (u1_3 1) (u1_3 0) _ hw) (cwV 1 hts gX3_doubles_X1_copyFrom rfl rfl rfl (by decide +kernel) ⟨Nat.le_of_ble_eq_true rfl, Nat.le_of_ble_eq_true rfl⟩) (PC_V hPc hDc hKK 0 1 rfl rfl) rfl rfl hl.1 rfl (lv_room (Nat.le_of_ble_eq_true rfl)) dX3_doubles_20 ⟨Nat.le_of_ble_eq_true rfl, Nat.le_of_ble_eq_true rfl⟩) hS (fun q _ h => hFc q h) hFc (fun u3 t H locs ht hvm hw hB hz1 hk1 hS => ?_)
  obtain ⟨hP1, hD1⟩ := hB
  rw [ht] at hP1
  obtain ⟨hPx, hDx⟩ := z_join hPx hDx hk1 hFc hP1 hD1
  have hP : va_P D vwCl (w_Xo cs x tq h a u1_0 ++ w_Text cs tq u1_1 ++ w_Hist cs h a u1_2 ++ linesW cs a 18 (va_up u1_3 1 u3)) H := z_perm_P (lines_2b (cs := cs) (a := a) (n := 18) (i := 1) (j := 0) u1_3 (w_Xo cs x tq h a u1_0 ++ w_Text cs tq u1_1 ++ w_Hist cs h a u1_2) (by decide) (by decide) (by omega) u3) hPx
  have hD : va_D A (w_Xo cs x tq h a u1_0 ++ w_Text cs tq u1_1 ++ w_Hist cs h a u1_2 ++ linesW cs a 18 (va_up u1_3 1 u3)) := z_perm_D (lines_2b (cs := cs) (a := a) (n := 18) (i := 1) (j := 0) u1_3 (w_Xo cs x tq h a u1_0 ++ w_Text cs tq u1_1 ++ w_Hist cs h a u1_2) (by decide) (by decide) (by omega) u3) hDx
  refine lv_iconst (v := (0 : Int32)) hx hb dX3_doubles_23 (by decide) ?_
  refine lv_istore_n (lv' := [(3, .int (0 : Int32)), (0, .ref (x 0)), (1, .int x1), (2, .int x2)]) hx hb dX3_doubles_24 rfl hl (by decide) rfl (fun ls hl => ?_)
  obtain ⟨n8, hw⟩ := hw
  exact t_X3_doubles_25 hC hfl hT0 hTW hTZ x tq h a _ _ _ _ hA n8 _ _ _ _ _ hw H locs hP hD hS ls (lv_sub hl [1, 2, 3, 0] rfl)
set_option maxHeartbeats 4000000 in
set_option maxRecDepth 100000 in
theorem c_X3_doubles (l : Launch) (hfl : l.stackTraces = false) (D : va_G) (cs : Nat → ClassId) (x : Nat → Nat) (tq : Nat → Nat) (h : Nat → Nat) (a : Nat → Nat → Nat) (sz : Nat) (sa : Nat → Nat) (S : XO) (tx : TS) (hs : HS) (Ls : (Nat → LnS)) (x1 : Int32) (x2 : Int32) (Q : Int32 → XO → TS → HS → (Nat → LnS) → Prop) (QX : String → XO → TS → HS → (Nat → LnS) → Prop) (hw : wp_X3_doubles S tx hs Ls x1 x2 Q QX) : vx_Met l yX3_doubles wsX3_doubles ({ frames := 7, cells := 2, slots := 12, locals := 115 } : Room) (va_Pc [.ref (x 0), .int x1, .int x2] (PX D cs (w_Xo cs x tq h a S ++ w_Text cs tq tx ++ w_Hist cs h a hs ++ linesW cs a 18 Ls) sa sz)) (va_Qi (fun r (u : XO × TS × HS × (Nat → LnS)) => Q r u.1 u.2.1 u.2.2.1 u.2.2.2) (fun (u : XO × TS × HS × (Nat → LnS)) t => va_P D vwCl (w_Xo cs x tq h a u.1 ++ w_Text cs tq u.2.1 ++ w_Hist cs h a u.2.2.1 ++ linesW cs a 18 u.2.2.2) t.heap ∧ va_D (va_A (w_Xo cs x tq h a S ++ w_Text cs tq tx ++ w_Hist cs h a hs ++ linesW cs a 18 Ls) sz) (w_Xo cs x tq h a u.1 ++ w_Text cs tq u.2.1 ++ w_Hist cs h a u.2.2.1 ++ linesW cs a 18 u.2.2.2)) (va_A (w_Xo cs x tq h a S ++ w_Text cs tq tx ++ w_Hist cs h a hs ++ linesW cs a 18 Ls) sz)) (vx_X (fun (_ : XO × TS × HS × (Nat → LnS)) => True) (fun E (u : XO × TS × HS × (Nat → LnS)) t => QX E u.1 u.2.1 u.2.2.1 u.2.2.2 ∧ va_P D vwCl (w_Xo cs x tq h a u.1 ++ w_Text cs tq u.2.1 ++ w_Hist cs h a u.2.2.1 ++ linesW cs a 18 u.2.2.2) t.heap ∧ va_D (va_A (w_Xo cs x tq h a S ++ w_Text cs tq tx ++ w_Hist cs h a hs ++ linesW cs a 18 Ls) sz) (w_Xo cs x tq h a u.1 ++ w_Text cs tq u.2.1 ++ w_Hist cs h a u.2.2.1 ++ linesW cs a 18 u.2.2.2)) (va_A (w_Xo cs x tq h a S ++ w_Text cs tq tx ++ w_Hist cs h a hs ++ linesW cs a 18 Ls) sz)) 2 12 (va_A (w_Xo cs x tq h a S ++ w_Text cs tq tx ++ w_Hist cs h a hs ++ linesW cs a 18 Ls) sz) := by
  refine vx_ofW (cc := cX3_doubles) (maxL := 4) (ret := (some .int)) (by decide) rfl ?_
  intro p e s m args below meth c s₁ B hml hT0 hv
  obtain ⟨rfl, ⟨hsz, hP, hKK, hD0⟩, hTW, hTZ⟩ := hv
  have hC : MAt p s m _ meth c RX3 cX3_doubles 4 (some .int) wsX3_doubles D cs := ⟨B.exec, B.bytes, B.returns, hml, findClass_of_methodNamed B.named, atoms_spec (ws := wsX3_doubles) B.pre, B.notSynchronized, hKK⟩
  have hl := lv_entry ([.ref (x 0), .int x1, .int x2]) (n := 4) (Nat.le_of_ble_eq_true rfl)
  rw [lg_entry_eq]
  generalize (lg_sl ([.ref (x 0), .int x1, .int x2]) ++ List.replicate (4 - (lg_sl ([.ref (x 0), .int x1, .int x2])).length) Slot.unset).toArray = ls at hl ⊢
  subst hsz
  have hD := hD0.self (sz := s.heap.size)
  have hA : ∀ z : Nat, s.heap.size ≤ z → va_A (w_Xo cs x tq h a S ++ w_Text cs tq tx ++ w_Hist cs h a hs ++ linesW cs a 18 Ls) s.heap.size z := fun z h => Or.inr h
  exact t_X3_doubles hC hfl hT0 hTW hTZ x tq h a S tx hs Ls x1 x2 Q QX hA hw s.heap [] hP hD va_S.rf ls hl
theorem h_X3_X3_runScript : ∀ w ∈ u_ws RX3 TX3 7, w ∈ wsX3_runScript := fun _ h => List.mem_cons_of_mem _ (List.mem_append_left _ (List.mem_append_left _ (List.mem_append_right _ h)))
set_option maxHeartbeats 4000000 in
set_option maxRecDepth 100000 in
theorem t_X3_runScript_45 {p : Program} {l : Launch} {e : Env} {s : State} {m : MethodId} {args : Array Value} {below : List Frame} {meth : Method} {c : Code} {D : va_G} {cs : Nat → ClassId} {A : Nat → Prop} (hC : MAt p s m args meth c RX3 cX3_runScript 5 (some .int) wsX3_runScript D cs) (hfl : l.stackTraces = false) (hT0 : ∀ x ∈ c.exceptionTable.toList, False) {sa : Nat → Nat} (hTW : TW sa s) (hTZ : TZ A s s.heap) (x : Nat → Nat) (tq : Nat → Nat) (h : Nat → Nat) (a : Nat → Nat → Nat) (x1 : Int32) (Q : Int32 → XO → TS → HS → (Nat → LnS) → Prop) (QX : String → XO → TS → HS → (Nat → LnS) → Prop) (hA : ∀ q : Nat, s.heap.size ≤ q → A q) : ∀ (n : Nat) (S : XO) (tx : TS) (hs : HS) (Ls : (Nat → LnS)) (x4 : Int32), wl_X3_runScript_45 x1 Q QX n S tx hs Ls x4 → ∀ (H : Heap) (locs : List Loc), va_P D vwCl (w_Xo cs x tq h a S ++ w_Text cs tq tx ++ w_Hist cs h a hs ++ linesW cs a 18 Ls) H → va_D A (w_Xo cs x tq h a S ++ w_Text cs tq tx ++ w_Hist cs h a hs ++ linesW cs a 18 Ls) → va_S A s.heap H locs → ∀ ls : Array Slot, lv_has ls 5 [(0, .ref (x 0)), (1, .int x1), (4, .int x4)] → W p l e ({ frames := 7, cells := 2, slots := 12, locals := 160 } : Room) s m args below meth c H locs 1 6 (vx_MQ below (va_Qi (fun r (u : XO × TS × HS × (Nat → LnS)) => Q r u.1 u.2.1 u.2.2.1 u.2.2.2) (fun (u : XO × TS × HS × (Nat → LnS)) t => va_P D vwCl (w_Xo cs x tq h a u.1 ++ w_Text cs tq u.2.1 ++ w_Hist cs h a u.2.2.1 ++ linesW cs a 18 u.2.2.2) t.heap ∧ va_D A (w_Xo cs x tq h a u.1 ++ w_Text cs tq u.2.1 ++ w_Hist cs h a u.2.2.1 ++ linesW cs a 18 u.2.2.2)) A) (vx_X (fun (_ : XO × TS × HS × (Nat → LnS)) => True) (fun E (u : XO × TS × HS × (Nat → LnS)) t => QX E u.1 u.2.1 u.2.2.1 u.2.2.2 ∧ va_P D vwCl (w_Xo cs x tq h a u.1 ++ w_Text cs tq u.2.1 ++ w_Hist cs h a u.2.2.1 ++ linesW cs a 18 u.2.2.2) t.heap ∧ va_D A (w_Xo cs x tq h a u.1 ++ w_Text cs tq u.2.1 ++ w_Hist cs h a u.2.2.1 ++ linesW cs a 18 u.2.2.2)) A) args s 2 12 A) (F0 m 45 ls []) := by
  obtain ⟨hx, hb, hr, hml, hown, hts, hlocks, hKK⟩ := id hC
  have hK := hKK.1
  intro n
  induction n with
  | zero =>
    intro S tx hs Ls x4 hw
    exact False.elim hw
  | succ n ih =>
    intro S tx hs Ls x4 hw H locs hP hD hS ls hl
    refine lv_iload hx hb dX3_runScript_45 (lv_at hl 2 rfl) ?_
    refine lv_iload_n hx hb dX3_runScript_47 rfl (lv_at hl 1 rfl) ?_
    refine lv_icmp_ge (tgt := 77) hx hb dX3_runScript_48 (by decide) (fun c6 => ?_) (fun c6 => ?_)
    · have hw := hw.1 c6
      refine lv_iconst (v := (-1 : Int32)) hx hb dX3_runScript_77 (by decide) ?_
      refine W.widen (k := 2) (n := 12) (Nat.le_of_ble_eq_true rfl) (Nat.le_of_ble_eq_true rfl) (vx_ret ?_)
      exact W.iret (v := (-1 : Int32)) hx hb hr (fun t ht hW => ⟨⟨(-1 : Int32), (S, tx, hs, Ls), rfl, hw, by rw [ht]; exact hP, hD⟩, hS.F ht⟩) hS.2.2 dX3_runScript_78 hlocks
    · have hw := hw.2 c6
      refine lv_aload_n hx hb dX3_runScript_51 rfl (lv_at hl 0 rfl) ?_
      refine va_get (D := D) (ci := 3) (v := .ref (a 1 0)) (C := RX3) (T := TX3) (N := 7) hx hb hts (h_X3_X3_runScript) hown hK hP 0 rfl rfl 5 (by decide) (z_w hts 3 rfl) (fun _ h9 => h9) rfl dX3_runScript_52 ?_
      refine lv_aload_n hx hb dX3_runScript_55 rfl (lv_at hl 0 rfl) ?_
      refine va_get (D := D) (ci := 3) (v := .ref (x 3)) (C := RX3) (T := TX3) (N := 7) hx hb hts (h_X3_X3_runScript) hown hK hP 0 rfl rfl 6 (by decide) (z_w hts 5 rfl) (fun _ h9 => h9) rfl dX3_runScript_56 ?_
      refine lv_iload hx hb dX3_runScript_59 (lv_at hl 2 rfl) ?_
      obtain ⟨h7, hw⟩ := hw
      refine va_iald hx hb hK hP 3 0 rfl rfl h7 dX3_runScript_61 ?_
      have hPx := z_perm_P (lines_1 (cs := cs) (a := a) (n := 18) (i := 1) Ls (w_Xo cs x tq h a S ++ w_Text cs tq tx ++ w_Hist cs h a hs) (by decide)) hP
      have hDx := z_perm_D (lines_1 (cs := cs) (a := a) (n := 18) (i := 1) Ls (w_Xo cs x tq h a S ++ w_Text cs tq tx ++ w_Hist cs h a hs) (by decide)) hD
      have hPc := (z_app_P hPx).1
      have hDc := (z_app_D hDx).1
      have hFc := z_free hDx hS hA
      refine va_calli (va_runS (As := [.ref (a 1 0), .int (S.2 x4.toNatClampNeg)]) (rest := []) ⟨hx, hb, hml, hown, hts⟩ (c_X3_obeys l D cs (a 1) H.size (Ls 1) (S.2 x4.toNatClampNeg) _ hw) (va_cwS 2 hts gX3_runScript_X3_obeys rfl rfl rfl (by decide +kernel) ⟨Nat.le_of_ble_eq_true rfl, Nat.le_of_ble_eq_true rfl⟩) (PC_S hPc hDc hKK) rfl rfl hl.1 rfl (lv_room (Nat.le_of_ble_eq_true rfl)) dX3_runScript_62 ⟨Nat.le_of_ble_eq_true rfl, Nat.le_of_ble_eq_true rfl⟩) hS (fun q _ h => hFc q h) hFc (fun r8 u8 t H locs ht hvm hw hB hz1 hk1 hS => ?_)
      obtain ⟨hP1, hD1⟩ := hB
      rw [ht] at hP1
      obtain ⟨b8, hw⟩ := hw
      obtain ⟨hPx, hDx⟩ := z_join hPx hDx hk1 hFc hP1 hD1
      have hP : va_P D vwCl (w_Xo cs x tq h a S ++ w_Text cs tq tx ++ w_Hist cs h a hs ++ linesW cs a 18 (va_up Ls 1 u8)) H := z_perm_P (lines_1b (cs := cs) (a := a) (n := 18) (i := 1) Ls (w_Xo cs x tq h a S ++ w_Text cs tq tx ++ w_Hist cs h a hs) (by decide) u8) hPx
      have hD : va_D A (w_Xo cs x tq h a S ++ w_Text cs tq tx ++ w_Hist cs h a hs ++ linesW cs a 18 (va_up Ls 1 u8)) := z_perm_D (lines_1b (cs := cs) (a := a) (n := 18) (i := 1) Ls (w_Xo cs x tq h a S ++ w_Text cs tq tx ++ w_Hist cs h a hs) (by decide) u8) hDx
      refine lv_if_ne (tgt := 71) hx hb dX3_runScript_65 (by decide) (fun c9 => ?_) (fun c9 => ?_)
      · have hw := hw.2 c9
        refine lv_iinc (v := x4 + 1) (lv' := [(4, .int (x4 + 1)), (0, .ref (x 0)), (1, .int x1)]) hx hb dX3_runScript_71 hl (k := 2) rfl rfl (by decide) rfl (fun ls hl => ?_)
        refine lv_goto (tgt := 45) hx hb dX3_runScript_74 (by decide) ?_
        exact ih _ _ _ _ _ hw _ _ hP hD hS ls (lv_sub hl [1, 2, 0] rfl)
      · have hw := hw.1 c9
        refine lv_iload hx hb dX3_runScript_68 (lv_at hl 2 rfl) ?_
        refine W.widen (k := 2) (n := 12) (Nat.le_of_ble_eq_true rfl) (Nat.le_of_ble_eq_true rfl) (vx_ret ?_)
        exact W.iret (v := x4) hx hb hr (fun t ht hW => ⟨⟨x4, (S, tx, hs, va_up Ls 1 u8), rfl, hw, by rw [ht]; exact hP, hD⟩, hS.F ht⟩) hS.2.2 dX3_runScript_70 hlocks
set_option maxHeartbeats 4000000 in
set_option maxRecDepth 100000 in
theorem t_X3_runScript {p : Program} {l : Launch} {e : Env} {s : State} {m : MethodId} {args : Array Value} {below : List Frame} {meth : Method} {c : Code} {D : va_G} {cs : Nat → ClassId} {A : Nat → Prop} (hC : MAt p s m args meth c RX3 cX3_runScript 5 (some .int) wsX3_runScript D cs) (hfl : l.stackTraces = false) (hT0 : ∀ x ∈ c.exceptionTable.toList, False) {sa : Nat → Nat} (hTW : TW sa s) (hTZ : TZ A s s.heap) (x : Nat → Nat) (tq : Nat → Nat) (h : Nat → Nat) (a : Nat → Nat → Nat) (S : XO) (tx : TS) (hs : HS) (Ls : (Nat → LnS)) (x1 : Int32) (x2 : Int64) (Q : Int32 → XO → TS → HS → (Nat → LnS) → Prop) (QX : String → XO → TS → HS → (Nat → LnS) → Prop) (hA : ∀ q : Nat, s.heap.size ≤ q → A q) (hw : wp_X3_runScript S tx hs Ls x1 x2 Q QX) (H : Heap) (locs : List Loc) (hP : va_P D vwCl (w_Xo cs x tq h a S ++ w_Text cs tq tx ++ w_Hist cs h a hs ++ linesW cs a 18 Ls) H) (hD : va_D A (w_Xo cs x tq h a S ++ w_Text cs tq tx ++ w_Hist cs h a hs ++ linesW cs a 18 Ls)) (hS : va_S A s.heap H locs) (ls : Array Slot) (hl : lv_has ls 5 [(0, .ref (x 0)), (1, .int x1), (2, .long x2)]) : W p l e ({ frames := 7, cells := 2, slots := 12, locals := 160 } : Room) s m args below meth c H locs 0 0 (vx_MQ below (va_Qi (fun r (u : XO × TS × HS × (Nat → LnS)) => Q r u.1 u.2.1 u.2.2.1 u.2.2.2) (fun (u : XO × TS × HS × (Nat → LnS)) t => va_P D vwCl (w_Xo cs x tq h a u.1 ++ w_Text cs tq u.2.1 ++ w_Hist cs h a u.2.2.1 ++ linesW cs a 18 u.2.2.2) t.heap ∧ va_D A (w_Xo cs x tq h a u.1 ++ w_Text cs tq u.2.1 ++ w_Hist cs h a u.2.2.1 ++ linesW cs a 18 u.2.2.2)) A) (vx_X (fun (_ : XO × TS × HS × (Nat → LnS)) => True) (fun E (u : XO × TS × HS × (Nat → LnS)) t => QX E u.1 u.2.1 u.2.2.1 u.2.2.2 ∧ va_P D vwCl (w_Xo cs x tq h a u.1 ++ w_Text cs tq u.2.1 ++ w_Hist cs h a u.2.2.1 ++ linesW cs a 18 u.2.2.2) t.heap ∧ va_D A (w_Xo cs x tq h a u.1 ++ w_Text cs tq u.2.1 ++ w_Hist cs h a u.2.2.1 ++ linesW cs a 18 u.2.2.2)) A) args s 2 12 A) (F0 m 0 ls []) := by
  obtain ⟨hx, hb, hr, hml, hown, hts, hlocks, hKK⟩ := id hC
  have hK := hKK.1
  refine lv_iload_n hx hb dX3_runScript_0 rfl (lv_at hl 1 rfl) ?_
  refine lv_iconst (v := (1 : Int32)) hx hb dX3_runScript_1 (by decide) ?_
  refine lv_iconst (v := (3 : Int32)) hx hb dX3_runScript_2 (by decide) ?_
  have hPc : va_P D vwCl ([] : va_W) H := z_nilP
  have hDc : va_D A ([] : va_W) := z_nilD
  have hFc := z_free (wc := []) hD hS hA
  refine vx_callv (vx_runS (As := [.int x1, .int (1 : Int32), .int (3 : Int32)]) (rest := []) ⟨hx, hb, hml, hown, hts⟩ (c_X3_requireRange l hfl D cs  H.size sa x1 (1 : Int32) (3 : Int32) _ _ hw) (va_cwS 3 hts gX3_runScript_X3_requireRange rfl rfl rfl (by decide +kernel) ⟨Nat.le_of_ble_eq_true rfl, Nat.le_of_ble_eq_true rfl⟩) (PX_S hPc hDc hKK hTW hTZ hS hFc) rfl rfl hl.1 rfl (lv_room (Nat.le_of_ble_eq_true rfl)) dX3_runScript_3 ⟨Nat.le_of_ble_eq_true rfl, Nat.le_of_ble_eq_true rfl⟩) hS (fun q _ h => hFc q h) hFc (fun q _ h => hFc q h) ?_ (fun u1 t H locs ht hvm hw hB hz1 hk1 hS => ?_)
  · intro E ce q9 u1 t H locs ht hvm hpx hB hz1 hk1 hS hq9 hce hcl
    obtain ⟨hw, hP1, hD1⟩ := hB
    rw [ht] at hP1
    obtain ⟨hP, hD⟩ := z_join (wc := []) hP hD hk1 hFc hP1 hD1
    have hP : va_P D vwCl (w_Xo cs x tq h a S ++ w_Text cs tq tx ++ w_Hist cs h a hs ++ linesW cs a 18 Ls) H := hP
    have hD : va_D A (w_Xo cs x tq h a S ++ w_Text cs tq tx ++ w_Hist cs h a hs ++ linesW cs a 18 Ls) := hD
    exact vx_out (fun x h => (hT0 x h).elim) hlocks hq9 hce hcl (fun t2 ht2 hvm2 => ⟨(S, tx, hs, Ls), trivial, ⟨hw, by rw [ht2]; exact hP, hD⟩, hS.F ht2⟩) hS.2.2 (Nat.le_of_ble_eq_true rfl) (Nat.le_of_ble_eq_true rfl)
  obtain ⟨hP1, hD1⟩ := hB
  rw [ht] at hP1
  obtain ⟨hP, hD⟩ := z_join (wc := []) hP hD hk1 hFc hP1 hD1
  have hP : va_P D vwCl (w_Xo cs x tq h a S ++ w_Text cs tq tx ++ w_Hist cs h a hs ++ linesW cs a 18 Ls) H := hP
  have hD : va_D A (w_Xo cs x tq h a S ++ w_Text cs tq tx ++ w_Hist cs h a hs ++ linesW cs a 18 Ls) := hD
  refine lv_lload_n hx hb dX3_runScript_6 rfl (lv_at hl 2 rfl) ?_
  refine lv_lconst (v := (0 : Int64)) hx hb dX3_runScript_7 (by decide) ?_
  refine W.lcmp hx hb dX3_runScript_8 ?_
  refine lv_if_lt (tgt := 21) hx hb dX3_runScript_9 (by decide) (fun c2 => ?_) (fun c2 => ?_)
  · have hw := hw.1 c2
    exact vx_throwS hx hb hfl hown (by decide +kernel) (by decide +kernel) (z_w hts 1 rfl) (z_w hts 2 rfl) (show vk_R RX3 237 "not a script of so many commands" (sa 8) s from hTW.1 8 (by decide)) (vx_hat (fun w h => hts w (List.mem_cons_of_mem _ (List.mem_append_right _ h))) zb_eIAE (vx_c (va_Nw.use rfl hTW.2.2.1) (vx_c (va_Nw.use rfl hTW.2.2.2.2.2.2.2.2.2.2.1) (vx_c (va_Nw.use rfl hTW.2.2.2.2.2.2.2.2.2.2.2.1) (vx_c (va_Nw.use rfl hTW.2.2.2.2.2.2.2.2.2.2.2.2) vx_n))))) zh_eIAE hTZ.1 hTZ.2 hS (hl.1.trans hml.symm) dX3_runScript_21 dX3_runScript_24 dX3_runScript_25 dX3_runScript_27 dX3_runScript_30 (fun x h => (hT0 x h).elim) (Nat.le_of_ble_eq_true rfl) (Nat.le_of_ble_eq_true rfl) (Nat.le_of_ble_eq_true rfl) (Nat.le_of_ble_eq_true rfl) hlocks (fun t ha hz hk => ⟨(S, tx, hs, Ls), trivial, ⟨hw, hP.kept (fun k q hq => hk q.1 (hP k q hq).lt), hD⟩, ⟨Nat.le_trans hS.1 hz, fun q h1 h2 => (hk q (Nat.lt_of_lt_of_le h1 hS.1)).trans (hS.2.1 q h1 h2)⟩⟩) hS.2.2 (Nat.le_of_ble_eq_true rfl) (Nat.le_of_ble_eq_true rfl)
  · have hw := hw.2 c2
    refine lv_aload_n hx hb dX3_runScript_12 rfl (lv_at hl 0 rfl) ?_
    refine lv_iload_n hx hb dX3_runScript_13 rfl (lv_at hl 1 rfl) ?_
    refine lv_lload_n hx hb dX3_runScript_14 rfl (lv_at hl 2 rfl) ?_
    have hFc := z_free (wr := []) (by rw [List.append_nil]; exact hD) hS hA
    refine va_calli (va_runV (As := [.int x1, .long x2]) (rest := []) ⟨hx, hb, hml, hown, hts⟩ (c_X3_splitScript l D cs x tq h a H.size S tx hs Ls x1 x2 _ hw) (cwV 2 hts gX3_runScript_X3_splitScript rfl rfl rfl (by decide +kernel) ⟨Nat.le_of_ble_eq_true rfl, Nat.le_of_ble_eq_true rfl⟩) (PC_V hP hD hKK 0 3 rfl rfl) rfl rfl hl.1 rfl (lv_room (Nat.le_of_ble_eq_true rfl)) dX3_runScript_15 ⟨Nat.le_of_ble_eq_true rfl, Nat.le_of_ble_eq_true rfl⟩) hS (fun q _ h => hFc q h) hFc (fun r3 u3 t H locs ht hvm hw hB hz1 hk1 hS => ?_)
    obtain ⟨u3_0, u3_1, u3_2, u3_3⟩ := u3
    obtain ⟨hP1, hD1⟩ := hB
    rw [ht] at hP1
    obtain ⟨b3, hw⟩ := hw
    have hD : va_D A (w_Xo cs x tq h a u3_0 ++ w_Text cs tq u3_1 ++ w_Hist cs h a u3_2 ++ linesW cs a 18 u3_3) := hD1.weaken (fun k q _ h => hFc q.1 h)
    have hP : va_P D vwCl (w_Xo cs x tq h a u3_0 ++ w_Text cs tq u3_1 ++ w_Hist cs h a u3_2 ++ linesW cs a 18 u3_3) H := hP1
    refine lv_if_ne (tgt := 31) hx hb dX3_runScript_18 (by decide) (fun c4 => ?_) (fun c4 => ?_)
    · have hw := hw.2 c4
      refine lv_aload_n hx hb dX3_runScript_31 rfl (lv_at hl 0 rfl) ?_
      refine va_get (D := D) (ci := 3) (v := .ref (a 1 0)) (C := RX3) (T := TX3) (N := 7) hx hb hts (h_X3_X3_runScript) hown hK hP 0 rfl rfl 5 (by decide) (z_w hts 3 rfl) (fun _ h9 => h9) rfl dX3_runScript_32 ?_
      refine lv_aload_n hx hb dX3_runScript_35 rfl (lv_at hl 0 rfl) ?_
      refine va_get (D := D) (ci := 3) (v := .ref (a 0 0)) (C := RX3) (T := TX3) (N := 7) hx hb hts (h_X3_X3_runScript) hown hK hP 0 rfl rfl 1 (by decide) (z_w hts 4 rfl) (fun _ h9 => h9) rfl dX3_runScript_36 ?_
      have hPx := z_perm_P (lines_2 (cs := cs) (a := a) (n := 18) (i := 1) (j := 0) u3_3 (w_Xo cs x tq h a u3_0 ++ w_Text cs tq u3_1 ++ w_Hist cs h a u3_2) (by decide) (by decide) (by omega)) hP
      have hDx := z_perm_D (lines_2 (cs := cs) (a := a) (n := 18) (i := 1) (j := 0) u3_3 (w_Xo cs x tq h a u3_0 ++ w_Text cs tq u3_1 ++ w_Hist cs h a u3_2) (by decide) (by decide) (by omega)) hD
      have hPc := (z_app_P hPx).1
      have hDc := (z_app_D hDx).1
      have hFc := z_free hDx hS hA
      refine va_callv (va_runV (As := [.ref (a 0 0)]) (rest := []) ⟨hx, hb, hml, hown, hts⟩ (c_X1_copyFrom l D cs (a 1) (a 0) H.size (u3_3 1) (u3_3 0) _ hw) (cwV 1 hts gX3_runScript_X1_copyFrom rfl rfl rfl (by decide +kernel) ⟨Nat.le_of_ble_eq_true rfl, Nat.le_of_ble_eq_true rfl⟩) (PC_V hPc hDc hKK 0 1 rfl rfl) rfl rfl hl.1 rfl (lv_room (Nat.le_of_ble_eq_true rfl)) dX3_runScript_39 ⟨Nat.le_of_ble_eq_true rfl, Nat.le_of_ble_eq_true rfl⟩) hS (fun q _ h => hFc q h) hFc (fun u5 t H locs ht hvm hw hB hz1 hk1 hS => ?_)
      obtain ⟨hP1, hD1⟩ := hB
      rw [ht] at hP1
      obtain ⟨hPx, hDx⟩ := z_join hPx hDx hk1 hFc hP1 hD1
      have hP : va_P D vwCl (w_Xo cs x tq h a u3_0 ++ w_Text cs tq u3_1 ++ w_Hist cs h a u3_2 ++ linesW cs a 18 (va_up u3_3 1 u5)) H := z_perm_P (lines_2b (cs := cs) (a := a) (n := 18) (i := 1) (j := 0) u3_3 (w_Xo cs x tq h a u3_0 ++ w_Text cs tq u3_1 ++ w_Hist cs h a u3_2) (by decide) (by decide) (by omega) u5) hPx
      have hD : va_D A (w_Xo cs x tq h a u3_0 ++ w_Text cs tq u3_1 ++ w_Hist cs h a u3_2 ++ linesW cs a 18 (va_up u3_3 1 u5)) := z_perm_D (lines_2b (cs := cs) (a := a) (n := 18) (i := 1) (j := 0) u3_3 (w_Xo cs x tq h a u3_0 ++ w_Text cs tq u3_1 ++ w_Hist cs h a u3_2) (by decide) (by decide) (by omega) u5) hDx
      refine lv_iconst (v := (0 : Int32)) hx hb dX3_runScript_42 (by decide) ?_
      refine lv_istore (lv' := [(4, .int (0 : Int32)), (0, .ref (x 0)), (1, .int x1), (2, .long x2)]) hx hb dX3_runScript_43 hl (by decide) rfl (fun ls hl => ?_)
      obtain ⟨n10, hw⟩ := hw
      exact t_X3_runScript_45 hC hfl hT0 hTW hTZ x tq h a _ _ _ hA n10 _ _ _ _ _ hw H locs hP hD hS ls (lv_sub hl [1, 2, 0] rfl)
    · have hw := hw.1 c4
      exact vx_throwS hx hb hfl hown (by decide +kernel) (by decide +kernel) (z_w hts 1 rfl) (z_w hts 2 rfl) (show vk_R RX3 237 "not a script of so many commands" (sa 8) s from hTW.1 8 (by decide)) (vx_hat (fun w h => hts w (List.mem_cons_of_mem _ (List.mem_append_right _ h))) zb_eIAE (vx_c (va_Nw.use rfl hTW.2.2.1) (vx_c (va_Nw.use rfl hTW.2.2.2.2.2.2.2.2.2.2.1) (vx_c (va_Nw.use rfl hTW.2.2.2.2.2.2.2.2.2.2.2.1) (vx_c (va_Nw.use rfl hTW.2.2.2.2.2.2.2.2.2.2.2.2) vx_n))))) zh_eIAE hTZ.1 hTZ.2 hS (hl.1.trans hml.symm) dX3_runScript_21 dX3_runScript_24 dX3_runScript_25 dX3_runScript_27 dX3_runScript_30 (fun x h => (hT0 x h).elim) (Nat.le_of_ble_eq_true rfl) (Nat.le_of_ble_eq_true rfl) (Nat.le_of_ble_eq_true rfl) (Nat.le_of_ble_eq_true rfl) hlocks (fun t ha hz hk => ⟨(u3_0, u3_1, u3_2, u3_3), trivial, ⟨hw, hP.kept (fun k q hq => hk q.1 (hP k q hq).lt), hD⟩, ⟨Nat.le_trans hS.1 hz, fun q h1 h2 => (hk q (Nat.lt_of_lt_of_le h1 hS.1)).trans (hS.2.1 q h1 h2)⟩⟩) hS.2.2 (Nat.le_of_ble_eq_true rfl) (Nat.le_of_ble_eq_true rfl)
set_option maxHeartbeats 4000000 in
set_option maxRecDepth 100000 in
theorem c_X3_runScript (l : Launch) (hfl : l.stackTraces = false) (D : va_G) (cs : Nat → ClassId) (x : Nat → Nat) (tq : Nat → Nat) (h : Nat → Nat) (a : Nat → Nat → Nat) (sz : Nat) (sa : Nat → Nat) (S : XO) (tx : TS) (hs : HS) (Ls : (Nat → LnS)) (x1 : Int32) (x2 : Int64) (Q : Int32 → XO → TS → HS → (Nat → LnS) → Prop) (QX : String → XO → TS → HS → (Nat → LnS) → Prop) (hw : wp_X3_runScript S tx hs Ls x1 x2 Q QX) : vx_Met l yX3_runScript wsX3_runScript ({ frames := 7, cells := 2, slots := 12, locals := 160 } : Room) (va_Pc [.ref (x 0), .int x1, .long x2] (PX D cs (w_Xo cs x tq h a S ++ w_Text cs tq tx ++ w_Hist cs h a hs ++ linesW cs a 18 Ls) sa sz)) (va_Qi (fun r (u : XO × TS × HS × (Nat → LnS)) => Q r u.1 u.2.1 u.2.2.1 u.2.2.2) (fun (u : XO × TS × HS × (Nat → LnS)) t => va_P D vwCl (w_Xo cs x tq h a u.1 ++ w_Text cs tq u.2.1 ++ w_Hist cs h a u.2.2.1 ++ linesW cs a 18 u.2.2.2) t.heap ∧ va_D (va_A (w_Xo cs x tq h a S ++ w_Text cs tq tx ++ w_Hist cs h a hs ++ linesW cs a 18 Ls) sz) (w_Xo cs x tq h a u.1 ++ w_Text cs tq u.2.1 ++ w_Hist cs h a u.2.2.1 ++ linesW cs a 18 u.2.2.2)) (va_A (w_Xo cs x tq h a S ++ w_Text cs tq tx ++ w_Hist cs h a hs ++ linesW cs a 18 Ls) sz)) (vx_X (fun (_ : XO × TS × HS × (Nat → LnS)) => True) (fun E (u : XO × TS × HS × (Nat → LnS)) t => QX E u.1 u.2.1 u.2.2.1 u.2.2.2 ∧ va_P D vwCl (w_Xo cs x tq h a u.1 ++ w_Text cs tq u.2.1 ++ w_Hist cs h a u.2.2.1 ++ linesW cs a 18 u.2.2.2) t.heap ∧ va_D (va_A (w_Xo cs x tq h a S ++ w_Text cs tq tx ++ w_Hist cs h a hs ++ linesW cs a 18 Ls) sz) (w_Xo cs x tq h a u.1 ++ w_Text cs tq u.2.1 ++ w_Hist cs h a u.2.2.1 ++ linesW cs a 18 u.2.2.2)) (va_A (w_Xo cs x tq h a S ++ w_Text cs tq tx ++ w_Hist cs h a hs ++ linesW cs a 18 Ls) sz)) 2 12 (va_A (w_Xo cs x tq h a S ++ w_Text cs tq tx ++ w_Hist cs h a hs ++ linesW cs a 18 Ls) sz) := by
  refine vx_ofW (cc := cX3_runScript) (maxL := 5) (ret := (some .int)) (by decide) rfl ?_
  intro p e s m args below meth c s₁ B hml hT0 hv
  obtain ⟨rfl, ⟨hsz, hP, hKK, hD0⟩, hTW, hTZ⟩ := hv
  have hC : MAt p s m _ meth c RX3 cX3_runScript 5 (some .int) wsX3_runScript D cs := ⟨B.exec, B.bytes, B.returns, hml, findClass_of_methodNamed B.named, atoms_spec (ws := wsX3_runScript) B.pre, B.notSynchronized, hKK⟩
  have hl := lv_entry ([.ref (x 0), .int x1, .long x2]) (n := 5) (Nat.le_of_ble_eq_true rfl)
  rw [lg_entry_eq]
  generalize (lg_sl ([.ref (x 0), .int x1, .long x2]) ++ List.replicate (5 - (lg_sl ([.ref (x 0), .int x1, .long x2])).length) Slot.unset).toArray = ls at hl ⊢
  subst hsz
  have hD := hD0.self (sz := s.heap.size)
  have hA : ∀ z : Nat, s.heap.size ≤ z → va_A (w_Xo cs x tq h a S ++ w_Text cs tq tx ++ w_Hist cs h a hs ++ linesW cs a 18 Ls) s.heap.size z := fun z h => Or.inr h
  exact t_X3_runScript hC hfl hT0 hTW hTZ x tq h a S tx hs Ls x1 x2 Q QX hA hw s.heap [] hP hD va_S.rf ls hl
theorem h_X3_X3_simulate : ∀ w ∈ u_ws RX3 TX3 7, w ∈ wsX3_simulate := fun _ h => List.mem_cons_of_mem _ (List.mem_append_left _ (List.mem_append_left _ (List.mem_append_right _ h)))
set_option maxHeartbeats 4000000 in
set_option maxRecDepth 100000 in
theorem t_X3_simulate_33 {p : Program} {l : Launch} {e : Env} {s : State} {m : MethodId} {args : Array Value} {below : List Frame} {meth : Method} {c : Code} {D : va_G} {cs : Nat → ClassId} {A : Nat → Prop} (hC : MAt p s m args meth c RX3 cX3_simulate 8 (some .int) wsX3_simulate D cs) (hfl : l.stackTraces = false) (hT0 : ∀ x ∈ c.exceptionTable.toList, False) {sa : Nat → Nat} (hTW : TW sa s) (hTZ : TZ A s s.heap) (x : Nat → Nat) (tq : Nat → Nat) (h : Nat → Nat) (a : Nat → Nat → Nat) (x3 : Int32) (x4 : Int32) (Q : Int32 → XO → TS → HS → (Nat → LnS) → Prop) (QX : String → XO → TS → HS → (Nat → LnS) → Prop) (hA : ∀ q : Nat, s.heap.size ≤ q → A q) : ∀ (n : Nat) (S : XO) (tx : TS) (hs : HS) (Ls : (Nat → LnS)) (x5 : Int64) (x7 : Int32), wl_X3_simulate_33 x3 x4 Q QX n S tx hs Ls x5 x7 → ∀ (H : Heap) (locs : List Loc), va_P D vwCl (w_Xo cs x tq h a S ++ w_Text cs tq tx ++ w_Hist cs h a hs ++ linesW cs a 18 Ls) H → va_D A (w_Xo cs x tq h a S ++ w_Text cs tq tx ++ w_Hist cs h a hs ++ linesW cs a 18 Ls) → va_S A s.heap H locs → ∀ ls : Array Slot, lv_has ls 8 [(0, .ref (x 0)), (3, .int x3), (4, .int x4), (5, .long x5), (7, .int x7)] → W p l e ({ frames := 7, cells := 1, slots := 6, locals := 115 } : Room) s m args below meth c H locs 1 6 (vx_MQ below (va_Qi (fun r (u : XO × TS × HS × (Nat → LnS)) => Q r u.1 u.2.1 u.2.2.1 u.2.2.2) (fun (u : XO × TS × HS × (Nat → LnS)) t => va_P D vwCl (w_Xo cs x tq h a u.1 ++ w_Text cs tq u.2.1 ++ w_Hist cs h a u.2.2.1 ++ linesW cs a 18 u.2.2.2) t.heap ∧ va_D A (w_Xo cs x tq h a u.1 ++ w_Text cs tq u.2.1 ++ w_Hist cs h a u.2.2.1 ++ linesW cs a 18 u.2.2.2)) A) (vx_X (fun (_ : XO × TS × HS × (Nat → LnS)) => True) (fun E (u : XO × TS × HS × (Nat → LnS)) t => QX E u.1 u.2.1 u.2.2.1 u.2.2.2 ∧ va_P D vwCl (w_Xo cs x tq h a u.1 ++ w_Text cs tq u.2.1 ++ w_Hist cs h a u.2.2.1 ++ linesW cs a 18 u.2.2.2) t.heap ∧ va_D A (w_Xo cs x tq h a u.1 ++ w_Text cs tq u.2.1 ++ w_Hist cs h a u.2.2.1 ++ linesW cs a 18 u.2.2.2)) A) args s 1 6 A) (F0 m 33 ls []) := by
  obtain ⟨hx, hb, hr, hml, hown, hts, hlocks, hKK⟩ := id hC
  have hK := hKK.1
  intro n
  induction n with
  | zero =>
    intro S tx hs Ls x5 x7 hw
    exact False.elim hw
  | succ n ih =>
    intro S tx hs Ls x5 x7 hw H locs hP hD hS ls hl
    refine lv_iload hx hb dX3_simulate_33 (lv_at hl 4 rfl) ?_
    refine lv_iload_n hx hb dX3_simulate_35 rfl (lv_at hl 1 rfl) ?_
    refine lv_icmp_ge (tgt := 78) hx hb dX3_simulate_36 (by decide) (fun c4 => ?_) (fun c4 => ?_)
    · have hw := hw.1 c4
      refine lv_sipush (v := (1000 : Int32)) hx hb dX3_simulate_78 (by decide) ?_
      refine lv_aload_n hx hb dX3_simulate_81 rfl (lv_at hl 0 rfl) ?_
      refine va_get (D := D) (ci := 3) (v := .ref (a 1 0)) (C := RX3) (T := TX3) (N := 7) hx hb hts (h_X3_X3_simulate) hown hK hP 0 rfl rfl 5 (by decide) (z_w hts 1 rfl) (fun _ h9 => h9) rfl dX3_simulate_82 ?_
      have hPx := z_perm_P (lines_1 (cs := cs) (a := a) (n := 18) (i := 1) Ls (w_Xo cs x tq h a S ++ w_Text cs tq tx ++ w_Hist cs h a hs) (by decide)) hP
      have hDx := z_perm_D (lines_1 (cs := cs) (a := a) (n := 18) (i := 1) Ls (w_Xo cs x tq h a S ++ w_Text cs tq tx ++ w_Hist cs h a hs) (by decide)) hD
      have hPc := (z_app_P hPx).1
      have hDc := (z_app_D hDx).1
      refine z_calli (va_runV (As := []) (rest := [.int (1000 : Int32)]) ⟨hx, hb, hml, hown, hts⟩ (c_X1_pairs l D cs (a 1) H.size (Ls 1) _ hw) (cwV 0 hts gX3_simulate_X1_pairs rfl rfl rfl (by decide +kernel) ⟨Nat.le_of_ble_eq_true rfl, Nat.le_of_ble_eq_true rfl⟩) (PC_V hPc hDc hKK 0 1 rfl rfl) rfl rfl hl.1 rfl (lv_room (Nat.le_of_ble_eq_true rfl)) dX3_simulate_85 ⟨Nat.le_of_ble_eq_true rfl, Nat.le_of_ble_eq_true rfl⟩) (fun r5 hw => ?_)
      refine lv_iload hx hb dX3_simulate_88 (lv_at hl 2 rfl) ?_
      refine lv_isub hx hb dX3_simulate_90 ?_
      refine lv_imul hx hb dX3_simulate_91 ?_
      refine lv_aload_n hx hb dX3_simulate_92 rfl (lv_at hl 0 rfl) ?_
      refine va_get (D := D) (ci := 3) (v := .ref (a 1 0)) (C := RX3) (T := TX3) (N := 7) hx hb hts (h_X3_X3_simulate) hown hK hP 0 rfl rfl 5 (by decide) (z_w hts 1 rfl) (fun _ h9 => h9) rfl dX3_simulate_93 ?_
      have hPx := z_perm_P (lines_1 (cs := cs) (a := a) (n := 18) (i := 1) Ls (w_Xo cs x tq h a S ++ w_Text cs tq tx ++ w_Hist cs h a hs) (by decide)) hP
      have hDx := z_perm_D (lines_1 (cs := cs) (a := a) (n := 18) (i := 1) Ls (w_Xo cs x tq h a S ++ w_Text cs tq tx ++ w_Hist cs h a hs) (by decide)) hD
      have hPc := (z_app_P hPx).1
      have hDc := (z_app_D hDx).1
      refine z_calli (va_runV (As := []) (rest := [.int ((1000 : Int32) * (r5 - x4))]) ⟨hx, hb, hml, hown, hts⟩ (c_X1_waitingInAll l D cs (a 1) H.size (Ls 1) _ hw) (cwV 0 hts gX3_simulate_X1_waitingInAll rfl rfl rfl (by decide +kernel) ⟨Nat.le_of_ble_eq_true rfl, Nat.le_of_ble_eq_true rfl⟩) (PC_V hPc hDc hKK 0 1 rfl rfl) rfl rfl hl.1 rfl (lv_room (Nat.le_of_ble_eq_true rfl)) dX3_simulate_96 ⟨Nat.le_of_ble_eq_true rfl, Nat.le_of_ble_eq_true rfl⟩) (fun r6 hw => ?_)
      refine lv_iadd hx hb dX3_simulate_99 ?_
      refine W.widen (k := 1) (n := 6) (Nat.le_of_ble_eq_true rfl) (Nat.le_of_ble_eq_true rfl) (vx_ret ?_)
      exact W.iret (v := ((1000 : Int32) * (r5 - x4)) + r6) hx hb hr (fun t ht hW => ⟨⟨((1000 : Int32) * (r5 - x4)) + r6, (S, tx, hs, Ls), rfl, hw, by rw [ht]; exact hP, hD⟩, hS.F ht⟩) hS.2.2 dX3_simulate_100 hlocks
    · have hw := hw.2 c4
      refine lv_lload hx hb dX3_simulate_39 (lv_at hl 3 rfl) ?_
      refine lv_ldc2 (v := (6364136223846793005 : Int64)) hx hb hown (z_w hts 3 (w := .constantLong RX3 243 (6364136223846793005)) rfl) dX3_simulate_41 ?_
      refine lv_lmul hx hb dX3_simulate_44 ?_
      refine lv_ldc2 (v := (1442695040888963407 : Int64)) hx hb hown (z_w hts 4 (w := .constantLong RX3 245 (1442695040888963407)) rfl) dX3_simulate_45 ?_
      refine lv_ladd hx hb dX3_simulate_48 ?_
      refine lv_topl (fun y7 ey7 => ?_)
      have hw := hw y7 ey7
      refine lv_lstore (lv' := [(5, .long y7), (0, .ref (x 0)), (3, .int x3), (4, .int x4), (7, .int x7)]) hx hb dX3_simulate_49 hl (by decide) rfl (fun ls hl => ?_)
      refine lv_aload_n hx hb dX3_simulate_51 rfl (lv_at hl 1 rfl) ?_
      refine va_get (D := D) (ci := 3) (v := .ref (a 1 0)) (C := RX3) (T := TX3) (N := 7) hx hb hts (h_X3_X3_simulate) hown hK hP 0 rfl rfl 5 (by decide) (z_w hts 1 rfl) (fun _ h9 => h9) rfl dX3_simulate_52 ?_
      refine lv_lload hx hb dX3_simulate_55 (lv_at hl 0 rfl) ?_
      refine lv_bipush (v := (33 : Int32)) hx hb dX3_simulate_57 (by decide) ?_
      refine lv_lushr (v := (y7.toUInt64 >>> ((33 : Int32).toInt64.toUInt64 &&& Int64.toUInt64 63)).toInt64) hx hb dX3_simulate_59 rfl ?_
      refine lv_l2i (v := ((y7.toUInt64 >>> ((33 : Int32).toInt64.toUInt64 &&& Int64.toUInt64 63)).toInt64).toInt32) hx hb dX3_simulate_60 rfl ?_
      have hPx := z_perm_P (lines_1 (cs := cs) (a := a) (n := 18) (i := 1) Ls (w_Xo cs x tq h a S ++ w_Text cs tq tx ++ w_Hist cs h a hs) (by decide)) hP
      have hDx := z_perm_D (lines_1 (cs := cs) (a := a) (n := 18) (i := 1) Ls (w_Xo cs x tq h a S ++ w_Text cs tq tx ++ w_Hist cs h a hs) (by decide)) hD
      have hPc := (z_app_P hPx).1
      have hDc := (z_app_D hDx).1
      have hFc := z_free hDx hS hA
      refine va_callv (va_runS (As := [.ref (a 1 0), .int (((y7.toUInt64 >>> ((33 : Int32).toInt64.toUInt64 &&& Int64.toUInt64 63)).toInt64).toInt32)]) (rest := []) ⟨hx, hb, hml, hown, hts⟩ (c_X3_takeTurn l D cs (a 1) H.size (Ls 1) (((y7.toUInt64 >>> ((33 : Int32).toInt64.toUInt64 &&& Int64.toUInt64 63)).toInt64).toInt32) _ hw) (va_cwS 2 hts gX3_simulate_X3_takeTurn rfl rfl rfl (by decide +kernel) ⟨Nat.le_of_ble_eq_true rfl, Nat.le_of_ble_eq_true rfl⟩) (PC_S hPc hDc hKK) rfl rfl hl.1 rfl (lv_room (Nat.le_of_ble_eq_true rfl)) dX3_simulate_61 ⟨Nat.le_of_ble_eq_true rfl, Nat.le_of_ble_eq_true rfl⟩) hS (fun q _ h => hFc q h) hFc (fun u8 t H locs ht hvm hw hB hz1 hk1 hS => ?_)
      obtain ⟨hP1, hD1⟩ := hB
      rw [ht] at hP1
      obtain ⟨hPx, hDx⟩ := z_join hPx hDx hk1 hFc hP1 hD1
      have hP : va_P D vwCl (w_Xo cs x tq h a S ++ w_Text cs tq tx ++ w_Hist cs h a hs ++ linesW cs a 18 (va_up Ls 1 u8)) H := z_perm_P (lines_1b (cs := cs) (a := a) (n := 18) (i := 1) Ls (w_Xo cs x tq h a S ++ w_Text cs tq tx ++ w_Hist cs h a hs) (by decide) u8) hPx
      have hD : va_D A (w_Xo cs x tq h a S ++ w_Text cs tq tx ++ w_Hist cs h a hs ++ linesW cs a 18 (va_up Ls 1 u8)) := z_perm_D (lines_1b (cs := cs) (a := a) (n := 18) (i := 1) Ls (w_Xo cs x tq h a S ++ w_Text cs tq tx ++ w_Hist cs h a hs) (by decide) u8) hDx
      refine lv_aload_n hx hb dX3_simulate_64 rfl (lv_at hl 1 rfl) ?_
      refine va_get (D := D) (ci := 3) (v := .ref (a 1 0)) (C := RX3) (T := TX3) (N := 7) hx hb hts (h_X3_X3_simulate) hown hK hP 0 rfl rfl 5 (by decide) (z_w hts 1 rfl) (fun _ h9 => h9) rfl dX3_simulate_65 ?_
      refine lv_iconst (v := (1 : Int32)) hx hb dX3_simulate_68 (by decide) ?_
      have hPx := z_perm_P (lines_1 (cs := cs) (a := a) (n := 18) (i := 1) (va_up Ls 1 u8) (w_Xo cs x tq h a S ++ w_Text cs tq tx ++ w_Hist cs h a hs) (by decide)) hP
      have hDx := z_perm_D (lines_1 (cs := cs) (a := a) (n := 18) (i := 1) (va_up Ls 1 u8) (w_Xo cs x tq h a S ++ w_Text cs tq tx ++ w_Hist cs h a hs) (by decide)) hD
      have hPc := (z_app_P hPx).1
      have hDc := (z_app_D hDx).1
      have hFc := z_free hDx hS hA
      refine va_callv (va_runV (As := [.int (1 : Int32)]) (rest := []) ⟨hx, hb, hml, hown, hts⟩ (c_X1_passBeats l D cs (a 1) H.size u8 (1 : Int32) _ hw) (cwV 1 hts gX3_simulate_X1_passBeats rfl rfl rfl (by decide +kernel) ⟨Nat.le_of_ble_eq_true rfl, Nat.le_of_ble_eq_true rfl⟩) (PC_V hPc hDc hKK 0 1 rfl rfl) rfl rfl hl.1 rfl (lv_room (Nat.le_of_ble_eq_true rfl)) dX3_simulate_69 ⟨Nat.le_of_ble_eq_true rfl, Nat.le_of_ble_eq_true rfl⟩) hS (fun q _ h => hFc q h) hFc (fun u9 t H locs ht hvm hw hB hz1 hk1 hS => ?_)
      obtain ⟨hP1, hD1⟩ := hB
      rw [ht] at hP1
      obtain ⟨hPx, hDx⟩ := z_join hPx hDx hk1 hFc hP1 hD1
      have hP : va_P D vwCl (w_Xo cs x tq h a S ++ w_Text cs tq tx ++ w_Hist cs h a hs ++ linesW cs a 18 (va_up Ls 1 u9)) H := z_perm_P (lines_1b (cs := cs) (a := a) (n := 18) (i := 1) (va_up Ls 1 u8) (w_Xo cs x tq h a S ++ w_Text cs tq tx ++ w_Hist cs h a hs) (by decide) u9) hPx
      have hD : va_D A (w_Xo cs x tq h a S ++ w_Text cs tq tx ++ w_Hist cs h a hs ++ linesW cs a 18 (va_up Ls 1 u9)) := z_perm_D (lines_1b (cs := cs) (a := a) (n := 18) (i := 1) (va_up Ls 1 u8) (w_Xo cs x tq h a S ++ w_Text cs tq tx ++ w_Hist cs h a hs) (by decide) u9) hDx
      refine lv_iinc (v := x7 + 1) (lv' := [(7, .int (x7 + 1)), (5, .long y7), (0, .ref (x 0)), (3, .int x3), (4, .int x4)]) hx hb dX3_simulate_72 hl (k := 4) rfl rfl (by decide) rfl (fun ls hl => ?_)
      refine lv_goto (tgt := 33) hx hb dX3_simulate_75 (by decide) ?_
      exact ih _ _ _ _ _ _ hw _ _ hP hD hS ls (lv_sub hl [2, 3, 4, 1, 0] rfl)
set_option maxHeartbeats 4000000 in
set_option maxRecDepth 100000 in
theorem t_X3_simulate {p : Program} {l : Launch} {e : Env} {s : State} {m : MethodId} {args : Array Value} {below : List Frame} {meth : Method} {c : Code} {D : va_G} {cs : Nat → ClassId} {A : Nat → Prop} (hC : MAt p s m args meth c RX3 cX3_simulate 8 (some .int) wsX3_simulate D cs) (hfl : l.stackTraces = false) (hT0 : ∀ x ∈ c.exceptionTable.toList, False) {sa : Nat → Nat} (hTW : TW sa s) (hTZ : TZ A s s.heap) (x : Nat → Nat) (tq : Nat → Nat) (h : Nat → Nat) (a : Nat → Nat → Nat) (S : XO) (tx : TS) (hs : HS) (Ls : (Nat → LnS)) (x1 : Int64) (x3 : Int32) (Q : Int32 → XO → TS → HS → (Nat → LnS) → Prop) (QX : String → XO → TS → HS → (Nat → LnS) → Prop) (hA : ∀ q : Nat, s.heap.size ≤ q → A q) (hw : wp_X3_simulate S tx hs Ls x1 x3 Q QX) (H : Heap) (locs : List Loc) (hP : va_P D vwCl (w_Xo cs x tq h a S ++ w_Text cs tq tx ++ w_Hist cs h a hs ++ linesW cs a 18 Ls) H) (hD : va_D A (w_Xo cs x tq h a S ++ w_Text cs tq tx ++ w_Hist cs h a hs ++ linesW cs a 18 Ls)) (hS : va_S A s.heap H locs) (ls : Array Slot) (hl : lv_has ls 8 [(0, .ref (x 0)), (1, .long x1), (3, .int x3)]) : W p l e ({ frames := 7, cells := 1, slots := 6, locals := 115 } : Room) s m args below meth c H locs 0 0 (vx_MQ below (va_Qi (fun r (u : XO × TS × HS × (Nat → LnS)) => Q r u.1 u.2.1 u.2.2.1 u.2.2.2) (fun (u : XO × TS × HS × (Nat → LnS)) t => va_P D vwCl (w_Xo cs x tq h a u.1 ++ w_Text cs tq u.2.1 ++ w_Hist cs h a u.2.2.1 ++ linesW cs a 18 u.2.2.2) t.heap ∧ va_D A (w_Xo cs x tq h a u.1 ++ w_Text cs tq u.2.1 ++ w_Hist cs h a u.2.2.1 ++ linesW cs a 18 u.2.2.2)) A) (vx_X (fun (_ : XO × TS × HS × (Nat → LnS)) => True) (fun E (u : XO × TS × HS × (Nat → LnS)) t => QX E u.1 u.2.1 u.2.2.1 u.2.2.2 ∧ va_P D vwCl (w_Xo cs x tq h a u.1 ++ w_Text cs tq u.2.1 ++ w_Hist cs h a u.2.2.1 ++ linesW cs a 18 u.2.2.2) t.heap ∧ va_D A (w_Xo cs x tq h a u.1 ++ w_Text cs tq u.2.1 ++ w_Hist cs h a u.2.2.1 ++ linesW cs a 18 u.2.2.2)) A) args s 1 6 A) (F0 m 0 ls []) := by
  obtain ⟨hx, hb, hr, hml, hown, hts, hlocks, hKK⟩ := id hC
  have hK := hKK.1
  refine lv_iload_n hx hb dX3_simulate_0 rfl (lv_at hl 2 rfl) ?_
  refine lv_iconst (v := (1 : Int32)) hx hb dX3_simulate_1 (by decide) ?_
  refine lv_bipush (v := (99 : Int32)) hx hb dX3_simulate_2 (by decide) ?_
  have hPc : va_P D vwCl ([] : va_W) H := z_nilP
  have hDc : va_D A ([] : va_W) := z_nilD
  have hFc := z_free (wc := []) hD hS hA
  refine vx_callv (vx_runS (As := [.int x3, .int (1 : Int32), .int (99 : Int32)]) (rest := []) ⟨hx, hb, hml, hown, hts⟩ (c_X3_requireRange l hfl D cs  H.size sa x3 (1 : Int32) (99 : Int32) _ _ hw) (va_cwS 3 hts gX3_simulate_X3_requireRange rfl rfl rfl (by decide +kernel) ⟨Nat.le_of_ble_eq_true rfl, Nat.le_of_ble_eq_true rfl⟩) (PX_S hPc hDc hKK hTW hTZ hS hFc) rfl rfl hl.1 rfl (lv_room (Nat.le_of_ble_eq_true rfl)) dX3_simulate_4 ⟨Nat.le_of_ble_eq_true rfl, Nat.le_of_ble_eq_true rfl⟩) hS (fun q _ h => hFc q h) hFc (fun q _ h => hFc q h) ?_ (fun u1 t H locs ht hvm hw hB hz1 hk1 hS => ?_)
  · intro E ce q9 u1 t H locs ht hvm hpx hB hz1 hk1 hS hq9 hce hcl
    obtain ⟨hw, hP1, hD1⟩ := hB
    rw [ht] at hP1
    obtain ⟨hP, hD⟩ := z_join (wc := []) hP hD hk1 hFc hP1 hD1
    have hP : va_P D vwCl (w_Xo cs x tq h a S ++ w_Text cs tq tx ++ w_Hist cs h a hs ++ linesW cs a 18 Ls) H := hP
    have hD : va_D A (w_Xo cs x tq h a S ++ w_Text cs tq tx ++ w_Hist cs h a hs ++ linesW cs a 18 Ls) := hD
    exact vx_out (fun x h => (hT0 x h).elim) hlocks hq9 hce hcl (fun t2 ht2 hvm2 => ⟨(S, tx, hs, Ls), trivial, ⟨hw, by rw [ht2]; exact hP, hD⟩, hS.F ht2⟩) hS.2.2 (Nat.le_of_ble_eq_true rfl) (Nat.le_of_ble_eq_true rfl)
  obtain ⟨hP1, hD1⟩ := hB
  rw [ht] at hP1
  obtain ⟨hP, hD⟩ := z_join (wc := []) hP hD hk1 hFc hP1 hD1
  have hP : va_P D vwCl (w_Xo cs x tq h a S ++ w_Text cs tq tx ++ w_Hist cs h a hs ++ linesW cs a 18 Ls) H := hP
  have hD : va_D A (w_Xo cs x tq h a S ++ w_Text cs tq tx ++ w_Hist cs h a hs ++ linesW cs a 18 Ls) := hD
  refine lv_aload_n hx hb dX3_simulate_7 rfl (lv_at hl 0 rfl) ?_
  refine va_get (D := D) (ci := 3) (v := .ref (a 1 0)) (C := RX3) (T := TX3) (N := 7) hx hb hts (h_X3_X3_simulate) hown hK hP 0 rfl rfl 5 (by decide) (z_w hts 1 rfl) (fun _ h9 => h9) rfl dX3_simulate_8 ?_
  refine lv_aload_n hx hb dX3_simulate_11 rfl (lv_at hl 0 rfl) ?_
  refine va_get (D := D) (ci := 3) (v := .ref (a 0 0)) (C := RX3) (T := TX3) (N := 7) hx hb hts (h_X3_X3_simulate) hown hK hP 0 rfl rfl 1 (by decide) (z_w hts 2 rfl) (fun _ h9 => h9) rfl dX3_simulate_12 ?_
  have hPx := z_perm_P (lines_2 (cs := cs) (a := a) (n := 18) (i := 1) (j := 0) Ls (w_Xo cs x tq h a S ++ w_Text cs tq tx ++ w_Hist cs h a hs) (by decide) (by decide) (by omega)) hP
  have hDx := z_perm_D (lines_2 (cs := cs) (a := a) (n := 18) (i := 1) (j := 0) Ls (w_Xo cs x tq h a S ++ w_Text cs tq tx ++ w_Hist cs h a hs) (by decide) (by decide) (by omega)) hD
  have hPc := (z_app_P hPx).1
  have hDc := (z_app_D hDx).1
  have hFc := z_free hDx hS hA
  refine va_callv (va_runV (As := [.ref (a 0 0)]) (rest := []) ⟨hx, hb, hml, hown, hts⟩ (c_X1_copyFrom l D cs (a 1) (a 0) H.size (Ls 1) (Ls 0) _ hw) (cwV 1 hts gX3_simulate_X1_copyFrom rfl rfl rfl (by decide +kernel) ⟨Nat.le_of_ble_eq_true rfl, Nat.le_of_ble_eq_true rfl⟩) (PC_V hPc hDc hKK 0 1 rfl rfl) rfl rfl hl.1 rfl (lv_room (Nat.le_of_ble_eq_true rfl)) dX3_simulate_15 ⟨Nat.le_of_ble_eq_true rfl, Nat.le_of_ble_eq_true rfl⟩) hS (fun q _ h => hFc q h) hFc (fun u2 t H locs ht hvm hw hB hz1 hk1 hS => ?_)
  obtain ⟨hP1, hD1⟩ := hB
  rw [ht] at hP1
  obtain ⟨hPx, hDx⟩ := z_join hPx hDx hk1 hFc hP1 hD1
  have hP : va_P D vwCl (w_Xo cs x tq h a S ++ w_Text cs tq tx ++ w_Hist cs h a hs ++ linesW cs a 18 (va_up Ls 1 u2)) H := z_perm_P (lines_2b (cs := cs) (a := a) (n := 18) (i := 1) (j := 0) Ls (w_Xo cs x tq h a S ++ w_Text cs tq tx ++ w_Hist cs h a hs) (by decide) (by decide) (by omega) u2) hPx
  have hD : va_D A (w_Xo cs x tq h a S ++ w_Text cs tq tx ++ w_Hist cs h a hs ++ linesW cs a 18 (va_up Ls 1 u2)) := z_perm_D (lines_2b (cs := cs) (a := a) (n := 18) (i := 1) (j := 0) Ls (w_Xo cs x tq h a S ++ w_Text cs tq tx ++ w_Hist cs h a hs) (by decide) (by decide) (by omega) u2) hDx
  refine lv_aload_n hx hb dX3_simulate_18 rfl (lv_at hl 0 rfl) ?_
  refine va_get (D := D) (ci := 3) (v := .ref (a 1 0)) (C := RX3) (T := TX3) (N := 7) hx hb hts (h_X3_X3_simulate) hown hK hP 0 rfl rfl 5 (by decide) (z_w hts 1 rfl) (fun _ h9 => h9) rfl dX3_simulate_19 ?_
  have hPx := z_perm_P (lines_1 (cs := cs) (a := a) (n := 18) (i := 1) (va_up Ls 1 u2) (w_Xo cs x tq h a S ++ w_Text cs tq tx ++ w_Hist cs h a hs) (by decide)) hP
  have hDx := z_perm_D (lines_1 (cs := cs) (a := a) (n := 18) (i := 1) (va_up Ls 1 u2) (w_Xo cs x tq h a S ++ w_Text cs tq tx ++ w_Hist cs h a hs) (by decide)) hD
  have hPc := (z_app_P hPx).1
  have hDc := (z_app_D hDx).1
  refine z_calli (va_runV (As := []) (rest := []) ⟨hx, hb, hml, hown, hts⟩ (c_X1_pairs l D cs (a 1) H.size u2 _ hw) (cwV 0 hts gX3_simulate_X1_pairs rfl rfl rfl (by decide +kernel) ⟨Nat.le_of_ble_eq_true rfl, Nat.le_of_ble_eq_true rfl⟩) (PC_V hPc hDc hKK 0 1 rfl rfl) rfl rfl hl.1 rfl (lv_room (Nat.le_of_ble_eq_true rfl)) dX3_simulate_22 ⟨Nat.le_of_ble_eq_true rfl, Nat.le_of_ble_eq_true rfl⟩) (fun r3 hw => ?_)
  refine lv_istore (lv' := [(4, .int r3), (0, .ref (x 0)), (1, .long x1), (3, .int x3)]) hx hb dX3_simulate_25 hl (by decide) rfl (fun ls hl => ?_)
  refine lv_lload_n hx hb dX3_simulate_27 rfl (lv_at hl 2 rfl) ?_
  refine lv_lstore (lv' := [(5, .long x1), (4, .int r3), (0, .ref (x 0)), (1, .long x1), (3, .int x3)]) hx hb dX3_simulate_28 hl (by decide) rfl (fun ls hl => ?_)
  refine lv_iconst (v := (0 : Int32)) hx hb dX3_simulate_30 (by decide) ?_
  refine lv_istore (lv' := [(7, .int (0 : Int32)), (5, .long x1), (4, .int r3), (0, .ref (x 0)), (1, .long x1), (3, .int x3)]) hx hb dX3_simulate_31 hl (by decide) rfl (fun ls hl => ?_)
  obtain ⟨n10, hw⟩ := hw
  exact t_X3_simulate_33 hC hfl hT0 hTW hTZ x tq h a _ _ _ _ hA n10 _ _ _ _ _ _ hw H locs hP hD hS ls (lv_sub hl [3, 5, 2, 1, 0] rfl)
set_option maxHeartbeats 4000000 in
set_option maxRecDepth 100000 in
theorem c_X3_simulate (l : Launch) (hfl : l.stackTraces = false) (D : va_G) (cs : Nat → ClassId) (x : Nat → Nat) (tq : Nat → Nat) (h : Nat → Nat) (a : Nat → Nat → Nat) (sz : Nat) (sa : Nat → Nat) (S : XO) (tx : TS) (hs : HS) (Ls : (Nat → LnS)) (x1 : Int64) (x3 : Int32) (Q : Int32 → XO → TS → HS → (Nat → LnS) → Prop) (QX : String → XO → TS → HS → (Nat → LnS) → Prop) (hw : wp_X3_simulate S tx hs Ls x1 x3 Q QX) : vx_Met l yX3_simulate wsX3_simulate ({ frames := 7, cells := 1, slots := 6, locals := 115 } : Room) (va_Pc [.ref (x 0), .long x1, .int x3] (PX D cs (w_Xo cs x tq h a S ++ w_Text cs tq tx ++ w_Hist cs h a hs ++ linesW cs a 18 Ls) sa sz)) (va_Qi (fun r (u : XO × TS × HS × (Nat → LnS)) => Q r u.1 u.2.1 u.2.2.1 u.2.2.2) (fun (u : XO × TS × HS × (Nat → LnS)) t => va_P D vwCl (w_Xo cs x tq h a u.1 ++ w_Text cs tq u.2.1 ++ w_Hist cs h a u.2.2.1 ++ linesW cs a 18 u.2.2.2) t.heap ∧ va_D (va_A (w_Xo cs x tq h a S ++ w_Text cs tq tx ++ w_Hist cs h a hs ++ linesW cs a 18 Ls) sz) (w_Xo cs x tq h a u.1 ++ w_Text cs tq u.2.1 ++ w_Hist cs h a u.2.2.1 ++ linesW cs a 18 u.2.2.2)) (va_A (w_Xo cs x tq h a S ++ w_Text cs tq tx ++ w_Hist cs h a hs ++ linesW cs a 18 Ls) sz)) (vx_X (fun (_ : XO × TS × HS × (Nat → LnS)) => True) (fun E (u : XO × TS × HS × (Nat → LnS)) t => QX E u.1 u.2.1 u.2.2.1 u.2.2.2 ∧ va_P D vwCl (w_Xo cs x tq h a u.1 ++ w_Text cs tq u.2.1 ++ w_Hist cs h a u.2.2.1 ++ linesW cs a 18 u.2.2.2) t.heap ∧ va_D (va_A (w_Xo cs x tq h a S ++ w_Text cs tq tx ++ w_Hist cs h a hs ++ linesW cs a 18 Ls) sz) (w_Xo cs x tq h a u.1 ++ w_Text cs tq u.2.1 ++ w_Hist cs h a u.2.2.1 ++ linesW cs a 18 u.2.2.2)) (va_A (w_Xo cs x tq h a S ++ w_Text cs tq tx ++ w_Hist cs h a hs ++ linesW cs a 18 Ls) sz)) 1 6 (va_A (w_Xo cs x tq h a S ++ w_Text cs tq tx ++ w_Hist cs h a hs ++ linesW cs a 18 Ls) sz) := by
  refine vx_ofW (cc := cX3_simulate) (maxL := 8) (ret := (some .int)) (by decide) rfl ?_
  intro p e s m args below meth c s₁ B hml hT0 hv
  obtain ⟨rfl, ⟨hsz, hP, hKK, hD0⟩, hTW, hTZ⟩ := hv
  have hC : MAt p s m _ meth c RX3 cX3_simulate 8 (some .int) wsX3_simulate D cs := ⟨B.exec, B.bytes, B.returns, hml, findClass_of_methodNamed B.named, atoms_spec (ws := wsX3_simulate) B.pre, B.notSynchronized, hKK⟩
  have hl := lv_entry ([.ref (x 0), .long x1, .int x3]) (n := 8) (Nat.le_of_ble_eq_true rfl)
  rw [lg_entry_eq]
  generalize (lg_sl ([.ref (x 0), .long x1, .int x3]) ++ List.replicate (8 - (lg_sl ([.ref (x 0), .long x1, .int x3])).length) Slot.unset).toArray = ls at hl ⊢
  subst hsz
  have hD := hD0.self (sz := s.heap.size)
  have hA : ∀ z : Nat, s.heap.size ≤ z → va_A (w_Xo cs x tq h a S ++ w_Text cs tq tx ++ w_Hist cs h a hs ++ linesW cs a 18 Ls) s.heap.size z := fun z h => Or.inr h
  exact t_X3_simulate hC hfl hT0 hTW hTZ x tq h a S tx hs Ls x1 x3 Q QX hA hw s.heap [] hP hD va_S.rf ls hl
theorem h_X1_X3_save : ∀ w ∈ u_ws RX1 TX1 13, w ∈ wsX3_save := fun _ h => List.mem_cons_of_mem _ (List.mem_append_left _ (List.mem_append_right _ h))
theorem h_X3_X3_save : ∀ w ∈ u_ws RX3 TX3 7, w ∈ wsX3_save := fun _ h => List.mem_cons_of_mem _ (List.mem_append_left _ (List.mem_append_left _ (List.mem_append_right _ h)))
set_option maxHeartbeats 4000000 in
set_option maxRecDepth 100000 in
theorem t_X3_save {p : Program} {l : Launch} {e : Env} {s : State} {m : MethodId} {args : Array Value} {below : List Frame} {meth : Method} {c : Code} {D : va_G} {cs : Nat → ClassId} {A : Nat → Prop} (hC : MAt p s m args meth c RX3 cX3_save 2 (some .int) wsX3_save D cs) (hfl : l.stackTraces = false) (hT0 : ∀ x ∈ c.exceptionTable.toList, False) {sa : Nat → Nat} (hTW : TW sa s) (hTZ : TZ A s s.heap) (x : Nat → Nat) (tq : Nat → Nat) (h : Nat → Nat) (a : Nat → Nat → Nat) (S : XO) (tx : TS) (hs : HS) (Ls : (Nat → LnS)) (x1 : Int32) (Q : Int32 → XO → TS → HS → (Nat → LnS) → Prop) (QX : String → XO → TS → HS → (Nat → LnS) → Prop) (hA : ∀ q : Nat, s.heap.size ≤ q → A q) (hw : wp_X3_save S tx hs Ls x1 Q QX) (H : Heap) (locs : List Loc) (hP : va_P D vwCl (w_Xo cs x tq h a S ++ w_Text cs tq tx ++ w_Hist cs h a hs ++ linesW cs a 18 Ls) H) (hD : va_D A (w_Xo cs x tq h a S ++ w_Text cs tq tx ++ w_Hist cs h a hs ++ linesW cs a 18 Ls)) (hS : va_S A s.heap H locs) (ls : Array Slot) (hl : lv_has ls 2 [(0, .ref (x 0)), (1, .int x1)]) : W p l e ({ frames := 7, cells := 1, slots := 6, locals := 102 } : Room) s m args below meth c H locs 0 0 (vx_MQ below (va_Qi (fun r (u : XO × TS × HS × (Nat → LnS)) => Q r u.1 u.2.1 u.2.2.1 u.2.2.2) (fun (u : XO × TS × HS × (Nat → LnS)) t => va_P D vwCl (w_Xo cs x tq h a u.1 ++ w_Text cs tq u.2.1 ++ w_Hist cs h a u.2.2.1 ++ linesW cs a 18 u.2.2.2) t.heap ∧ va_D A (w_Xo cs x tq h a u.1 ++ w_Text cs tq u.2.1 ++ w_Hist cs h a u.2.2.1 ++ linesW cs a 18 u.2.2.2)) A) (vx_X (fun (_ : XO × TS × HS × (Nat → LnS)) => True) (fun E (u : XO × TS × HS × (Nat → LnS)) t => QX E u.1 u.2.1 u.2.2.1 u.2.2.2 ∧ va_P D vwCl (w_Xo cs x tq h a u.1 ++ w_Text cs tq u.2.1 ++ w_Hist cs h a u.2.2.1 ++ linesW cs a 18 u.2.2.2) t.heap ∧ va_D A (w_Xo cs x tq h a u.1 ++ w_Text cs tq u.2.1 ++ w_Hist cs h a u.2.2.1 ++ linesW cs a 18 u.2.2.2)) A) args s 1 6 A) (F0 m 0 ls []) := by
  obtain ⟨hx, hb, hr, hml, hown, hts, hlocks, hKK⟩ := id hC
  have hK := hKK.1
  refine lv_iload_n hx hb dX3_save_0 rfl (lv_at hl 1 rfl) ?_
  have hPc : va_P D vwCl ([] : va_W) H := z_nilP
  have hDc : va_D A ([] : va_W) := z_nilD
  have hFc := z_free (wc := []) hD hS hA
  refine vx_callv (vx_runS (As := [.int x1]) (rest := []) ⟨hx, hb, hml, hown, hts⟩ (c_X3_requireSlot l hfl D cs  H.size sa x1 _ _ hw) (va_cwS 1 hts gX3_save_X3_requireSlot rfl rfl rfl (by decide +kernel) ⟨Nat.le_of_ble_eq_true rfl, Nat.le_of_ble_eq_true rfl⟩) (PX_S hPc hDc hKK hTW hTZ hS hFc) rfl rfl hl.1 rfl (lv_room (Nat.le_of_ble_eq_true rfl)) dX3_save_1 ⟨Nat.le_of_ble_eq_true rfl, Nat.le_of_ble_eq_true rfl⟩) hS (fun q _ h => hFc q h) hFc (fun q _ h => hFc q h) ?_ (fun u1 t H locs ht hvm hw hB hz1 hk1 hS => ?_)
  · intro E ce q9 u1 t H locs ht hvm hpx hB hz1 hk1 hS hq9 hce hcl
    obtain ⟨hw, hP1, hD1⟩ := hB
    rw [ht] at hP1
    obtain ⟨hP, hD⟩ := z_join (wc := []) hP hD hk1 hFc hP1 hD1
    have hP : va_P D vwCl (w_Xo cs x tq h a S ++ w_Text cs tq tx ++ w_Hist cs h a hs ++ linesW cs a 18 Ls) H := hP
    have hD : va_D A (w_Xo cs x tq h a S ++ w_Text cs tq tx ++ w_Hist cs h a hs ++ linesW cs a 18 Ls) := hD
    exact vx_out (fun x h => (hT0 x h).elim) hlocks hq9 hce hcl (fun t2 ht2 hvm2 => ⟨(S, tx, hs, Ls), trivial, ⟨hw, by rw [ht2]; exact hP, hD⟩, hS.F ht2⟩) hS.2.2 (Nat.le_of_ble_eq_true rfl) (Nat.le_of_ble_eq_true rfl)
  obtain ⟨hP1, hD1⟩ := hB
  rw [ht] at hP1
  obtain ⟨hP, hD⟩ := z_join (wc := []) hP hD hk1 hFc hP1 hD1
  have hP : va_P D vwCl (w_Xo cs x tq h a S ++ w_Text cs tq tx ++ w_Hist cs h a hs ++ linesW cs a 18 Ls) H := hP
  have hD : va_D A (w_Xo cs x tq h a S ++ w_Text cs tq tx ++ w_Hist cs h a hs ++ linesW cs a 18 Ls) := hD
  refine lv_aload_n hx hb dX3_save_4 rfl (lv_at hl 0 rfl) ?_
  refine va_get (D := D) (ci := 3) (v := .ref (x 1)) (C := RX3) (T := TX3) (N := 7) hx hb hts (h_X3_X3_save) hown hK hP 0 rfl rfl 3 (by decide) (z_w hts 1 rfl) (fun _ h9 => h9) rfl dX3_save_5 ?_
  refine lv_iload_n hx hb dX3_save_8 rfl (lv_at hl 1 rfl) ?_
  obtain ⟨h2, hw⟩ := hw
  refine va_aldq hx hb hK hP 1 4 rfl rfl h2 dX3_save_9 ?_
  refine W.eq (g2 := F0 m 10 ls [.ref (a (2 + x1.toNatClampNeg) 0)]) rfl ?_
  refine lv_aload_n hx hb dX3_save_10 rfl (lv_at hl 0 rfl) ?_
  refine va_get (D := D) (ci := 3) (v := .ref (a 0 0)) (C := RX3) (T := TX3) (N := 7) hx hb hts (h_X3_X3_save) hown hK hP 0 rfl rfl 1 (by decide) (z_w hts 2 rfl) (fun _ h9 => h9) rfl dX3_save_11 ?_
  have hPx := z_perm_P (lines_2 (cs := cs) (a := a) (n := 18) (i := 2 + x1.toNatClampNeg) (j := 0) Ls (w_Xo cs x tq h a S ++ w_Text cs tq tx ++ w_Hist cs h a hs) (z_lt2 h2) (by decide) (by omega)) hP
  have hDx := z_perm_D (lines_2 (cs := cs) (a := a) (n := 18) (i := 2 + x1.toNatClampNeg) (j := 0) Ls (w_Xo cs x tq h a S ++ w_Text cs tq tx ++ w_Hist cs h a hs) (z_lt2 h2) (by decide) (by omega)) hD
  have hPc := (z_app_P hPx).1
  have hDc := (z_app_D hDx).1
  have hFc := z_free hDx hS hA
  refine va_callv (va_runV (As := [.ref (a 0 0)]) (rest := []) ⟨hx, hb, hml, hown, hts⟩ (c_X1_copyFrom l D cs (a (2 + x1.toNatClampNeg)) (a 0) H.size (Ls (2 + x1.toNatClampNeg)) (Ls 0) _ hw) (cwV 1 hts gX3_save_X1_copyFrom rfl rfl rfl (by decide +kernel) ⟨Nat.le_of_ble_eq_true rfl, Nat.le_of_ble_eq_true rfl⟩) (PC_V hPc hDc hKK 0 1 rfl rfl) rfl rfl hl.1 rfl (lv_room (Nat.le_of_ble_eq_true rfl)) dX3_save_14 ⟨Nat.le_of_ble_eq_true rfl, Nat.le_of_ble_eq_true rfl⟩) hS (fun q _ h => hFc q h) hFc (fun u3 t H locs ht hvm hw hB hz1 hk1 hS => ?_)
  obtain ⟨hP1, hD1⟩ := hB
  rw [ht] at hP1
  obtain ⟨hPx, hDx⟩ := z_join hPx hDx hk1 hFc hP1 hD1
  have hP : va_P D vwCl (w_Xo cs x tq h a S ++ w_Text cs tq tx ++ w_Hist cs h a hs ++ linesW cs a 18 (va_up Ls (2 + x1.toNatClampNeg) u3)) H := z_perm_P (lines_2b (cs := cs) (a := a) (n := 18) (i := 2 + x1.toNatClampNeg) (j := 0) Ls (w_Xo cs x tq h a S ++ w_Text cs tq tx ++ w_Hist cs h a hs) (z_lt2 h2) (by decide) (by omega) u3) hPx
  have hD : va_D A (w_Xo cs x tq h a S ++ w_Text cs tq tx ++ w_Hist cs h a hs ++ linesW cs a 18 (va_up Ls (2 + x1.toNatClampNeg) u3)) := z_perm_D (lines_2b (cs := cs) (a := a) (n := 18) (i := 2 + x1.toNatClampNeg) (j := 0) Ls (w_Xo cs x tq h a S ++ w_Text cs tq tx ++ w_Hist cs h a hs) (z_lt2 h2) (by decide) (by omega) u3) hDx
  refine lv_aload_n hx hb dX3_save_17 rfl (lv_at hl 0 rfl) ?_
  refine va_get (D := D) (ci := 3) (v := .ref (x 2)) (C := RX3) (T := TX3) (N := 7) hx hb hts (h_X3_X3_save) hown hK hP 0 rfl rfl 4 (by decide) (z_w hts 3 rfl) (fun _ h9 => h9) rfl dX3_save_18 ?_
  refine lv_iload_n hx hb dX3_save_21 rfl (lv_at hl 1 rfl) ?_
  refine lv_iconst (v := (1 : Int32)) hx hb dX3_save_22 (by decide) ?_
  obtain ⟨h4, hw⟩ := hw
  refine va_zast hx hb hK hP hD hS 2 1 rfl rfl h4 dX3_save_23 (fun H locs hP hD hS => ?_)
  have hP : va_P D vwCl (w_Xo cs x tq h a (upd S.1 x1.toNatClampNeg (vp_nar .boolean (1 : Int32)), S.2) ++ w_Text cs tq tx ++ w_Hist cs h a hs ++ linesW cs a 18 (va_up Ls (2 + x1.toNatClampNeg) u3)) H := hP
  have hD : va_D A (w_Xo cs x tq h a (upd S.1 x1.toNatClampNeg (vp_nar .boolean (1 : Int32)), S.2) ++ w_Text cs tq tx ++ w_Hist cs h a hs ++ linesW cs a 18 (va_up Ls (2 + x1.toNatClampNeg) u3)) := hD
  refine lv_aload_n hx hb dX3_save_24 rfl (lv_at hl 0 rfl) ?_
  refine va_get (D := D) (ci := 3) (v := .ref (a 0 0)) (C := RX3) (T := TX3) (N := 7) hx hb hts (h_X3_X3_save) hown hK hP 0 rfl rfl 1 (by decide) (z_w hts 2 rfl) (fun _ h9 => h9) rfl dX3_save_25 ?_
  refine va_get (D := D) (ci := 1) (v := .int (((va_up Ls (2 + x1.toNatClampNeg) u3) 0).1 0 2)) (C := RX1) (T := TX1) (N := 13) hx hb hts (h_X1_X3_save) hown hK hP 8 rfl rfl 2 (by decide) (z_w hts 4 rfl) (fun _ h9 => h9) rfl dX3_save_28 ?_
  refine W.widen (k := 1) (n := 6) (Nat.le_of_ble_eq_true rfl) (Nat.le_of_ble_eq_true rfl) (vx_ret ?_)
  exact W.iret (v := ((va_up Ls (2 + x1.toNatClampNeg) u3) 0).1 0 2) hx hb hr (fun t ht hW => ⟨⟨((va_up Ls (2 + x1.toNatClampNeg) u3) 0).1 0 2, ((upd S.1 x1.toNatClampNeg (vp_nar .boolean (1 : Int32)), S.2), tx, hs, va_up Ls (2 + x1.toNatClampNeg) u3), rfl, hw, by rw [ht]; exact hP, hD⟩, hS.F ht⟩) hS.2.2 dX3_save_31 hlocks
set_option maxHeartbeats 4000000 in
set_option maxRecDepth 100000 in
theorem c_X3_save (l : Launch) (hfl : l.stackTraces = false) (D : va_G) (cs : Nat → ClassId) (x : Nat → Nat) (tq : Nat → Nat) (h : Nat → Nat) (a : Nat → Nat → Nat) (sz : Nat) (sa : Nat → Nat) (S : XO) (tx : TS) (hs : HS) (Ls : (Nat → LnS)) (x1 : Int32) (Q : Int32 → XO → TS → HS → (Nat → LnS) → Prop) (QX : String → XO → TS → HS → (Nat → LnS) → Prop) (hw : wp_X3_save S tx hs Ls x1 Q QX) : vx_Met l yX3_save wsX3_save ({ frames := 7, cells := 1, slots := 6, locals := 102 } : Room) (va_Pc [.ref (x 0), .int x1] (PX D cs (w_Xo cs x tq h a S ++ w_Text cs tq tx ++ w_Hist cs h a hs ++ linesW cs a 18 Ls) sa sz)) (va_Qi (fun r (u : XO × TS × HS × (Nat → LnS)) => Q r u.1 u.2.1 u.2.2.1 u.2.2.2) (fun (u : XO × TS × HS × (Nat → LnS)) t => va_P D vwCl (w_Xo cs x tq h a u.1 ++ w_Text cs tq u.2.1 ++ w_Hist cs h a u.2.2.1 ++ linesW cs a 18 u.2.2.2) t.heap ∧ va_D (va_A (w_Xo cs x tq h a S ++ w_Text cs tq tx ++ w_Hist cs h a hs ++ linesW cs a 18 Ls) sz) (w_Xo cs x tq h a u.1 ++ w_Text cs tq u.2.1 ++ w_Hist cs h a u.2.2.1 ++ linesW cs a 18 u.2.2.2)) (va_A (w_Xo cs x tq h a S ++ w_Text cs tq tx ++ w_Hist cs h a hs ++ linesW cs a 18 Ls) sz)) (vx_X (fun (_ : XO × TS × HS × (Nat → LnS)) => True) (fun E (u : XO × TS × HS × (Nat → LnS)) t => QX E u.1 u.2.1 u.2.2.1 u.2.2.2 ∧ va_P D vwCl (w_Xo cs x tq h a u.1 ++ w_Text cs tq u.2.1 ++ w_Hist cs h a u.2.2.1 ++ linesW cs a 18 u.2.2.2) t.heap ∧ va_D (va_A (w_Xo cs x tq h a S ++ w_Text cs tq tx ++ w_Hist cs h a hs ++ linesW cs a 18 Ls) sz) (w_Xo cs x tq h a u.1 ++ w_Text cs tq u.2.1 ++ w_Hist cs h a u.2.2.1 ++ linesW cs a 18 u.2.2.2)) (va_A (w_Xo cs x tq h a S ++ w_Text cs tq tx ++ w_Hist cs h a hs ++ linesW cs a 18 Ls) sz)) 1 6 (va_A (w_Xo cs x tq h a S ++ w_Text cs tq tx ++ w_Hist cs h a hs ++ linesW cs a 18 Ls) sz) := by
  refine vx_ofW (cc := cX3_save) (maxL := 2) (ret := (some .int)) (by decide) rfl ?_
  intro p e s m args below meth c s₁ B hml hT0 hv
  obtain ⟨rfl, ⟨hsz, hP, hKK, hD0⟩, hTW, hTZ⟩ := hv
  have hC : MAt p s m _ meth c RX3 cX3_save 2 (some .int) wsX3_save D cs := ⟨B.exec, B.bytes, B.returns, hml, findClass_of_methodNamed B.named, atoms_spec (ws := wsX3_save) B.pre, B.notSynchronized, hKK⟩
  have hl := lv_entry ([.ref (x 0), .int x1]) (n := 2) (Nat.le_of_ble_eq_true rfl)
  rw [lg_entry_eq]
  generalize (lg_sl ([.ref (x 0), .int x1]) ++ List.replicate (2 - (lg_sl ([.ref (x 0), .int x1])).length) Slot.unset).toArray = ls at hl ⊢
  subst hsz
  have hD := hD0.self (sz := s.heap.size)
  have hA : ∀ z : Nat, s.heap.size ≤ z → va_A (w_Xo cs x tq h a S ++ w_Text cs tq tx ++ w_Hist cs h a hs ++ linesW cs a 18 Ls) s.heap.size z := fun z h => Or.inr h
  exact t_X3_save hC hfl hT0 hTW hTZ x tq h a S tx hs Ls x1 Q QX hA hw s.heap [] hP hD va_S.rf ls hl
theorem h_X1_X3_restore : ∀ w ∈ u_ws RX1 TX1 13, w ∈ wsX3_restore := fun _ h => List.mem_cons_of_mem _ (List.mem_append_left _ (List.mem_append_left _ (List.mem_append_left _ (List.mem_append_right _ h))))
theorem h_X3_X3_restore : ∀ w ∈ u_ws RX3 TX3 7, w ∈ wsX3_restore := fun _ h => List.mem_cons_of_mem _ (List.mem_append_left _ (List.mem_append_left _ (List.mem_append_left _ (List.mem_append_left _ (List.mem_append_right _ h)))))
set_option maxHeartbeats 4000000 in
set_option maxRecDepth 100000 in
theorem t_X3_restore {p : Program} {l : Launch} {e : Env} {s : State} {m : MethodId} {args : Array Value} {below : List Frame} {meth : Method} {c : Code} {D : va_G} {cs : Nat → ClassId} {A : Nat → Prop} (hC : MAt p s m args meth c RX3 cX3_restore 2 (some .int) wsX3_restore D cs) (hfl : l.stackTraces = false) (hT0 : ∀ x ∈ c.exceptionTable.toList, False) {sa : Nat → Nat} (hTW : TW sa s) (hTZ : TZ A s s.heap) (x : Nat → Nat) (tq : Nat → Nat) (h : Nat → Nat) (a : Nat → Nat → Nat) (S : XO) (tx : TS) (hs : HS) (Ls : (Nat → LnS)) (x1 : Int32) (Q : Int32 → XO → TS → HS → (Nat → LnS) → Prop) (QX : String → XO → TS → HS → (Nat → LnS) → Prop) (hA : ∀ q : Nat, s.heap.size ≤ q → A q) (hw : wp_X3_restore S tx hs Ls x1 Q QX) (H : Heap) (locs : List Loc) (hP : va_P D vwCl (w_Xo cs x tq h a S ++ w_Text cs tq tx ++ w_Hist cs h a hs ++ linesW cs a 18 Ls) H) (hD : va_D A (w_Xo cs x tq h a S ++ w_Text cs tq tx ++ w_Hist cs h a hs ++ linesW cs a 18 Ls)) (hS : va_S A s.heap H locs) (ls : Array Slot) (hl : lv_has ls 2 [(0, .ref (x 0)), (1, .int x1)]) : W p l e ({ frames := 7, cells := 2, slots := 12, locals := 102 } : Room) s m args below meth c H locs 0 0 (vx_MQ below (va_Qi (fun r (u : XO × TS × HS × (Nat → LnS)) => Q r u.1 u.2.1 u.2.2.1 u.2.2.2) (fun (u : XO × TS × HS × (Nat → LnS)) t => va_P D vwCl (w_Xo cs x tq h a u.1 ++ w_Text cs tq u.2.1 ++ w_Hist cs h a u.2.2.1 ++ linesW cs a 18 u.2.2.2) t.heap ∧ va_D A (w_Xo cs x tq h a u.1 ++ w_Text cs tq u.2.1 ++ w_Hist cs h a u.2.2.1 ++ linesW cs a 18 u.2.2.2)) A) (vx_X (fun (_ : XO × TS × HS × (Nat → LnS)) => True) (fun E (u : XO × TS × HS × (Nat → LnS)) t => QX E u.1 u.2.1 u.2.2.1 u.2.2.2 ∧ va_P D vwCl (w_Xo cs x tq h a u.1 ++ w_Text cs tq u.2.1 ++ w_Hist cs h a u.2.2.1 ++ linesW cs a 18 u.2.2.2) t.heap ∧ va_D A (w_Xo cs x tq h a u.1 ++ w_Text cs tq u.2.1 ++ w_Hist cs h a u.2.2.1 ++ linesW cs a 18 u.2.2.2)) A) args s 2 12 A) (F0 m 0 ls []) := by
  obtain ⟨hx, hb, hr, hml, hown, hts, hlocks, hKK⟩ := id hC
  have hK := hKK.1
  refine lv_iload_n hx hb dX3_restore_0 rfl (lv_at hl 1 rfl) ?_
  have hPc : va_P D vwCl ([] : va_W) H := z_nilP
  have hDc : va_D A ([] : va_W) := z_nilD
  have hFc := z_free (wc := []) hD hS hA
  refine vx_callv (vx_runS (As := [.int x1]) (rest := []) ⟨hx, hb, hml, hown, hts⟩ (c_X3_requireSlot l hfl D cs  H.size sa x1 _ _ hw) (va_cwS 1 hts gX3_restore_X3_requireSlot rfl rfl rfl (by decide +kernel) ⟨Nat.le_of_ble_eq_true rfl, Nat.le_of_ble_eq_true rfl⟩) (PX_S hPc hDc hKK hTW hTZ hS hFc) rfl rfl hl.1 rfl (lv_room (Nat.le_of_ble_eq_true rfl)) dX3_restore_1 ⟨Nat.le_of_ble_eq_true rfl, Nat.le_of_ble_eq_true rfl⟩) hS (fun q _ h => hFc q h) hFc (fun q _ h => hFc q h) ?_ (fun u1 t H locs ht hvm hw hB hz1 hk1 hS => ?_)
  · intro E ce q9 u1 t H locs ht hvm hpx hB hz1 hk1 hS hq9 hce hcl
    obtain ⟨hw, hP1, hD1⟩ := hB
    rw [ht] at hP1
    obtain ⟨hP, hD⟩ := z_join (wc := []) hP hD hk1 hFc hP1 hD1
    have hP : va_P D vwCl (w_Xo cs x tq h a S ++ w_Text cs tq tx ++ w_Hist cs h a hs ++ linesW cs a 18 Ls) H := hP
    have hD : va_D A (w_Xo cs x tq h a S ++ w_Text cs tq tx ++ w_Hist cs h a hs ++ linesW cs a 18 Ls) := hD
    exact vx_out (fun x h => (hT0 x h).elim) hlocks hq9 hce hcl (fun t2 ht2 hvm2 => ⟨(S, tx, hs, Ls), trivial, ⟨hw, by rw [ht2]; exact hP, hD⟩, hS.F ht2⟩) hS.2.2 (Nat.le_of_ble_eq_true rfl) (Nat.le_of_ble_eq_true rfl)
  obtain ⟨hP1, hD1⟩ := hB
  rw [ht] at hP1
  obtain ⟨hP, hD⟩ := z_join (wc := []) hP hD hk1 hFc hP1 hD1
  have hP : va_P D vwCl (w_Xo cs x tq h a S ++ w_Text cs tq tx ++ w_Hist cs h a hs ++ linesW cs a 18 Ls) H := hP
  have hD : va_D A (w_Xo cs x tq h a S ++ w_Text cs tq tx ++ w_Hist cs h a hs ++ linesW cs a 18 Ls) := hD
  refine lv_aload_n hx hb dX3_restore_4 rfl (lv_at hl 0 rfl) ?_
  refine va_get (D := D) (ci := 3) (v := .ref (x 2)) (C := RX3) (T := TX3) (N := 7) hx hb hts (h_X3_X3_restore) hown hK hP 0 rfl rfl 4 (by decide) (z_w hts 3 rfl) (fun _ h9 => h9) rfl dX3_restore_5 ?_
  refine lv_iload_n hx hb dX3_restore_8 rfl (lv_at hl 1 rfl) ?_
  obtain ⟨h2, hw⟩ := hw
  refine va_zald hx hb hK hP 2 1 rfl rfl h2 dX3_restore_9 ?_
  refine lv_if_ne (tgt := 23) hx hb dX3_restore_10 (by decide) (fun c3 => ?_) (fun c3 => ?_)
  · have hw := hw.2 c3
    refine lv_aload_n hx hb dX3_restore_23 rfl (lv_at hl 0 rfl) ?_
    refine va_get (D := D) (ci := 3) (v := .ref (a 0 0)) (C := RX3) (T := TX3) (N := 7) hx hb hts (h_X3_X3_restore) hown hK hP 0 rfl rfl 1 (by decide) (z_w hts 4 rfl) (fun _ h9 => h9) rfl dX3_restore_24 ?_
    refine lv_aload_n hx hb dX3_restore_27 rfl (lv_at hl 0 rfl) ?_
    refine va_get (D := D) (ci := 3) (v := .ref (x 1)) (C := RX3) (T := TX3) (N := 7) hx hb hts (h_X3_X3_restore) hown hK hP 0 rfl rfl 3 (by decide) (z_w hts 5 rfl) (fun _ h9 => h9) rfl dX3_restore_28 ?_
    refine lv_iload_n hx hb dX3_restore_31 rfl (lv_at hl 1 rfl) ?_
    obtain ⟨h4, hw⟩ := hw
    refine va_aldq hx hb hK hP 1 4 rfl rfl h4 dX3_restore_32 ?_
    refine W.eq (g2 := F0 m 33 ls [.ref (a (2 + x1.toNatClampNeg) 0), .ref (a 0 0)]) rfl ?_
    have hPx := z_perm_P (lines_2 (cs := cs) (a := a) (n := 18) (i := 0) (j := 2 + x1.toNatClampNeg) Ls (w_Xo cs x tq h a S ++ w_Text cs tq tx ++ w_Hist cs h a hs) (by decide) (z_lt2 h4) (by omega)) hP
    have hDx := z_perm_D (lines_2 (cs := cs) (a := a) (n := 18) (i := 0) (j := 2 + x1.toNatClampNeg) Ls (w_Xo cs x tq h a S ++ w_Text cs tq tx ++ w_Hist cs h a hs) (by decide) (z_lt2 h4) (by omega)) hD
    have hPc := (z_app_P hPx).1
    have hDc := (z_app_D hDx).1
    have hFc := z_free hDx hS hA
    refine va_callv (va_runV (As := [.ref (a (2 + x1.toNatClampNeg) 0)]) (rest := []) ⟨hx, hb, hml, hown, hts⟩ (c_X1_copyFrom l D cs (a 0) (a (2 + x1.toNatClampNeg)) H.size (Ls 0) (Ls (2 + x1.toNatClampNeg)) _ hw) (cwV 1 hts gX3_restore_X1_copyFrom rfl rfl rfl (by decide +kernel) ⟨Nat.le_of_ble_eq_true rfl, Nat.le_of_ble_eq_true rfl⟩) (PC_V hPc hDc hKK 0 1 rfl rfl) rfl rfl hl.1 rfl (lv_room (Nat.le_of_ble_eq_true rfl)) dX3_restore_33 ⟨Nat.le_of_ble_eq_true rfl, Nat.le_of_ble_eq_true rfl⟩) hS (fun q _ h => hFc q h) hFc (fun u5 t H locs ht hvm hw hB hz1 hk1 hS => ?_)
    obtain ⟨hP1, hD1⟩ := hB
    rw [ht] at hP1
    obtain ⟨hPx, hDx⟩ := z_join hPx hDx hk1 hFc hP1 hD1
    have hP : va_P D vwCl (w_Xo cs x tq h a S ++ w_Text cs tq tx ++ w_Hist cs h a hs ++ linesW cs a 18 (va_up Ls 0 u5)) H := z_perm_P (lines_2b (cs := cs) (a := a) (n := 18) (i := 0) (j := 2 + x1.toNatClampNeg) Ls (w_Xo cs x tq h a S ++ w_Text cs tq tx ++ w_Hist cs h a hs) (by decide) (z_lt2 h4) (by omega) u5) hPx
    have hD : va_D A (w_Xo cs x tq h a S ++ w_Text cs tq tx ++ w_Hist cs h a hs ++ linesW cs a 18 (va_up Ls 0 u5)) := z_perm_D (lines_2b (cs := cs) (a := a) (n := 18) (i := 0) (j := 2 + x1.toNatClampNeg) Ls (w_Xo cs x tq h a S ++ w_Text cs tq tx ++ w_Hist cs h a hs) (by decide) (z_lt2 h4) (by omega) u5) hDx
    refine lv_aload_n hx hb dX3_restore_36 rfl (lv_at hl 0 rfl) ?_
    refine va_get (D := D) (ci := 3) (v := .ref (h 0)) (C := RX3) (T := TX3) (N := 7) hx hb hts (h_X3_X3_restore) hown hK hP 0 rfl rfl 2 (by decide) (z_w hts 6 rfl) (fun _ h9 => h9) rfl dX3_restore_37 ?_
    have hPx := z_perm_P z_rot hP
    have hDx := z_perm_D z_rot hD
    have hPc := (z_app_P hPx).1
    have hDc := (z_app_D hDx).1
    have hFc := z_free hDx hS hA
    refine va_callv (va_runV (As := []) (rest := []) ⟨hx, hb, hml, hown, hts⟩ (c_X0_forget l D cs h a H.size hs (va_up Ls 0 u5) _ hw) (cwV 0 hts gX3_restore_X0_forget rfl rfl rfl (by decide +kernel) ⟨Nat.le_of_ble_eq_true rfl, Nat.le_of_ble_eq_true rfl⟩) (PC_V hPc hDc hKK 0 0 rfl rfl) rfl rfl hl.1 rfl (lv_room (Nat.le_of_ble_eq_true rfl)) dX3_restore_40 ⟨Nat.le_of_ble_eq_true rfl, Nat.le_of_ble_eq_true rfl⟩) hS (fun q _ h => hFc q h) hFc (fun u6 t H locs ht hvm hw hB hz1 hk1 hS => ?_)
    obtain ⟨hP1, hD1⟩ := hB
    rw [ht] at hP1
    obtain ⟨hPx, hDx⟩ := z_join hPx hDx hk1 hFc hP1 hD1
    have hP : va_P D vwCl (w_Xo cs x tq h a S ++ w_Text cs tq tx ++ w_Hist cs h a u6 ++ linesW cs a 18 (va_up Ls 0 u5)) H := z_perm_P z_rotb hPx
    have hD : va_D A (w_Xo cs x tq h a S ++ w_Text cs tq tx ++ w_Hist cs h a u6 ++ linesW cs a 18 (va_up Ls 0 u5)) := z_perm_D z_rotb hDx
    refine lv_aload_n hx hb dX3_restore_43 rfl (lv_at hl 0 rfl) ?_
    refine va_get (D := D) (ci := 3) (v := .ref (a 0 0)) (C := RX3) (T := TX3) (N := 7) hx hb hts (h_X3_X3_restore) hown hK hP 0 rfl rfl 1 (by decide) (z_w hts 4 rfl) (fun _ h9 => h9) rfl dX3_restore_44 ?_
    refine va_get (D := D) (ci := 1) (v := .int (u5.1 0 2)) (C := RX1) (T := TX1) (N := 13) hx hb hts (h_X1_X3_restore) hown hK hP 8 rfl rfl 2 (by decide) (z_w hts 7 rfl) (fun _ h9 => h9) rfl dX3_restore_47 ?_
    refine W.widen (k := 2) (n := 12) (Nat.le_of_ble_eq_true rfl) (Nat.le_of_ble_eq_true rfl) (vx_ret ?_)
    exact W.iret (v := u5.1 0 2) hx hb hr (fun t ht hW => ⟨⟨u5.1 0 2, (S, tx, u6, va_up Ls 0 u5), rfl, hw, by rw [ht]; exact hP, hD⟩, hS.F ht⟩) hS.2.2 dX3_restore_50 hlocks
  · have hw := hw.1 c3
    exact vx_throwS hx hb hfl hown (by decide +kernel) (by decide +kernel) (z_w hts 1 rfl) (z_w hts 2 rfl) (show vk_R RX3 254 "nothing has been saved there" (sa 9) s from hTW.1 9 (by decide)) (vx_hat (fun w h => hts w (List.mem_cons_of_mem _ (List.mem_append_left _ (List.mem_append_right _ h)))) zb_eISE (vx_c (va_Nw.use rfl hTW.2.1) (vx_c (va_Nw.use rfl hTW.2.2.2.2.2.2.2.2.2.2.1) (vx_c (va_Nw.use rfl hTW.2.2.2.2.2.2.2.2.2.2.2.1) (vx_c (va_Nw.use rfl hTW.2.2.2.2.2.2.2.2.2.2.2.2) vx_n))))) zh_eISE hTZ.1 hTZ.2 hS (hl.1.trans hml.symm) dX3_restore_13 dX3_restore_16 dX3_restore_17 dX3_restore_19 dX3_restore_22 (fun x h => (hT0 x h).elim) (Nat.le_of_ble_eq_true rfl) (Nat.le_of_ble_eq_true rfl) (Nat.le_of_ble_eq_true rfl) (Nat.le_of_ble_eq_true rfl) hlocks (fun t ha hz hk => ⟨(S, tx, hs, Ls), trivial, ⟨hw, hP.kept (fun k q hq => hk q.1 (hP k q hq).lt), hD⟩, ⟨Nat.le_trans hS.1 hz, fun q h1 h2 => (hk q (Nat.lt_of_lt_of_le h1 hS.1)).trans (hS.2.1 q h1 h2)⟩⟩) hS.2.2 (Nat.le_of_ble_eq_true rfl) (Nat.le_of_ble_eq_true rfl)
set_option maxHeartbeats 4000000 in
set_option maxRecDepth 100000 in
theorem c_X3_restore (l : Launch) (hfl : l.stackTraces = false) (D : va_G) (cs : Nat → ClassId) (x : Nat → Nat) (tq : Nat → Nat) (h : Nat → Nat) (a : Nat → Nat → Nat) (sz : Nat) (sa : Nat → Nat) (S : XO) (tx : TS) (hs : HS) (Ls : (Nat → LnS)) (x1 : Int32) (Q : Int32 → XO → TS → HS → (Nat → LnS) → Prop) (QX : String → XO → TS → HS → (Nat → LnS) → Prop) (hw : wp_X3_restore S tx hs Ls x1 Q QX) : vx_Met l yX3_restore wsX3_restore ({ frames := 7, cells := 2, slots := 12, locals := 102 } : Room) (va_Pc [.ref (x 0), .int x1] (PX D cs (w_Xo cs x tq h a S ++ w_Text cs tq tx ++ w_Hist cs h a hs ++ linesW cs a 18 Ls) sa sz)) (va_Qi (fun r (u : XO × TS × HS × (Nat → LnS)) => Q r u.1 u.2.1 u.2.2.1 u.2.2.2) (fun (u : XO × TS × HS × (Nat → LnS)) t => va_P D vwCl (w_Xo cs x tq h a u.1 ++ w_Text cs tq u.2.1 ++ w_Hist cs h a u.2.2.1 ++ linesW cs a 18 u.2.2.2) t.heap ∧ va_D (va_A (w_Xo cs x tq h a S ++ w_Text cs tq tx ++ w_Hist cs h a hs ++ linesW cs a 18 Ls) sz) (w_Xo cs x tq h a u.1 ++ w_Text cs tq u.2.1 ++ w_Hist cs h a u.2.2.1 ++ linesW cs a 18 u.2.2.2)) (va_A (w_Xo cs x tq h a S ++ w_Text cs tq tx ++ w_Hist cs h a hs ++ linesW cs a 18 Ls) sz)) (vx_X (fun (_ : XO × TS × HS × (Nat → LnS)) => True) (fun E (u : XO × TS × HS × (Nat → LnS)) t => QX E u.1 u.2.1 u.2.2.1 u.2.2.2 ∧ va_P D vwCl (w_Xo cs x tq h a u.1 ++ w_Text cs tq u.2.1 ++ w_Hist cs h a u.2.2.1 ++ linesW cs a 18 u.2.2.2) t.heap ∧ va_D (va_A (w_Xo cs x tq h a S ++ w_Text cs tq tx ++ w_Hist cs h a hs ++ linesW cs a 18 Ls) sz) (w_Xo cs x tq h a u.1 ++ w_Text cs tq u.2.1 ++ w_Hist cs h a u.2.2.1 ++ linesW cs a 18 u.2.2.2)) (va_A (w_Xo cs x tq h a S ++ w_Text cs tq tx ++ w_Hist cs h a hs ++ linesW cs a 18 Ls) sz)) 2 12 (va_A (w_Xo cs x tq h a S ++ w_Text cs tq tx ++ w_Hist cs h a hs ++ linesW cs a 18 Ls) sz) := by
  refine vx_ofW (cc := cX3_restore) (maxL := 2) (ret := (some .int)) (by decide) rfl ?_
  intro p e s m args below meth c s₁ B hml hT0 hv
  obtain ⟨rfl, ⟨hsz, hP, hKK, hD0⟩, hTW, hTZ⟩ := hv
  have hC : MAt p s m _ meth c RX3 cX3_restore 2 (some .int) wsX3_restore D cs := ⟨B.exec, B.bytes, B.returns, hml, findClass_of_methodNamed B.named, atoms_spec (ws := wsX3_restore) B.pre, B.notSynchronized, hKK⟩
  have hl := lv_entry ([.ref (x 0), .int x1]) (n := 2) (Nat.le_of_ble_eq_true rfl)
  rw [lg_entry_eq]
  generalize (lg_sl ([.ref (x 0), .int x1]) ++ List.replicate (2 - (lg_sl ([.ref (x 0), .int x1])).length) Slot.unset).toArray = ls at hl ⊢
  subst hsz
  have hD := hD0.self (sz := s.heap.size)
  have hA : ∀ z : Nat, s.heap.size ≤ z → va_A (w_Xo cs x tq h a S ++ w_Text cs tq tx ++ w_Hist cs h a hs ++ linesW cs a 18 Ls) s.heap.size z := fun z h => Or.inr h
  exact t_X3_restore hC hfl hT0 hTW hTZ x tq h a S tx hs Ls x1 Q QX hA hw s.heap [] hP hD va_S.rf ls hl

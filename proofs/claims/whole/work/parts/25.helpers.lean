set_option maxHeartbeats 4000000 in
set_option maxRecDepth 100000 in
theorem t_L_append {p : Program} {l : Launch} {e : Env} {s : State} {m : MethodId} {args : Array Value} {below : List Frame} {meth : Method} {c : Code} {D : va_G} {cs : Nat → ClassId} {A : Nat → Prop} (hC : MAt p s m args meth c RL cL_append 4 (some .int) wsL_append D cs) (hfl : l.stackTraces = false) (hTab : c.exceptionTable.toList = tableOf [(0, 9, 12, 13), (0, 9, 15, 15)]) {sa : Nat → Nat} (hTW : TW sa s) (hTZ : TZ A s s.heap) (o : Nat) (x : Nat → Nat) (tq : Nat → Nat) (h : Nat → Nat) (a : Nat → Nat → Nat) (f : (Nat → Int64)) (S : XO) (tx : TS) (hs : HS) (Ls : (Nat → LnS)) (x1 : Int32) (Q : Int32 → (Nat → Int64) → XO → TS → HS → (Nat → LnS) → Prop) (hA : ∀ q : Nat, s.heap.size ≤ q → A q) (hw : wp_L_append f S tx hs Ls x1 Q) (H : Heap) (locs : List Loc) (hP : va_P D vwCl (w_Out cs o f ++ w_Xo cs x tq h a S ++ w_Text cs tq tx ++ w_Hist cs h a hs ++ linesW cs a 18 Ls) H) (hD : va_D A (w_Out cs o f ++ w_Xo cs x tq h a S ++ w_Text cs tq tx ++ w_Hist cs h a hs ++ linesW cs a 18 Ls)) (hS : va_S A s.heap H locs) (ls : Array Slot) (hl : lv_has ls 4 [(0, .ref (x 0)), (1, .int x1), (2, .ref o)]) : W p l e ({ frames := 8, cells := 2, slots := 12, locals := 125 } : Room) s m args below meth c H locs 0 0 (vx_MQ below (va_Qi (fun r (u : (Nat → Int64) × XO × TS × HS × (Nat → LnS)) => Q r u.1 u.2.1 u.2.2.1 u.2.2.2.1 u.2.2.2.2) (fun (u : (Nat → Int64) × XO × TS × HS × (Nat → LnS)) t => va_P D vwCl (w_Out cs o u.1 ++ w_Xo cs x tq h a u.2.1 ++ w_Text cs tq u.2.2.1 ++ w_Hist cs h a u.2.2.2.1 ++ linesW cs a 18 u.2.2.2.2) t.heap ∧ va_D A (w_Out cs o u.1 ++ w_Xo cs x tq h a u.2.1 ++ w_Text cs tq u.2.2.1 ++ w_Hist cs h a u.2.2.2.1 ++ linesW cs a 18 u.2.2.2.2)) A) (vx_X (fun (_ : Unit) => False) (fun _ _ _ => True) A) args s 2 12 A) (F0 m 0 ls []) := by
  obtain ⟨hx, hb, hr, hml, hown, hts, hlocks, hKK⟩ := id hC
  have hK := hKK.1
  refine lv_aload_n hx hb dL_append_0 rfl (lv_at hl 2 rfl) ?_
  refine lv_iconst (v := (0 : Int32)) hx hb dL_append_1 (by decide) ?_
  refine lv_aload_n hx hb dL_append_2 rfl (lv_at hl 0 rfl) ?_
  refine lv_iload_n hx hb dL_append_3 rfl (lv_at hl 1 rfl) ?_
  have hPx := z_perm_P z_out hP
  have hDx := z_perm_D z_out hD
  have hPc := (z_app_P hPx).1
  have hDc := (z_app_D hDx).1
  have hFc := z_free hDx hS hA
  refine vx_calli (vx_runV (As := [.int x1]) (rest := [.int (0 : Int32), .ref o]) ⟨hx, hb, hml, hown, hts⟩ (c_X3_append l hfl D cs x tq h a H.size sa S tx hs Ls x1 _ _ hw) (cwV 1 hts gL_append_X3_append rfl rfl rfl (by decide +kernel) ⟨Nat.le_of_ble_eq_true rfl, Nat.le_of_ble_eq_true rfl⟩) (PX_V hPc hDc hKK hTW hTZ hS hFc 0 3 rfl rfl) rfl rfl hl.1 rfl (lv_room (Nat.le_of_ble_eq_true rfl)) dL_append_4 ⟨Nat.le_of_ble_eq_true rfl, Nat.le_of_ble_eq_true rfl⟩) hS (fun q _ h => hFc q h) hFc (fun q _ h => hFc q h) ?_ (fun r1 u1 t H locs ht hvm hw hB hz1 hk1 hS => ?_)
  · intro E ce q9 u1 t H locs ht hvm hpx hB hz1 hk1 hS hq9 hce hcl
    obtain ⟨u1_0, u1_1, u1_2, u1_3⟩ := u1
    obtain ⟨hw, hP1, hD1⟩ := hB
    rw [ht] at hP1
    obtain ⟨hPx, hDx⟩ := z_join hPx hDx hk1 hFc hP1 hD1
    have hP : va_P D vwCl (w_Out cs o f ++ w_Xo cs x tq h a u1_0 ++ w_Text cs tq u1_1 ++ w_Hist cs h a u1_2 ++ linesW cs a 18 u1_3) H := z_perm_P z_outb hPx
    have hD : va_D A (w_Out cs o f ++ w_Xo cs x tq h a u1_0 ++ w_Text cs tq u1_1 ++ w_Hist cs h a u1_2 ++ linesW cs a 18 u1_3) := z_perm_D z_outb hDx
    obtain ⟨hor, hw⟩ := hw
    rcases hor with rfl | rfl
    · have hw := hw.1 rfl
      refine vx_catch (name := eIAE) hown [] ⟨0, 9, 12, 13⟩ [⟨0, 9, 15, 15⟩] (by rw [hTab]; rfl) (fun _ h => nomatch h) rfl (by decide) (z_w hts 1 rfl) (va_Nw.use rfl hTW.2.2.1) hq9 hce hcl ?_
      refine W.eq (g2 := F0 m 12 ls [.ref q9]) rfl ?_
      refine lv_astore_n (lv' := [(3, .ref q9), (0, .ref (x 0)), (1, .int x1), (2, .ref o)]) hx hb dL_append_12 rfl hl (by decide) rfl (fun ls hl => ?_)
      refine lv_iconst (v := (1 : Int32)) hx hb dL_append_13 (by decide) ?_
      refine W.widen (k := 2) (n := 12) (Nat.le_of_ble_eq_true rfl) (Nat.le_of_ble_eq_true rfl) (vx_ret ?_)
      exact W.iret (v := (1 : Int32)) hx hb hr (fun t ht hW => ⟨⟨(1 : Int32), (f, u1_0, u1_1, u1_2, u1_3), rfl, hw, by rw [ht]; exact hP, hD⟩, hS.F ht⟩) hS.2.2 dL_append_14 hlocks
    · have hw := hw.2 rfl
      refine vx_catch (name := eISE) hown [⟨0, 9, 12, 13⟩] ⟨0, 9, 15, 15⟩ [] (by rw [hTab]; rfl) (List.forall_mem_cons.mpr ⟨Or.inr ⟨by decide, _, z_w hts 1 rfl, hTW.2.2.2.2.1⟩, (fun _ h => nomatch h)⟩) rfl (by decide) (z_w hts 2 rfl) (va_Nw.use rfl hTW.2.1) hq9 hce hcl ?_
      refine W.eq (g2 := F0 m 15 ls [.ref q9]) rfl ?_
      refine lv_astore_n (lv' := [(3, .ref q9), (0, .ref (x 0)), (1, .int x1), (2, .ref o)]) hx hb dL_append_15 rfl hl (by decide) rfl (fun ls hl => ?_)
      refine lv_iconst (v := (2 : Int32)) hx hb dL_append_16 (by decide) ?_
      refine W.widen (k := 2) (n := 12) (Nat.le_of_ble_eq_true rfl) (Nat.le_of_ble_eq_true rfl) (vx_ret ?_)
      exact W.iret (v := (2 : Int32)) hx hb hr (fun t ht hW => ⟨⟨(2 : Int32), (f, u1_0, u1_1, u1_2, u1_3), rfl, hw, by rw [ht]; exact hP, hD⟩, hS.F ht⟩) hS.2.2 dL_append_17 hlocks
  obtain ⟨u1_0, u1_1, u1_2, u1_3⟩ := u1
  obtain ⟨hP1, hD1⟩ := hB
  rw [ht] at hP1
  obtain ⟨hPx, hDx⟩ := z_join hPx hDx hk1 hFc hP1 hD1
  have hP : va_P D vwCl (w_Out cs o f ++ w_Xo cs x tq h a u1_0 ++ w_Text cs tq u1_1 ++ w_Hist cs h a u1_2 ++ linesW cs a 18 u1_3) H := z_perm_P z_outb hPx
  have hD : va_D A (w_Out cs o f ++ w_Xo cs x tq h a u1_0 ++ w_Text cs tq u1_1 ++ w_Hist cs h a u1_2 ++ linesW cs a 18 u1_3) := z_perm_D z_outb hDx
  refine lv_i2l (v := r1.toInt64) hx hb dL_append_7 rfl ?_
  refine va_last hx hb hK hP hD hS 0 3 rfl rfl (show vp_in (0 : Int32) 1 by unfold vp_in; decide) dL_append_8 (fun H locs hP hD hS => ?_)
  have hP : va_P D vwCl (w_Out cs o (vp_updL f (0 : Int32).toNatClampNeg r1.toInt64) ++ w_Xo cs x tq h a u1_0 ++ w_Text cs tq u1_1 ++ w_Hist cs h a u1_2 ++ linesW cs a 18 u1_3) H := hP
  have hD : va_D A (w_Out cs o (vp_updL f (0 : Int32).toNatClampNeg r1.toInt64) ++ w_Xo cs x tq h a u1_0 ++ w_Text cs tq u1_1 ++ w_Hist cs h a u1_2 ++ linesW cs a 18 u1_3) := hD
  refine lv_goto (tgt := 18) hx hb dL_append_9 (by decide) ?_
  refine lv_iconst (v := (0 : Int32)) hx hb dL_append_18 (by decide) ?_
  refine W.widen (k := 2) (n := 12) (Nat.le_of_ble_eq_true rfl) (Nat.le_of_ble_eq_true rfl) (vx_ret ?_)
  exact W.iret (v := (0 : Int32)) hx hb hr (fun t ht hW => ⟨⟨(0 : Int32), (vp_updL f (0 : Int32).toNatClampNeg r1.toInt64, u1_0, u1_1, u1_2, u1_3), rfl, hw, by rw [ht]; exact hP, hD⟩, hS.F ht⟩) hS.2.2 dL_append_19 hlocks
set_option maxHeartbeats 4000000 in
set_option maxRecDepth 100000 in
theorem c_L_append (l : Launch) (hfl : l.stackTraces = false) (D : va_G) (cs : Nat → ClassId) (o : Nat) (x : Nat → Nat) (tq : Nat → Nat) (h : Nat → Nat) (a : Nat → Nat → Nat) (sz : Nat) (sa : Nat → Nat) (f : (Nat → Int64)) (S : XO) (tx : TS) (hs : HS) (Ls : (Nat → LnS)) (x1 : Int32) (Q : Int32 → (Nat → Int64) → XO → TS → HS → (Nat → LnS) → Prop) (hw : wp_L_append f S tx hs Ls x1 Q) : vx_Met l yL_append wsL_append ({ frames := 8, cells := 2, slots := 12, locals := 125 } : Room) (va_Pc [.ref (x 0), .int x1, .ref o] (PX D cs (w_Out cs o f ++ w_Xo cs x tq h a S ++ w_Text cs tq tx ++ w_Hist cs h a hs ++ linesW cs a 18 Ls) sa sz)) (va_Qi (fun r (u : (Nat → Int64) × XO × TS × HS × (Nat → LnS)) => Q r u.1 u.2.1 u.2.2.1 u.2.2.2.1 u.2.2.2.2) (fun (u : (Nat → Int64) × XO × TS × HS × (Nat → LnS)) t => va_P D vwCl (w_Out cs o u.1 ++ w_Xo cs x tq h a u.2.1 ++ w_Text cs tq u.2.2.1 ++ w_Hist cs h a u.2.2.2.1 ++ linesW cs a 18 u.2.2.2.2) t.heap ∧ va_D (va_A (w_Out cs o f ++ w_Xo cs x tq h a S ++ w_Text cs tq tx ++ w_Hist cs h a hs ++ linesW cs a 18 Ls) sz) (w_Out cs o u.1 ++ w_Xo cs x tq h a u.2.1 ++ w_Text cs tq u.2.2.1 ++ w_Hist cs h a u.2.2.2.1 ++ linesW cs a 18 u.2.2.2.2)) (va_A (w_Out cs o f ++ w_Xo cs x tq h a S ++ w_Text cs tq tx ++ w_Hist cs h a hs ++ linesW cs a 18 Ls) sz)) (vx_X (fun (_ : Unit) => False) (fun _ _ _ => True) (va_A (w_Out cs o f ++ w_Xo cs x tq h a S ++ w_Text cs tq tx ++ w_Hist cs h a hs ++ linesW cs a 18 Ls) sz)) 2 12 (va_A (w_Out cs o f ++ w_Xo cs x tq h a S ++ w_Text cs tq tx ++ w_Hist cs h a hs ++ linesW cs a 18 Ls) sz) := by
  refine vx_ofWH (cc := cL_append) (maxL := 4) (ret := (some .int)) (by decide) rfl ?_
  intro p e s m args below meth c s₁ B hml hv
  obtain ⟨rfl, ⟨hsz, hP, hKK, hD0⟩, hTW, hTZ⟩ := hv
  have hTab := vx_table (x := yL_append) B (atoms_spec (ws := wsL_append) B.pre _ List.mem_cons_self)
  have hC : MAt p s m _ meth c RL cL_append 4 (some .int) wsL_append D cs := ⟨B.exec, B.bytes, B.returns, hml, findClass_of_methodNamed B.named, atoms_spec (ws := wsL_append) B.pre, B.notSynchronized, hKK⟩
  have hl := lv_entry ([.ref (x 0), .int x1, .ref o]) (n := 4) (Nat.le_of_ble_eq_true rfl)
  rw [lg_entry_eq]
  generalize (lg_sl ([.ref (x 0), .int x1, .ref o]) ++ List.replicate (4 - (lg_sl ([.ref (x 0), .int x1, .ref o])).length) Slot.unset).toArray = ls at hl ⊢
  subst hsz
  have hD := hD0.self (sz := s.heap.size)
  have hA : ∀ z : Nat, s.heap.size ≤ z → va_A (w_Out cs o f ++ w_Xo cs x tq h a S ++ w_Text cs tq tx ++ w_Hist cs h a hs ++ linesW cs a 18 Ls) s.heap.size z := fun z h => Or.inr h
  exact t_L_append hC hfl hTab hTW hTZ o x tq h a f S tx hs Ls x1 Q hA hw s.heap [] hP hD va_S.rf ls hl
set_option maxHeartbeats 4000000 in
set_option maxRecDepth 100000 in
theorem t_L_load {p : Program} {l : Launch} {e : Env} {s : State} {m : MethodId} {args : Array Value} {below : List Frame} {meth : Method} {c : Code} {D : va_G} {cs : Nat → ClassId} {A : Nat → Prop} (hC : MAt p s m args meth c RL cL_load 3 (some .int) wsL_load D cs) (hfl : l.stackTraces = false) (hTab : c.exceptionTable.toList = tableOf [(0, 8, 11, 15)]) {sa : Nat → Nat} (hTW : TW sa s) (hTZ : TZ A s s.heap) (o : Nat) (x : Nat → Nat) (tq : Nat → Nat) (h : Nat → Nat) (a : Nat → Nat → Nat) (f : (Nat → Int64)) (S : XO) (tx : TS) (hs : HS) (Ls : (Nat → LnS)) (Q : Int32 → (Nat → Int64) → XO → TS → HS → (Nat → LnS) → Prop) (hA : ∀ q : Nat, s.heap.size ≤ q → A q) (hw : wp_L_load f S tx hs Ls Q) (H : Heap) (locs : List Loc) (hP : va_P D vwCl (w_Out cs o f ++ w_Xo cs x tq h a S ++ w_Text cs tq tx ++ w_Hist cs h a hs ++ linesW cs a 18 Ls) H) (hD : va_D A (w_Out cs o f ++ w_Xo cs x tq h a S ++ w_Text cs tq tx ++ w_Hist cs h a hs ++ linesW cs a 18 Ls)) (hS : va_S A s.heap H locs) (ls : Array Slot) (hl : lv_has ls 3 [(0, .ref (x 0)), (1, .ref o)]) : W p l e ({ frames := 7, cells := 1, slots := 6, locals := 103 } : Room) s m args below meth c H locs 0 0 (vx_MQ below (va_Qi (fun r (u : (Nat → Int64) × XO × TS × HS × (Nat → LnS)) => Q r u.1 u.2.1 u.2.2.1 u.2.2.2.1 u.2.2.2.2) (fun (u : (Nat → Int64) × XO × TS × HS × (Nat → LnS)) t => va_P D vwCl (w_Out cs o u.1 ++ w_Xo cs x tq h a u.2.1 ++ w_Text cs tq u.2.2.1 ++ w_Hist cs h a u.2.2.2.1 ++ linesW cs a 18 u.2.2.2.2) t.heap ∧ va_D A (w_Out cs o u.1 ++ w_Xo cs x tq h a u.2.1 ++ w_Text cs tq u.2.2.1 ++ w_Hist cs h a u.2.2.2.1 ++ linesW cs a 18 u.2.2.2.2)) A) (vx_X (fun (_ : Unit) => False) (fun _ _ _ => True) A) args s 1 6 A) (F0 m 0 ls []) := by
  obtain ⟨hx, hb, hr, hml, hown, hts, hlocks, hKK⟩ := id hC
  have hK := hKK.1
  refine lv_aload_n hx hb dL_load_0 rfl (lv_at hl 1 rfl) ?_
  refine lv_iconst (v := (0 : Int32)) hx hb dL_load_1 (by decide) ?_
  refine lv_aload_n hx hb dL_load_2 rfl (lv_at hl 0 rfl) ?_
  have hPx := z_perm_P z_out hP
  have hDx := z_perm_D z_out hD
  have hPc := (z_app_P hPx).1
  have hDc := (z_app_D hDx).1
  have hFc := z_free hDx hS hA
  refine vx_calli (vx_runV (As := []) (rest := [.int (0 : Int32), .ref o]) ⟨hx, hb, hml, hown, hts⟩ (c_X3_load l hfl D cs x tq h a H.size sa S tx hs Ls _ _ hw) (cwV 0 hts gL_load_X3_load rfl rfl rfl (by decide +kernel) ⟨Nat.le_of_ble_eq_true rfl, Nat.le_of_ble_eq_true rfl⟩) (PX_V hPc hDc hKK hTW hTZ hS hFc 0 3 rfl rfl) rfl rfl hl.1 rfl (lv_room (Nat.le_of_ble_eq_true rfl)) dL_load_3 ⟨Nat.le_of_ble_eq_true rfl, Nat.le_of_ble_eq_true rfl⟩) hS (fun q _ h => hFc q h) hFc (fun q _ h => hFc q h) ?_ (fun r1 u1 t H locs ht hvm hw hB hz1 hk1 hS => ?_)
  · intro E ce q9 u1 t H locs ht hvm hpx hB hz1 hk1 hS hq9 hce hcl
    obtain ⟨u1_0, u1_1, u1_2, u1_3⟩ := u1
    obtain ⟨hw, hP1, hD1⟩ := hB
    rw [ht] at hP1
    obtain ⟨hPx, hDx⟩ := z_join hPx hDx hk1 hFc hP1 hD1
    have hP : va_P D vwCl (w_Out cs o f ++ w_Xo cs x tq h a u1_0 ++ w_Text cs tq u1_1 ++ w_Hist cs h a u1_2 ++ linesW cs a 18 u1_3) H := z_perm_P z_outb hPx
    have hD : va_D A (w_Out cs o f ++ w_Xo cs x tq h a u1_0 ++ w_Text cs tq u1_1 ++ w_Hist cs h a u1_2 ++ linesW cs a 18 u1_3) := z_perm_D z_outb hDx
    obtain ⟨hor, hw⟩ := hw
    subst hor
    · have hw := hw rfl
      refine vx_catch (name := eISE) hown [] ⟨0, 8, 11, 15⟩ [] (by rw [hTab]; rfl) (fun _ h => nomatch h) rfl (by decide) (z_w hts 1 rfl) (va_Nw.use rfl hTW.2.1) hq9 hce hcl ?_
      refine W.eq (g2 := F0 m 11 ls [.ref q9]) rfl ?_
      refine lv_astore_n (lv' := [(2, .ref q9), (0, .ref (x 0)), (1, .ref o)]) hx hb dL_load_11 rfl hl (by decide) rfl (fun ls hl => ?_)
      refine lv_iconst (v := (1 : Int32)) hx hb dL_load_12 (by decide) ?_
      refine W.widen (k := 1) (n := 6) (Nat.le_of_ble_eq_true rfl) (Nat.le_of_ble_eq_true rfl) (vx_ret ?_)
      exact W.iret (v := (1 : Int32)) hx hb hr (fun t ht hW => ⟨⟨(1 : Int32), (f, u1_0, u1_1, u1_2, u1_3), rfl, hw, by rw [ht]; exact hP, hD⟩, hS.F ht⟩) hS.2.2 dL_load_13 hlocks
  obtain ⟨u1_0, u1_1, u1_2, u1_3⟩ := u1
  obtain ⟨hP1, hD1⟩ := hB
  rw [ht] at hP1
  obtain ⟨hPx, hDx⟩ := z_join hPx hDx hk1 hFc hP1 hD1
  have hP : va_P D vwCl (w_Out cs o f ++ w_Xo cs x tq h a u1_0 ++ w_Text cs tq u1_1 ++ w_Hist cs h a u1_2 ++ linesW cs a 18 u1_3) H := z_perm_P z_outb hPx
  have hD : va_D A (w_Out cs o f ++ w_Xo cs x tq h a u1_0 ++ w_Text cs tq u1_1 ++ w_Hist cs h a u1_2 ++ linesW cs a 18 u1_3) := z_perm_D z_outb hDx
  refine lv_i2l (v := r1.toInt64) hx hb dL_load_6 rfl ?_
  refine va_last hx hb hK hP hD hS 0 3 rfl rfl (show vp_in (0 : Int32) 1 by unfold vp_in; decide) dL_load_7 (fun H locs hP hD hS => ?_)
  have hP : va_P D vwCl (w_Out cs o (vp_updL f (0 : Int32).toNatClampNeg r1.toInt64) ++ w_Xo cs x tq h a u1_0 ++ w_Text cs tq u1_1 ++ w_Hist cs h a u1_2 ++ linesW cs a 18 u1_3) H := hP
  have hD : va_D A (w_Out cs o (vp_updL f (0 : Int32).toNatClampNeg r1.toInt64) ++ w_Xo cs x tq h a u1_0 ++ w_Text cs tq u1_1 ++ w_Hist cs h a u1_2 ++ linesW cs a 18 u1_3) := hD
  refine lv_goto (tgt := 14) hx hb dL_load_8 (by decide) ?_
  refine lv_iconst (v := (0 : Int32)) hx hb dL_load_14 (by decide) ?_
  refine W.widen (k := 1) (n := 6) (Nat.le_of_ble_eq_true rfl) (Nat.le_of_ble_eq_true rfl) (vx_ret ?_)
  exact W.iret (v := (0 : Int32)) hx hb hr (fun t ht hW => ⟨⟨(0 : Int32), (vp_updL f (0 : Int32).toNatClampNeg r1.toInt64, u1_0, u1_1, u1_2, u1_3), rfl, hw, by rw [ht]; exact hP, hD⟩, hS.F ht⟩) hS.2.2 dL_load_15 hlocks
set_option maxHeartbeats 4000000 in
set_option maxRecDepth 100000 in
theorem c_L_load (l : Launch) (hfl : l.stackTraces = false) (D : va_G) (cs : Nat → ClassId) (o : Nat) (x : Nat → Nat) (tq : Nat → Nat) (h : Nat → Nat) (a : Nat → Nat → Nat) (sz : Nat) (sa : Nat → Nat) (f : (Nat → Int64)) (S : XO) (tx : TS) (hs : HS) (Ls : (Nat → LnS)) (Q : Int32 → (Nat → Int64) → XO → TS → HS → (Nat → LnS) → Prop) (hw : wp_L_load f S tx hs Ls Q) : vx_Met l yL_load wsL_load ({ frames := 7, cells := 1, slots := 6, locals := 103 } : Room) (va_Pc [.ref (x 0), .ref o] (PX D cs (w_Out cs o f ++ w_Xo cs x tq h a S ++ w_Text cs tq tx ++ w_Hist cs h a hs ++ linesW cs a 18 Ls) sa sz)) (va_Qi (fun r (u : (Nat → Int64) × XO × TS × HS × (Nat → LnS)) => Q r u.1 u.2.1 u.2.2.1 u.2.2.2.1 u.2.2.2.2) (fun (u : (Nat → Int64) × XO × TS × HS × (Nat → LnS)) t => va_P D vwCl (w_Out cs o u.1 ++ w_Xo cs x tq h a u.2.1 ++ w_Text cs tq u.2.2.1 ++ w_Hist cs h a u.2.2.2.1 ++ linesW cs a 18 u.2.2.2.2) t.heap ∧ va_D (va_A (w_Out cs o f ++ w_Xo cs x tq h a S ++ w_Text cs tq tx ++ w_Hist cs h a hs ++ linesW cs a 18 Ls) sz) (w_Out cs o u.1 ++ w_Xo cs x tq h a u.2.1 ++ w_Text cs tq u.2.2.1 ++ w_Hist cs h a u.2.2.2.1 ++ linesW cs a 18 u.2.2.2.2)) (va_A (w_Out cs o f ++ w_Xo cs x tq h a S ++ w_Text cs tq tx ++ w_Hist cs h a hs ++ linesW cs a 18 Ls) sz)) (vx_X (fun (_ : Unit) => False) (fun _ _ _ => True) (va_A (w_Out cs o f ++ w_Xo cs x tq h a S ++ w_Text cs tq tx ++ w_Hist cs h a hs ++ linesW cs a 18 Ls) sz)) 1 6 (va_A (w_Out cs o f ++ w_Xo cs x tq h a S ++ w_Text cs tq tx ++ w_Hist cs h a hs ++ linesW cs a 18 Ls) sz) := by
  refine vx_ofWH (cc := cL_load) (maxL := 3) (ret := (some .int)) (by decide) rfl ?_
  intro p e s m args below meth c s₁ B hml hv
  obtain ⟨rfl, ⟨hsz, hP, hKK, hD0⟩, hTW, hTZ⟩ := hv
  have hTab := vx_table (x := yL_load) B (atoms_spec (ws := wsL_load) B.pre _ List.mem_cons_self)
  have hC : MAt p s m _ meth c RL cL_load 3 (some .int) wsL_load D cs := ⟨B.exec, B.bytes, B.returns, hml, findClass_of_methodNamed B.named, atoms_spec (ws := wsL_load) B.pre, B.notSynchronized, hKK⟩
  have hl := lv_entry ([.ref (x 0), .ref o]) (n := 3) (Nat.le_of_ble_eq_true rfl)
  rw [lg_entry_eq]
  generalize (lg_sl ([.ref (x 0), .ref o]) ++ List.replicate (3 - (lg_sl ([.ref (x 0), .ref o])).length) Slot.unset).toArray = ls at hl ⊢
  subst hsz
  have hD := hD0.self (sz := s.heap.size)
  have hA : ∀ z : Nat, s.heap.size ≤ z → va_A (w_Out cs o f ++ w_Xo cs x tq h a S ++ w_Text cs tq tx ++ w_Hist cs h a hs ++ linesW cs a 18 Ls) s.heap.size z := fun z h => Or.inr h
  exact t_L_load hC hfl hTab hTW hTZ o x tq h a f S tx hs Ls Q hA hw s.heap [] hP hD va_S.rf ls hl
set_option maxHeartbeats 4000000 in
set_option maxRecDepth 100000 in
theorem t_L_about {p : Program} {l : Launch} {e : Env} {s : State} {m : MethodId} {args : Array Value} {below : List Frame} {meth : Method} {c : Code} {D : va_G} {cs : Nat → ClassId} {A : Nat → Prop} (hC : MAt p s m args meth c RL cL_about 4 (some .int) wsL_about D cs) (hfl : l.stackTraces = false) (hTab : c.exceptionTable.toList = tableOf [(0, 9, 12, 13)]) {sa : Nat → Nat} (hTW : TW sa s) (hTZ : TZ A s s.heap) (o : Nat) (x : Nat → Nat) (tq : Nat → Nat) (h : Nat → Nat) (a : Nat → Nat → Nat) (f : (Nat → Int64)) (S : XO) (tx : TS) (hs : HS) (Ls : (Nat → LnS)) (x1 : Int32) (Q : Int32 → (Nat → Int64) → XO → TS → HS → (Nat → LnS) → Prop) (hA : ∀ q : Nat, s.heap.size ≤ q → A q) (hw : wp_L_about f S tx hs Ls x1 Q) (H : Heap) (locs : List Loc) (hP : va_P D vwCl (w_Out cs o f ++ w_Xo cs x tq h a S ++ w_Text cs tq tx ++ w_Hist cs h a hs ++ linesW cs a 18 Ls) H) (hD : va_D A (w_Out cs o f ++ w_Xo cs x tq h a S ++ w_Text cs tq tx ++ w_Hist cs h a hs ++ linesW cs a 18 Ls)) (hS : va_S A s.heap H locs) (ls : Array Slot) (hl : lv_has ls 4 [(0, .ref (x 0)), (1, .int x1), (2, .ref o)]) : W p l e ({ frames := 8, cells := 1, slots := 6, locals := 125 } : Room) s m args below meth c H locs 0 0 (vx_MQ below (va_Qi (fun r (u : (Nat → Int64) × XO × TS × HS × (Nat → LnS)) => Q r u.1 u.2.1 u.2.2.1 u.2.2.2.1 u.2.2.2.2) (fun (u : (Nat → Int64) × XO × TS × HS × (Nat → LnS)) t => va_P D vwCl (w_Out cs o u.1 ++ w_Xo cs x tq h a u.2.1 ++ w_Text cs tq u.2.2.1 ++ w_Hist cs h a u.2.2.2.1 ++ linesW cs a 18 u.2.2.2.2) t.heap ∧ va_D A (w_Out cs o u.1 ++ w_Xo cs x tq h a u.2.1 ++ w_Text cs tq u.2.2.1 ++ w_Hist cs h a u.2.2.2.1 ++ linesW cs a 18 u.2.2.2.2)) A) (vx_X (fun (_ : Unit) => False) (fun _ _ _ => True) A) args s 1 6 A) (F0 m 0 ls []) := by
  obtain ⟨hx, hb, hr, hml, hown, hts, hlocks, hKK⟩ := id hC
  have hK := hKK.1
  refine lv_aload_n hx hb dL_about_0 rfl (lv_at hl 2 rfl) ?_
  refine lv_iconst (v := (0 : Int32)) hx hb dL_about_1 (by decide) ?_
  refine lv_aload_n hx hb dL_about_2 rfl (lv_at hl 0 rfl) ?_
  refine lv_iload_n hx hb dL_about_3 rfl (lv_at hl 1 rfl) ?_
  have hPx := z_perm_P z_out hP
  have hDx := z_perm_D z_out hD
  have hPc := (z_app_P hPx).1
  have hDc := (z_app_D hDx).1
  have hFc := z_free hDx hS hA
  refine vx_calli (vx_runV (As := [.int x1]) (rest := [.int (0 : Int32), .ref o]) ⟨hx, hb, hml, hown, hts⟩ (c_X3_about l hfl D cs x tq h a H.size sa S tx hs Ls x1 _ _ hw) (cwV 1 hts gL_about_X3_about rfl rfl rfl (by decide +kernel) ⟨Nat.le_of_ble_eq_true rfl, Nat.le_of_ble_eq_true rfl⟩) (PX_V hPc hDc hKK hTW hTZ hS hFc 0 3 rfl rfl) rfl rfl hl.1 rfl (lv_room (Nat.le_of_ble_eq_true rfl)) dL_about_4 ⟨Nat.le_of_ble_eq_true rfl, Nat.le_of_ble_eq_true rfl⟩) hS (fun q _ h => hFc q h) hFc (fun q _ h => hFc q h) ?_ (fun r1 u1 t H locs ht hvm hw hB hz1 hk1 hS => ?_)
  · intro E ce q9 u1 t H locs ht hvm hpx hB hz1 hk1 hS hq9 hce hcl
    obtain ⟨u1_0, u1_1, u1_2, u1_3⟩ := u1
    obtain ⟨hw, hP1, hD1⟩ := hB
    rw [ht] at hP1
    obtain ⟨hPx, hDx⟩ := z_join hPx hDx hk1 hFc hP1 hD1
    have hP : va_P D vwCl (w_Out cs o f ++ w_Xo cs x tq h a u1_0 ++ w_Text cs tq u1_1 ++ w_Hist cs h a u1_2 ++ linesW cs a 18 u1_3) H := z_perm_P z_outb hPx
    have hD : va_D A (w_Out cs o f ++ w_Xo cs x tq h a u1_0 ++ w_Text cs tq u1_1 ++ w_Hist cs h a u1_2 ++ linesW cs a 18 u1_3) := z_perm_D z_outb hDx
    obtain ⟨hor, hw⟩ := hw
    subst hor
    · have hw := hw rfl
      refine vx_catch (name := eIAE) hown [] ⟨0, 9, 12, 13⟩ [] (by rw [hTab]; rfl) (fun _ h => nomatch h) rfl (by decide) (z_w hts 1 rfl) (va_Nw.use rfl hTW.2.2.1) hq9 hce hcl ?_
      refine W.eq (g2 := F0 m 12 ls [.ref q9]) rfl ?_
      refine lv_astore_n (lv' := [(3, .ref q9), (0, .ref (x 0)), (1, .int x1), (2, .ref o)]) hx hb dL_about_12 rfl hl (by decide) rfl (fun ls hl => ?_)
      refine lv_iconst (v := (1 : Int32)) hx hb dL_about_13 (by decide) ?_
      refine W.widen (k := 1) (n := 6) (Nat.le_of_ble_eq_true rfl) (Nat.le_of_ble_eq_true rfl) (vx_ret ?_)
      exact W.iret (v := (1 : Int32)) hx hb hr (fun t ht hW => ⟨⟨(1 : Int32), (f, u1_0, u1_1, u1_2, u1_3), rfl, hw, by rw [ht]; exact hP, hD⟩, hS.F ht⟩) hS.2.2 dL_about_14 hlocks
  obtain ⟨u1_0, u1_1, u1_2, u1_3⟩ := u1
  obtain ⟨hP1, hD1⟩ := hB
  rw [ht] at hP1
  obtain ⟨hPx, hDx⟩ := z_join hPx hDx hk1 hFc hP1 hD1
  have hP : va_P D vwCl (w_Out cs o f ++ w_Xo cs x tq h a u1_0 ++ w_Text cs tq u1_1 ++ w_Hist cs h a u1_2 ++ linesW cs a 18 u1_3) H := z_perm_P z_outb hPx
  have hD : va_D A (w_Out cs o f ++ w_Xo cs x tq h a u1_0 ++ w_Text cs tq u1_1 ++ w_Hist cs h a u1_2 ++ linesW cs a 18 u1_3) := z_perm_D z_outb hDx
  refine lv_i2l (v := r1.toInt64) hx hb dL_about_7 rfl ?_
  refine va_last hx hb hK hP hD hS 0 3 rfl rfl (show vp_in (0 : Int32) 1 by unfold vp_in; decide) dL_about_8 (fun H locs hP hD hS => ?_)
  have hP : va_P D vwCl (w_Out cs o (vp_updL f (0 : Int32).toNatClampNeg r1.toInt64) ++ w_Xo cs x tq h a u1_0 ++ w_Text cs tq u1_1 ++ w_Hist cs h a u1_2 ++ linesW cs a 18 u1_3) H := hP
  have hD : va_D A (w_Out cs o (vp_updL f (0 : Int32).toNatClampNeg r1.toInt64) ++ w_Xo cs x tq h a u1_0 ++ w_Text cs tq u1_1 ++ w_Hist cs h a u1_2 ++ linesW cs a 18 u1_3) := hD
  refine lv_goto (tgt := 15) hx hb dL_about_9 (by decide) ?_
  refine lv_iconst (v := (0 : Int32)) hx hb dL_about_15 (by decide) ?_
  refine W.widen (k := 1) (n := 6) (Nat.le_of_ble_eq_true rfl) (Nat.le_of_ble_eq_true rfl) (vx_ret ?_)
  exact W.iret (v := (0 : Int32)) hx hb hr (fun t ht hW => ⟨⟨(0 : Int32), (vp_updL f (0 : Int32).toNatClampNeg r1.toInt64, u1_0, u1_1, u1_2, u1_3), rfl, hw, by rw [ht]; exact hP, hD⟩, hS.F ht⟩) hS.2.2 dL_about_16 hlocks
set_option maxHeartbeats 4000000 in
set_option maxRecDepth 100000 in
theorem c_L_about (l : Launch) (hfl : l.stackTraces = false) (D : va_G) (cs : Nat → ClassId) (o : Nat) (x : Nat → Nat) (tq : Nat → Nat) (h : Nat → Nat) (a : Nat → Nat → Nat) (sz : Nat) (sa : Nat → Nat) (f : (Nat → Int64)) (S : XO) (tx : TS) (hs : HS) (Ls : (Nat → LnS)) (x1 : Int32) (Q : Int32 → (Nat → Int64) → XO → TS → HS → (Nat → LnS) → Prop) (hw : wp_L_about f S tx hs Ls x1 Q) : vx_Met l yL_about wsL_about ({ frames := 8, cells := 1, slots := 6, locals := 125 } : Room) (va_Pc [.ref (x 0), .int x1, .ref o] (PX D cs (w_Out cs o f ++ w_Xo cs x tq h a S ++ w_Text cs tq tx ++ w_Hist cs h a hs ++ linesW cs a 18 Ls) sa sz)) (va_Qi (fun r (u : (Nat → Int64) × XO × TS × HS × (Nat → LnS)) => Q r u.1 u.2.1 u.2.2.1 u.2.2.2.1 u.2.2.2.2) (fun (u : (Nat → Int64) × XO × TS × HS × (Nat → LnS)) t => va_P D vwCl (w_Out cs o u.1 ++ w_Xo cs x tq h a u.2.1 ++ w_Text cs tq u.2.2.1 ++ w_Hist cs h a u.2.2.2.1 ++ linesW cs a 18 u.2.2.2.2) t.heap ∧ va_D (va_A (w_Out cs o f ++ w_Xo cs x tq h a S ++ w_Text cs tq tx ++ w_Hist cs h a hs ++ linesW cs a 18 Ls) sz) (w_Out cs o u.1 ++ w_Xo cs x tq h a u.2.1 ++ w_Text cs tq u.2.2.1 ++ w_Hist cs h a u.2.2.2.1 ++ linesW cs a 18 u.2.2.2.2)) (va_A (w_Out cs o f ++ w_Xo cs x tq h a S ++ w_Text cs tq tx ++ w_Hist cs h a hs ++ linesW cs a 18 Ls) sz)) (vx_X (fun (_ : Unit) => False) (fun _ _ _ => True) (va_A (w_Out cs o f ++ w_Xo cs x tq h a S ++ w_Text cs tq tx ++ w_Hist cs h a hs ++ linesW cs a 18 Ls) sz)) 1 6 (va_A (w_Out cs o f ++ w_Xo cs x tq h a S ++ w_Text cs tq tx ++ w_Hist cs h a hs ++ linesW cs a 18 Ls) sz) := by
  refine vx_ofWH (cc := cL_about) (maxL := 4) (ret := (some .int)) (by decide) rfl ?_
  intro p e s m args below meth c s₁ B hml hv
  obtain ⟨rfl, ⟨hsz, hP, hKK, hD0⟩, hTW, hTZ⟩ := hv
  have hTab := vx_table (x := yL_about) B (atoms_spec (ws := wsL_about) B.pre _ List.mem_cons_self)
  have hC : MAt p s m _ meth c RL cL_about 4 (some .int) wsL_about D cs := ⟨B.exec, B.bytes, B.returns, hml, findClass_of_methodNamed B.named, atoms_spec (ws := wsL_about) B.pre, B.notSynchronized, hKK⟩
  have hl := lv_entry ([.ref (x 0), .int x1, .ref o]) (n := 4) (Nat.le_of_ble_eq_true rfl)
  rw [lg_entry_eq]
  generalize (lg_sl ([.ref (x 0), .int x1, .ref o]) ++ List.replicate (4 - (lg_sl ([.ref (x 0), .int x1, .ref o])).length) Slot.unset).toArray = ls at hl ⊢
  subst hsz
  have hD := hD0.self (sz := s.heap.size)
  have hA : ∀ z : Nat, s.heap.size ≤ z → va_A (w_Out cs o f ++ w_Xo cs x tq h a S ++ w_Text cs tq tx ++ w_Hist cs h a hs ++ linesW cs a 18 Ls) s.heap.size z := fun z h => Or.inr h
  exact t_L_about hC hfl hTab hTW hTZ o x tq h a f S tx hs Ls x1 Q hA hw s.heap [] hP hD va_S.rf ls hl
set_option maxHeartbeats 4000000 in
set_option maxRecDepth 100000 in
theorem t_L_shown {p : Program} {l : Launch} {e : Env} {s : State} {m : MethodId} {args : Array Value} {below : List Frame} {meth : Method} {c : Code} {D : va_G} {cs : Nat → ClassId} {A : Nat → Prop} (hC : MAt p s m args meth c RL cL_shown 4 (some .int) wsL_shown D cs) (hfl : l.stackTraces = false) (hTab : c.exceptionTable.toList = tableOf [(0, 9, 12, 27)]) {sa : Nat → Nat} (hTW : TW sa s) (hTZ : TZ A s s.heap) (o : Nat) (x : Nat → Nat) (tq : Nat → Nat) (h : Nat → Nat) (a : Nat → Nat → Nat) (f : (Nat → Int64)) (S : XO) (tx : TS) (hs : HS) (Ls : (Nat → LnS)) (x1 : Int32) (Q : Int32 → (Nat → Int64) → XO → TS → HS → (Nat → LnS) → Prop) (hA : ∀ q : Nat, s.heap.size ≤ q → A q) (hw : wp_L_shown f S tx hs Ls x1 Q) (H : Heap) (locs : List Loc) (hP : va_P D vwCl (w_Out cs o f ++ w_Xo cs x tq h a S ++ w_Text cs tq tx ++ w_Hist cs h a hs ++ linesW cs a 18 Ls) H) (hD : va_D A (w_Out cs o f ++ w_Xo cs x tq h a S ++ w_Text cs tq tx ++ w_Hist cs h a hs ++ linesW cs a 18 Ls)) (hS : va_S A s.heap H locs) (ls : Array Slot) (hl : lv_has ls 4 [(0, .ref (x 0)), (1, .int x1), (2, .ref o)]) : W p l e ({ frames := 8, cells := 1, slots := 6, locals := 124 } : Room) s m args below meth c H locs 0 0 (vx_MQ below (va_Qi (fun r (u : (Nat → Int64) × XO × TS × HS × (Nat → LnS)) => Q r u.1 u.2.1 u.2.2.1 u.2.2.2.1 u.2.2.2.2) (fun (u : (Nat → Int64) × XO × TS × HS × (Nat → LnS)) t => va_P D vwCl (w_Out cs o u.1 ++ w_Xo cs x tq h a u.2.1 ++ w_Text cs tq u.2.2.1 ++ w_Hist cs h a u.2.2.2.1 ++ linesW cs a 18 u.2.2.2.2) t.heap ∧ va_D A (w_Out cs o u.1 ++ w_Xo cs x tq h a u.2.1 ++ w_Text cs tq u.2.2.1 ++ w_Hist cs h a u.2.2.2.1 ++ linesW cs a 18 u.2.2.2.2)) A) (vx_X (fun (_ : Unit) => False) (fun _ _ _ => True) A) args s 1 6 A) (F0 m 0 ls []) := by
  obtain ⟨hx, hb, hr, hml, hown, hts, hlocks, hKK⟩ := id hC
  have hK := hKK.1
  refine lv_aload_n hx hb dL_shown_0 rfl (lv_at hl 2 rfl) ?_
  refine lv_iconst (v := (0 : Int32)) hx hb dL_shown_1 (by decide) ?_
  refine lv_aload_n hx hb dL_shown_2 rfl (lv_at hl 0 rfl) ?_
  refine lv_iload_n hx hb dL_shown_3 rfl (lv_at hl 1 rfl) ?_
  have hPx := z_perm_P z_out hP
  have hDx := z_perm_D z_out hD
  have hPc := (z_app_P hPx).1
  have hDc := (z_app_D hDx).1
  have hFc := z_free hDx hS hA
  refine vx_calli (vx_runV (As := [.int x1]) (rest := [.int (0 : Int32), .ref o]) ⟨hx, hb, hml, hown, hts⟩ (c_X3_shown l hfl D cs x tq h a H.size sa S tx hs Ls x1 _ _ hw) (cwV 1 hts gL_shown_X3_shown rfl rfl rfl (by decide +kernel) ⟨Nat.le_of_ble_eq_true rfl, Nat.le_of_ble_eq_true rfl⟩) (PX_V hPc hDc hKK hTW hTZ hS hFc 0 3 rfl rfl) rfl rfl hl.1 rfl (lv_room (Nat.le_of_ble_eq_true rfl)) dL_shown_4 ⟨Nat.le_of_ble_eq_true rfl, Nat.le_of_ble_eq_true rfl⟩) hS (fun q _ h => hFc q h) hFc (fun q _ h => hFc q h) ?_ (fun r1 u1 t H locs ht hvm hw hB hz1 hk1 hS => ?_)
  · intro E ce q9 u1 t H locs ht hvm hpx hB hz1 hk1 hS hq9 hce hcl
    obtain ⟨u1_0, u1_1, u1_2, u1_3⟩ := u1
    obtain ⟨hw, hP1, hD1⟩ := hB
    rw [ht] at hP1
    obtain ⟨hPx, hDx⟩ := z_join hPx hDx hk1 hFc hP1 hD1
    have hP : va_P D vwCl (w_Out cs o f ++ w_Xo cs x tq h a u1_0 ++ w_Text cs tq u1_1 ++ w_Hist cs h a u1_2 ++ linesW cs a 18 u1_3) H := z_perm_P z_outb hPx
    have hD : va_D A (w_Out cs o f ++ w_Xo cs x tq h a u1_0 ++ w_Text cs tq u1_1 ++ w_Hist cs h a u1_2 ++ linesW cs a 18 u1_3) := z_perm_D z_outb hDx
    obtain ⟨hor, hw⟩ := hw
    subst hor
    · have hw := hw rfl
      refine vx_catch (name := eIOB) hown [] ⟨0, 9, 12, 27⟩ [] (by rw [hTab]; rfl) (fun _ h => nomatch h) rfl (by decide) (z_w hts 1 rfl) (va_Nw.use rfl hTW.2.2.2.1) hq9 hce hcl ?_
      refine W.eq (g2 := F0 m 12 ls [.ref q9]) rfl ?_
      refine lv_astore_n (lv' := [(3, .ref q9), (0, .ref (x 0)), (1, .int x1), (2, .ref o)]) hx hb dL_shown_12 rfl hl (by decide) rfl (fun ls hl => ?_)
      refine lv_iconst (v := (1 : Int32)) hx hb dL_shown_13 (by decide) ?_
      refine W.widen (k := 1) (n := 6) (Nat.le_of_ble_eq_true rfl) (Nat.le_of_ble_eq_true rfl) (vx_ret ?_)
      exact W.iret (v := (1 : Int32)) hx hb hr (fun t ht hW => ⟨⟨(1 : Int32), (f, u1_0, u1_1, u1_2, u1_3), rfl, hw, by rw [ht]; exact hP, hD⟩, hS.F ht⟩) hS.2.2 dL_shown_14 hlocks
  obtain ⟨u1_0, u1_1, u1_2, u1_3⟩ := u1
  obtain ⟨hP1, hD1⟩ := hB
  rw [ht] at hP1
  obtain ⟨hPx, hDx⟩ := z_join hPx hDx hk1 hFc hP1 hD1
  have hP : va_P D vwCl (w_Out cs o f ++ w_Xo cs x tq h a u1_0 ++ w_Text cs tq u1_1 ++ w_Hist cs h a u1_2 ++ linesW cs a 18 u1_3) H := z_perm_P z_outb hPx
  have hD : va_D A (w_Out cs o f ++ w_Xo cs x tq h a u1_0 ++ w_Text cs tq u1_1 ++ w_Hist cs h a u1_2 ++ linesW cs a 18 u1_3) := z_perm_D z_outb hDx
  refine lv_i2l (v := r1.toInt64) hx hb dL_shown_7 rfl ?_
  refine va_last hx hb hK hP hD hS 0 3 rfl rfl (show vp_in (0 : Int32) 1 by unfold vp_in; decide) dL_shown_8 (fun H locs hP hD hS => ?_)
  have hP : va_P D vwCl (w_Out cs o (vp_updL f (0 : Int32).toNatClampNeg r1.toInt64) ++ w_Xo cs x tq h a u1_0 ++ w_Text cs tq u1_1 ++ w_Hist cs h a u1_2 ++ linesW cs a 18 u1_3) H := hP
  have hD : va_D A (w_Out cs o (vp_updL f (0 : Int32).toNatClampNeg r1.toInt64) ++ w_Xo cs x tq h a u1_0 ++ w_Text cs tq u1_1 ++ w_Hist cs h a u1_2 ++ linesW cs a 18 u1_3) := hD
  refine lv_goto (tgt := 15) hx hb dL_shown_9 (by decide) ?_
  refine lv_iconst (v := (0 : Int32)) hx hb dL_shown_15 (by decide) ?_
  refine W.widen (k := 1) (n := 6) (Nat.le_of_ble_eq_true rfl) (Nat.le_of_ble_eq_true rfl) (vx_ret ?_)
  exact W.iret (v := (0 : Int32)) hx hb hr (fun t ht hW => ⟨⟨(0 : Int32), (vp_updL f (0 : Int32).toNatClampNeg r1.toInt64, u1_0, u1_1, u1_2, u1_3), rfl, hw, by rw [ht]; exact hP, hD⟩, hS.F ht⟩) hS.2.2 dL_shown_16 hlocks
set_option maxHeartbeats 4000000 in
set_option maxRecDepth 100000 in
theorem c_L_shown (l : Launch) (hfl : l.stackTraces = false) (D : va_G) (cs : Nat → ClassId) (o : Nat) (x : Nat → Nat) (tq : Nat → Nat) (h : Nat → Nat) (a : Nat → Nat → Nat) (sz : Nat) (sa : Nat → Nat) (f : (Nat → Int64)) (S : XO) (tx : TS) (hs : HS) (Ls : (Nat → LnS)) (x1 : Int32) (Q : Int32 → (Nat → Int64) → XO → TS → HS → (Nat → LnS) → Prop) (hw : wp_L_shown f S tx hs Ls x1 Q) : vx_Met l yL_shown wsL_shown ({ frames := 8, cells := 1, slots := 6, locals := 124 } : Room) (va_Pc [.ref (x 0), .int x1, .ref o] (PX D cs (w_Out cs o f ++ w_Xo cs x tq h a S ++ w_Text cs tq tx ++ w_Hist cs h a hs ++ linesW cs a 18 Ls) sa sz)) (va_Qi (fun r (u : (Nat → Int64) × XO × TS × HS × (Nat → LnS)) => Q r u.1 u.2.1 u.2.2.1 u.2.2.2.1 u.2.2.2.2) (fun (u : (Nat → Int64) × XO × TS × HS × (Nat → LnS)) t => va_P D vwCl (w_Out cs o u.1 ++ w_Xo cs x tq h a u.2.1 ++ w_Text cs tq u.2.2.1 ++ w_Hist cs h a u.2.2.2.1 ++ linesW cs a 18 u.2.2.2.2) t.heap ∧ va_D (va_A (w_Out cs o f ++ w_Xo cs x tq h a S ++ w_Text cs tq tx ++ w_Hist cs h a hs ++ linesW cs a 18 Ls) sz) (w_Out cs o u.1 ++ w_Xo cs x tq h a u.2.1 ++ w_Text cs tq u.2.2.1 ++ w_Hist cs h a u.2.2.2.1 ++ linesW cs a 18 u.2.2.2.2)) (va_A (w_Out cs o f ++ w_Xo cs x tq h a S ++ w_Text cs tq tx ++ w_Hist cs h a hs ++ linesW cs a 18 Ls) sz)) (vx_X (fun (_ : Unit) => False) (fun _ _ _ => True) (va_A (w_Out cs o f ++ w_Xo cs x tq h a S ++ w_Text cs tq tx ++ w_Hist cs h a hs ++ linesW cs a 18 Ls) sz)) 1 6 (va_A (w_Out cs o f ++ w_Xo cs x tq h a S ++ w_Text cs tq tx ++ w_Hist cs h a hs ++ linesW cs a 18 Ls) sz) := by
  refine vx_ofWH (cc := cL_shown) (maxL := 4) (ret := (some .int)) (by decide) rfl ?_
  intro p e s m args below meth c s₁ B hml hv
  obtain ⟨rfl, ⟨hsz, hP, hKK, hD0⟩, hTW, hTZ⟩ := hv
  have hTab := vx_table (x := yL_shown) B (atoms_spec (ws := wsL_shown) B.pre _ List.mem_cons_self)
  have hC : MAt p s m _ meth c RL cL_shown 4 (some .int) wsL_shown D cs := ⟨B.exec, B.bytes, B.returns, hml, findClass_of_methodNamed B.named, atoms_spec (ws := wsL_shown) B.pre, B.notSynchronized, hKK⟩
  have hl := lv_entry ([.ref (x 0), .int x1, .ref o]) (n := 4) (Nat.le_of_ble_eq_true rfl)
  rw [lg_entry_eq]
  generalize (lg_sl ([.ref (x 0), .int x1, .ref o]) ++ List.replicate (4 - (lg_sl ([.ref (x 0), .int x1, .ref o])).length) Slot.unset).toArray = ls at hl ⊢
  subst hsz
  have hD := hD0.self (sz := s.heap.size)
  have hA : ∀ z : Nat, s.heap.size ≤ z → va_A (w_Out cs o f ++ w_Xo cs x tq h a S ++ w_Text cs tq tx ++ w_Hist cs h a hs ++ linesW cs a 18 Ls) s.heap.size z := fun z h => Or.inr h
  exact t_L_shown hC hfl hTab hTW hTZ o x tq h a f S tx hs Ls x1 Q hA hw s.heap [] hP hD va_S.rf ls hl
set_option maxHeartbeats 4000000 in
set_option maxRecDepth 100000 in
theorem t_L_worth {p : Program} {l : Launch} {e : Env} {s : State} {m : MethodId} {args : Array Value} {below : List Frame} {meth : Method} {c : Code} {D : va_G} {cs : Nat → ClassId} {A : Nat → Prop} (hC : MAt p s m args meth c RL cL_worth 4 (some .int) wsL_worth D cs) (hfl : l.stackTraces = false) (hTab : c.exceptionTable.toList = tableOf [(0, 8, 11, 27)]) {sa : Nat → Nat} (hTW : TW sa s) (hTZ : TZ A s s.heap) (o : Nat) (x : Nat → Nat) (tq : Nat → Nat) (h : Nat → Nat) (a : Nat → Nat → Nat) (f : (Nat → Int64)) (S : XO) (tx : TS) (hs : HS) (Ls : (Nat → LnS)) (x1 : Int32) (Q : Int32 → (Nat → Int64) → XO → TS → HS → (Nat → LnS) → Prop) (hA : ∀ q : Nat, s.heap.size ≤ q → A q) (hw : wp_L_worth f S tx hs Ls x1 Q) (H : Heap) (locs : List Loc) (hP : va_P D vwCl (w_Out cs o f ++ w_Xo cs x tq h a S ++ w_Text cs tq tx ++ w_Hist cs h a hs ++ linesW cs a 18 Ls) H) (hD : va_D A (w_Out cs o f ++ w_Xo cs x tq h a S ++ w_Text cs tq tx ++ w_Hist cs h a hs ++ linesW cs a 18 Ls)) (hS : va_S A s.heap H locs) (ls : Array Slot) (hl : lv_has ls 4 [(0, .ref (x 0)), (1, .int x1), (2, .ref o)]) : W p l e ({ frames := 8, cells := 1, slots := 6, locals := 124 } : Room) s m args below meth c H locs 0 0 (vx_MQ below (va_Qi (fun r (u : (Nat → Int64) × XO × TS × HS × (Nat → LnS)) => Q r u.1 u.2.1 u.2.2.1 u.2.2.2.1 u.2.2.2.2) (fun (u : (Nat → Int64) × XO × TS × HS × (Nat → LnS)) t => va_P D vwCl (w_Out cs o u.1 ++ w_Xo cs x tq h a u.2.1 ++ w_Text cs tq u.2.2.1 ++ w_Hist cs h a u.2.2.2.1 ++ linesW cs a 18 u.2.2.2.2) t.heap ∧ va_D A (w_Out cs o u.1 ++ w_Xo cs x tq h a u.2.1 ++ w_Text cs tq u.2.2.1 ++ w_Hist cs h a u.2.2.2.1 ++ linesW cs a 18 u.2.2.2.2)) A) (vx_X (fun (_ : Unit) => False) (fun _ _ _ => True) A) args s 1 6 A) (F0 m 0 ls []) := by
  obtain ⟨hx, hb, hr, hml, hown, hts, hlocks, hKK⟩ := id hC
  have hK := hKK.1
  refine lv_aload_n hx hb dL_worth_0 rfl (lv_at hl 2 rfl) ?_
  refine lv_iconst (v := (0 : Int32)) hx hb dL_worth_1 (by decide) ?_
  refine lv_aload_n hx hb dL_worth_2 rfl (lv_at hl 0 rfl) ?_
  refine lv_iload_n hx hb dL_worth_3 rfl (lv_at hl 1 rfl) ?_
  have hPx := z_perm_P z_out hP
  have hDx := z_perm_D z_out hD
  have hPc := (z_app_P hPx).1
  have hDc := (z_app_D hDx).1
  have hFc := z_free hDx hS hA
  refine vx_calll (vx_runV (As := [.int x1]) (rest := [.int (0 : Int32), .ref o]) ⟨hx, hb, hml, hown, hts⟩ (c_X3_worth l hfl D cs x tq h a H.size sa S tx hs Ls x1 _ _ hw) (cwV 1 hts gL_worth_X3_worth rfl rfl rfl (by decide +kernel) ⟨Nat.le_of_ble_eq_true rfl, Nat.le_of_ble_eq_true rfl⟩) (PX_V hPc hDc hKK hTW hTZ hS hFc 0 3 rfl rfl) rfl rfl hl.1 rfl (lv_room (Nat.le_of_ble_eq_true rfl)) dL_worth_4 ⟨Nat.le_of_ble_eq_true rfl, Nat.le_of_ble_eq_true rfl⟩) hS (fun q _ h => hFc q h) hFc (fun q _ h => hFc q h) ?_ (fun r1 u1 t H locs ht hvm hw hB hz1 hk1 hS => ?_)
  · intro E ce q9 u1 t H locs ht hvm hpx hB hz1 hk1 hS hq9 hce hcl
    obtain ⟨u1_0, u1_1, u1_2, u1_3⟩ := u1
    obtain ⟨hw, hP1, hD1⟩ := hB
    rw [ht] at hP1
    obtain ⟨hPx, hDx⟩ := z_join hPx hDx hk1 hFc hP1 hD1
    have hP : va_P D vwCl (w_Out cs o f ++ w_Xo cs x tq h a u1_0 ++ w_Text cs tq u1_1 ++ w_Hist cs h a u1_2 ++ linesW cs a 18 u1_3) H := z_perm_P z_outb hPx
    have hD : va_D A (w_Out cs o f ++ w_Xo cs x tq h a u1_0 ++ w_Text cs tq u1_1 ++ w_Hist cs h a u1_2 ++ linesW cs a 18 u1_3) := z_perm_D z_outb hDx
    obtain ⟨hor, hw⟩ := hw
    subst hor
    · have hw := hw rfl
      refine vx_catch (name := eIOB) hown [] ⟨0, 8, 11, 27⟩ [] (by rw [hTab]; rfl) (fun _ h => nomatch h) rfl (by decide) (z_w hts 1 rfl) (va_Nw.use rfl hTW.2.2.2.1) hq9 hce hcl ?_
      refine W.eq (g2 := F0 m 11 ls [.ref q9]) rfl ?_
      refine lv_astore_n (lv' := [(3, .ref q9), (0, .ref (x 0)), (1, .int x1), (2, .ref o)]) hx hb dL_worth_11 rfl hl (by decide) rfl (fun ls hl => ?_)
      refine lv_iconst (v := (1 : Int32)) hx hb dL_worth_12 (by decide) ?_
      refine W.widen (k := 1) (n := 6) (Nat.le_of_ble_eq_true rfl) (Nat.le_of_ble_eq_true rfl) (vx_ret ?_)
      exact W.iret (v := (1 : Int32)) hx hb hr (fun t ht hW => ⟨⟨(1 : Int32), (f, u1_0, u1_1, u1_2, u1_3), rfl, hw, by rw [ht]; exact hP, hD⟩, hS.F ht⟩) hS.2.2 dL_worth_13 hlocks
  obtain ⟨u1_0, u1_1, u1_2, u1_3⟩ := u1
  obtain ⟨hP1, hD1⟩ := hB
  rw [ht] at hP1
  obtain ⟨hPx, hDx⟩ := z_join hPx hDx hk1 hFc hP1 hD1
  have hP : va_P D vwCl (w_Out cs o f ++ w_Xo cs x tq h a u1_0 ++ w_Text cs tq u1_1 ++ w_Hist cs h a u1_2 ++ linesW cs a 18 u1_3) H := z_perm_P z_outb hPx
  have hD : va_D A (w_Out cs o f ++ w_Xo cs x tq h a u1_0 ++ w_Text cs tq u1_1 ++ w_Hist cs h a u1_2 ++ linesW cs a 18 u1_3) := z_perm_D z_outb hDx
  refine va_last hx hb hK hP hD hS 0 3 rfl rfl (show vp_in (0 : Int32) 1 by unfold vp_in; decide) dL_worth_7 (fun H locs hP hD hS => ?_)
  have hP : va_P D vwCl (w_Out cs o (vp_updL f (0 : Int32).toNatClampNeg r1) ++ w_Xo cs x tq h a u1_0 ++ w_Text cs tq u1_1 ++ w_Hist cs h a u1_2 ++ linesW cs a 18 u1_3) H := hP
  have hD : va_D A (w_Out cs o (vp_updL f (0 : Int32).toNatClampNeg r1) ++ w_Xo cs x tq h a u1_0 ++ w_Text cs tq u1_1 ++ w_Hist cs h a u1_2 ++ linesW cs a 18 u1_3) := hD
  refine lv_goto (tgt := 14) hx hb dL_worth_8 (by decide) ?_
  refine lv_iconst (v := (0 : Int32)) hx hb dL_worth_14 (by decide) ?_
  refine W.widen (k := 1) (n := 6) (Nat.le_of_ble_eq_true rfl) (Nat.le_of_ble_eq_true rfl) (vx_ret ?_)
  exact W.iret (v := (0 : Int32)) hx hb hr (fun t ht hW => ⟨⟨(0 : Int32), (vp_updL f (0 : Int32).toNatClampNeg r1, u1_0, u1_1, u1_2, u1_3), rfl, hw, by rw [ht]; exact hP, hD⟩, hS.F ht⟩) hS.2.2 dL_worth_15 hlocks
set_option maxHeartbeats 4000000 in
set_option maxRecDepth 100000 in
theorem c_L_worth (l : Launch) (hfl : l.stackTraces = false) (D : va_G) (cs : Nat → ClassId) (o : Nat) (x : Nat → Nat) (tq : Nat → Nat) (h : Nat → Nat) (a : Nat → Nat → Nat) (sz : Nat) (sa : Nat → Nat) (f : (Nat → Int64)) (S : XO) (tx : TS) (hs : HS) (Ls : (Nat → LnS)) (x1 : Int32) (Q : Int32 → (Nat → Int64) → XO → TS → HS → (Nat → LnS) → Prop) (hw : wp_L_worth f S tx hs Ls x1 Q) : vx_Met l yL_worth wsL_worth ({ frames := 8, cells := 1, slots := 6, locals := 124 } : Room) (va_Pc [.ref (x 0), .int x1, .ref o] (PX D cs (w_Out cs o f ++ w_Xo cs x tq h a S ++ w_Text cs tq tx ++ w_Hist cs h a hs ++ linesW cs a 18 Ls) sa sz)) (va_Qi (fun r (u : (Nat → Int64) × XO × TS × HS × (Nat → LnS)) => Q r u.1 u.2.1 u.2.2.1 u.2.2.2.1 u.2.2.2.2) (fun (u : (Nat → Int64) × XO × TS × HS × (Nat → LnS)) t => va_P D vwCl (w_Out cs o u.1 ++ w_Xo cs x tq h a u.2.1 ++ w_Text cs tq u.2.2.1 ++ w_Hist cs h a u.2.2.2.1 ++ linesW cs a 18 u.2.2.2.2) t.heap ∧ va_D (va_A (w_Out cs o f ++ w_Xo cs x tq h a S ++ w_Text cs tq tx ++ w_Hist cs h a hs ++ linesW cs a 18 Ls) sz) (w_Out cs o u.1 ++ w_Xo cs x tq h a u.2.1 ++ w_Text cs tq u.2.2.1 ++ w_Hist cs h a u.2.2.2.1 ++ linesW cs a 18 u.2.2.2.2)) (va_A (w_Out cs o f ++ w_Xo cs x tq h a S ++ w_Text cs tq tx ++ w_Hist cs h a hs ++ linesW cs a 18 Ls) sz)) (vx_X (fun (_ : Unit) => False) (fun _ _ _ => True) (va_A (w_Out cs o f ++ w_Xo cs x tq h a S ++ w_Text cs tq tx ++ w_Hist cs h a hs ++ linesW cs a 18 Ls) sz)) 1 6 (va_A (w_Out cs o f ++ w_Xo cs x tq h a S ++ w_Text cs tq tx ++ w_Hist cs h a hs ++ linesW cs a 18 Ls) sz) := by
  refine vx_ofWH (cc := cL_worth) (maxL := 4) (ret := (some .int)) (by decide) rfl ?_
  intro p e s m args below meth c s₁ B hml hv
  obtain ⟨rfl, ⟨hsz, hP, hKK, hD0⟩, hTW, hTZ⟩ := hv
  have hTab := vx_table (x := yL_worth) B (atoms_spec (ws := wsL_worth) B.pre _ List.mem_cons_self)
  have hC : MAt p s m _ meth c RL cL_worth 4 (some .int) wsL_worth D cs := ⟨B.exec, B.bytes, B.returns, hml, findClass_of_methodNamed B.named, atoms_spec (ws := wsL_worth) B.pre, B.notSynchronized, hKK⟩
  have hl := lv_entry ([.ref (x 0), .int x1, .ref o]) (n := 4) (Nat.le_of_ble_eq_true rfl)
  rw [lg_entry_eq]
  generalize (lg_sl ([.ref (x 0), .int x1, .ref o]) ++ List.replicate (4 - (lg_sl ([.ref (x 0), .int x1, .ref o])).length) Slot.unset).toArray = ls at hl ⊢
  subst hsz
  have hD := hD0.self (sz := s.heap.size)
  have hA : ∀ z : Nat, s.heap.size ≤ z → va_A (w_Out cs o f ++ w_Xo cs x tq h a S ++ w_Text cs tq tx ++ w_Hist cs h a hs ++ linesW cs a 18 Ls) s.heap.size z := fun z h => Or.inr h
  exact t_L_worth hC hfl hTab hTW hTZ o x tq h a f S tx hs Ls x1 Q hA hw s.heap [] hP hD va_S.rf ls hl
set_option maxHeartbeats 4000000 in
set_option maxRecDepth 100000 in
theorem t_L_counter {p : Program} {l : Launch} {e : Env} {s : State} {m : MethodId} {args : Array Value} {below : List Frame} {meth : Method} {c : Code} {D : va_G} {cs : Nat → ClassId} {A : Nat → Prop} (hC : MAt p s m args meth c RL cL_counter 5 (some .int) wsL_counter D cs) (hfl : l.stackTraces = false) (hTab : c.exceptionTable.toList = tableOf [(0, 10, 13, 27), (0, 10, 17, 13)]) {sa : Nat → Nat} (hTW : TW sa s) (hTZ : TZ A s s.heap) (o : Nat) (x : Nat → Nat) (tq : Nat → Nat) (h : Nat → Nat) (a : Nat → Nat → Nat) (f : (Nat → Int64)) (S : XO) (tx : TS) (hs : HS) (Ls : (Nat → LnS)) (x1 : Int32) (x2 : Int32) (Q : Int32 → (Nat → Int64) → XO → TS → HS → (Nat → LnS) → Prop) (hA : ∀ q : Nat, s.heap.size ≤ q → A q) (hw : wp_L_counter f S tx hs Ls x1 x2 Q) (H : Heap) (locs : List Loc) (hP : va_P D vwCl (w_Out cs o f ++ w_Xo cs x tq h a S ++ w_Text cs tq tx ++ w_Hist cs h a hs ++ linesW cs a 18 Ls) H) (hD : va_D A (w_Out cs o f ++ w_Xo cs x tq h a S ++ w_Text cs tq tx ++ w_Hist cs h a hs ++ linesW cs a 18 Ls)) (hS : va_S A s.heap H locs) (ls : Array Slot) (hl : lv_has ls 5 [(0, .ref (x 0)), (1, .int x1), (2, .int x2), (3, .ref o)]) : W p l e ({ frames := 8, cells := 2, slots := 12, locals := 126 } : Room) s m args below meth c H locs 0 0 (vx_MQ below (va_Qi (fun r (u : (Nat → Int64) × XO × TS × HS × (Nat → LnS)) => Q r u.1 u.2.1 u.2.2.1 u.2.2.2.1 u.2.2.2.2) (fun (u : (Nat → Int64) × XO × TS × HS × (Nat → LnS)) t => va_P D vwCl (w_Out cs o u.1 ++ w_Xo cs x tq h a u.2.1 ++ w_Text cs tq u.2.2.1 ++ w_Hist cs h a u.2.2.2.1 ++ linesW cs a 18 u.2.2.2.2) t.heap ∧ va_D A (w_Out cs o u.1 ++ w_Xo cs x tq h a u.2.1 ++ w_Text cs tq u.2.2.1 ++ w_Hist cs h a u.2.2.2.1 ++ linesW cs a 18 u.2.2.2.2)) A) (vx_X (fun (_ : Unit) => False) (fun _ _ _ => True) A) args s 2 12 A) (F0 m 0 ls []) := by
  obtain ⟨hx, hb, hr, hml, hown, hts, hlocks, hKK⟩ := id hC
  have hK := hKK.1
  refine lv_aload_n hx hb dL_counter_0 rfl (lv_at hl 3 rfl) ?_
  refine lv_iconst (v := (0 : Int32)) hx hb dL_counter_1 (by decide) ?_
  refine lv_aload_n hx hb dL_counter_2 rfl (lv_at hl 0 rfl) ?_
  refine lv_iload_n hx hb dL_counter_3 rfl (lv_at hl 1 rfl) ?_
  refine lv_iload_n hx hb dL_counter_4 rfl (lv_at hl 2 rfl) ?_
  have hPx := z_perm_P z_out hP
  have hDx := z_perm_D z_out hD
  have hPc := (z_app_P hPx).1
  have hDc := (z_app_D hDx).1
  have hFc := z_free hDx hS hA
  refine vx_calli (vx_runV (As := [.int x1, .int x2]) (rest := [.int (0 : Int32), .ref o]) ⟨hx, hb, hml, hown, hts⟩ (c_X3_counter l hfl D cs x tq h a H.size sa S tx hs Ls x1 x2 _ _ hw) (cwV 2 hts gL_counter_X3_counter rfl rfl rfl (by decide +kernel) ⟨Nat.le_of_ble_eq_true rfl, Nat.le_of_ble_eq_true rfl⟩) (PX_V hPc hDc hKK hTW hTZ hS hFc 0 3 rfl rfl) rfl rfl hl.1 rfl (lv_room (Nat.le_of_ble_eq_true rfl)) dL_counter_5 ⟨Nat.le_of_ble_eq_true rfl, Nat.le_of_ble_eq_true rfl⟩) hS (fun q _ h => hFc q h) hFc (fun q _ h => hFc q h) ?_ (fun r1 u1 t H locs ht hvm hw hB hz1 hk1 hS => ?_)
  · intro E ce q9 u1 t H locs ht hvm hpx hB hz1 hk1 hS hq9 hce hcl
    obtain ⟨u1_0, u1_1, u1_2, u1_3⟩ := u1
    obtain ⟨hw, hP1, hD1⟩ := hB
    rw [ht] at hP1
    obtain ⟨hPx, hDx⟩ := z_join hPx hDx hk1 hFc hP1 hD1
    have hP : va_P D vwCl (w_Out cs o f ++ w_Xo cs x tq h a u1_0 ++ w_Text cs tq u1_1 ++ w_Hist cs h a u1_2 ++ linesW cs a 18 u1_3) H := z_perm_P z_outb hPx
    have hD : va_D A (w_Out cs o f ++ w_Xo cs x tq h a u1_0 ++ w_Text cs tq u1_1 ++ w_Hist cs h a u1_2 ++ linesW cs a 18 u1_3) := z_perm_D z_outb hDx
    obtain ⟨hor, hw⟩ := hw
    rcases hor with rfl | rfl
    · have hw := hw.1 rfl
      refine vx_catch (name := eIOB) hown [] ⟨0, 10, 13, 27⟩ [⟨0, 10, 17, 13⟩] (by rw [hTab]; rfl) (fun _ h => nomatch h) rfl (by decide) (z_w hts 1 rfl) (va_Nw.use rfl hTW.2.2.2.1) hq9 hce hcl ?_
      refine W.eq (g2 := F0 m 13 ls [.ref q9]) rfl ?_
      refine lv_astore (lv' := [(4, .ref q9), (0, .ref (x 0)), (1, .int x1), (2, .int x2), (3, .ref o)]) hx hb dL_counter_13 hl (by decide) rfl (fun ls hl => ?_)
      refine lv_iconst (v := (1 : Int32)) hx hb dL_counter_15 (by decide) ?_
      refine W.widen (k := 2) (n := 12) (Nat.le_of_ble_eq_true rfl) (Nat.le_of_ble_eq_true rfl) (vx_ret ?_)
      exact W.iret (v := (1 : Int32)) hx hb hr (fun t ht hW => ⟨⟨(1 : Int32), (f, u1_0, u1_1, u1_2, u1_3), rfl, hw, by rw [ht]; exact hP, hD⟩, hS.F ht⟩) hS.2.2 dL_counter_16 hlocks
    · have hw := hw.2 rfl
      refine vx_catch (name := eIAE) hown [⟨0, 10, 13, 27⟩] ⟨0, 10, 17, 13⟩ [] (by rw [hTab]; rfl) (List.forall_mem_cons.mpr ⟨Or.inr ⟨by decide, _, z_w hts 1 rfl, hTW.2.2.2.2.2.2.2.1⟩, (fun _ h => nomatch h)⟩) rfl (by decide) (z_w hts 2 rfl) (va_Nw.use rfl hTW.2.2.1) hq9 hce hcl ?_
      refine W.eq (g2 := F0 m 17 ls [.ref q9]) rfl ?_
      refine lv_astore (lv' := [(4, .ref q9), (0, .ref (x 0)), (1, .int x1), (2, .int x2), (3, .ref o)]) hx hb dL_counter_17 hl (by decide) rfl (fun ls hl => ?_)
      refine lv_iconst (v := (2 : Int32)) hx hb dL_counter_19 (by decide) ?_
      refine W.widen (k := 2) (n := 12) (Nat.le_of_ble_eq_true rfl) (Nat.le_of_ble_eq_true rfl) (vx_ret ?_)
      exact W.iret (v := (2 : Int32)) hx hb hr (fun t ht hW => ⟨⟨(2 : Int32), (f, u1_0, u1_1, u1_2, u1_3), rfl, hw, by rw [ht]; exact hP, hD⟩, hS.F ht⟩) hS.2.2 dL_counter_20 hlocks
  obtain ⟨u1_0, u1_1, u1_2, u1_3⟩ := u1
  obtain ⟨hP1, hD1⟩ := hB
  rw [ht] at hP1
  obtain ⟨hPx, hDx⟩ := z_join hPx hDx hk1 hFc hP1 hD1
  have hP : va_P D vwCl (w_Out cs o f ++ w_Xo cs x tq h a u1_0 ++ w_Text cs tq u1_1 ++ w_Hist cs h a u1_2 ++ linesW cs a 18 u1_3) H := z_perm_P z_outb hPx
  have hD : va_D A (w_Out cs o f ++ w_Xo cs x tq h a u1_0 ++ w_Text cs tq u1_1 ++ w_Hist cs h a u1_2 ++ linesW cs a 18 u1_3) := z_perm_D z_outb hDx
  refine lv_i2l (v := r1.toInt64) hx hb dL_counter_8 rfl ?_
  refine va_last hx hb hK hP hD hS 0 3 rfl rfl (show vp_in (0 : Int32) 1 by unfold vp_in; decide) dL_counter_9 (fun H locs hP hD hS => ?_)
  have hP : va_P D vwCl (w_Out cs o (vp_updL f (0 : Int32).toNatClampNeg r1.toInt64) ++ w_Xo cs x tq h a u1_0 ++ w_Text cs tq u1_1 ++ w_Hist cs h a u1_2 ++ linesW cs a 18 u1_3) H := hP
  have hD : va_D A (w_Out cs o (vp_updL f (0 : Int32).toNatClampNeg r1.toInt64) ++ w_Xo cs x tq h a u1_0 ++ w_Text cs tq u1_1 ++ w_Hist cs h a u1_2 ++ linesW cs a 18 u1_3) := hD
  refine lv_goto (tgt := 21) hx hb dL_counter_10 (by decide) ?_
  refine lv_iconst (v := (0 : Int32)) hx hb dL_counter_21 (by decide) ?_
  refine W.widen (k := 2) (n := 12) (Nat.le_of_ble_eq_true rfl) (Nat.le_of_ble_eq_true rfl) (vx_ret ?_)
  exact W.iret (v := (0 : Int32)) hx hb hr (fun t ht hW => ⟨⟨(0 : Int32), (vp_updL f (0 : Int32).toNatClampNeg r1.toInt64, u1_0, u1_1, u1_2, u1_3), rfl, hw, by rw [ht]; exact hP, hD⟩, hS.F ht⟩) hS.2.2 dL_counter_22 hlocks
set_option maxHeartbeats 4000000 in
set_option maxRecDepth 100000 in
theorem c_L_counter (l : Launch) (hfl : l.stackTraces = false) (D : va_G) (cs : Nat → ClassId) (o : Nat) (x : Nat → Nat) (tq : Nat → Nat) (h : Nat → Nat) (a : Nat → Nat → Nat) (sz : Nat) (sa : Nat → Nat) (f : (Nat → Int64)) (S : XO) (tx : TS) (hs : HS) (Ls : (Nat → LnS)) (x1 : Int32) (x2 : Int32) (Q : Int32 → (Nat → Int64) → XO → TS → HS → (Nat → LnS) → Prop) (hw : wp_L_counter f S tx hs Ls x1 x2 Q) : vx_Met l yL_counter wsL_counter ({ frames := 8, cells := 2, slots := 12, locals := 126 } : Room) (va_Pc [.ref (x 0), .int x1, .int x2, .ref o] (PX D cs (w_Out cs o f ++ w_Xo cs x tq h a S ++ w_Text cs tq tx ++ w_Hist cs h a hs ++ linesW cs a 18 Ls) sa sz)) (va_Qi (fun r (u : (Nat → Int64) × XO × TS × HS × (Nat → LnS)) => Q r u.1 u.2.1 u.2.2.1 u.2.2.2.1 u.2.2.2.2) (fun (u : (Nat → Int64) × XO × TS × HS × (Nat → LnS)) t => va_P D vwCl (w_Out cs o u.1 ++ w_Xo cs x tq h a u.2.1 ++ w_Text cs tq u.2.2.1 ++ w_Hist cs h a u.2.2.2.1 ++ linesW cs a 18 u.2.2.2.2) t.heap ∧ va_D (va_A (w_Out cs o f ++ w_Xo cs x tq h a S ++ w_Text cs tq tx ++ w_Hist cs h a hs ++ linesW cs a 18 Ls) sz) (w_Out cs o u.1 ++ w_Xo cs x tq h a u.2.1 ++ w_Text cs tq u.2.2.1 ++ w_Hist cs h a u.2.2.2.1 ++ linesW cs a 18 u.2.2.2.2)) (va_A (w_Out cs o f ++ w_Xo cs x tq h a S ++ w_Text cs tq tx ++ w_Hist cs h a hs ++ linesW cs a 18 Ls) sz)) (vx_X (fun (_ : Unit) => False) (fun _ _ _ => True) (va_A (w_Out cs o f ++ w_Xo cs x tq h a S ++ w_Text cs tq tx ++ w_Hist cs h a hs ++ linesW cs a 18 Ls) sz)) 2 12 (va_A (w_Out cs o f ++ w_Xo cs x tq h a S ++ w_Text cs tq tx ++ w_Hist cs h a hs ++ linesW cs a 18 Ls) sz) := by
  refine vx_ofWH (cc := cL_counter) (maxL := 5) (ret := (some .int)) (by decide) rfl ?_
  intro p e s m args below meth c s₁ B hml hv
  obtain ⟨rfl, ⟨hsz, hP, hKK, hD0⟩, hTW, hTZ⟩ := hv
  have hTab := vx_table (x := yL_counter) B (atoms_spec (ws := wsL_counter) B.pre _ List.mem_cons_self)
  have hC : MAt p s m _ meth c RL cL_counter 5 (some .int) wsL_counter D cs := ⟨B.exec, B.bytes, B.returns, hml, findClass_of_methodNamed B.named, atoms_spec (ws := wsL_counter) B.pre, B.notSynchronized, hKK⟩
  have hl := lv_entry ([.ref (x 0), .int x1, .int x2, .ref o]) (n := 5) (Nat.le_of_ble_eq_true rfl)
  rw [lg_entry_eq]
  generalize (lg_sl ([.ref (x 0), .int x1, .int x2, .ref o]) ++ List.replicate (5 - (lg_sl ([.ref (x 0), .int x1, .int x2, .ref o])).length) Slot.unset).toArray = ls at hl ⊢
  subst hsz
  have hD := hD0.self (sz := s.heap.size)
  have hA : ∀ z : Nat, s.heap.size ≤ z → va_A (w_Out cs o f ++ w_Xo cs x tq h a S ++ w_Text cs tq tx ++ w_Hist cs h a hs ++ linesW cs a 18 Ls) s.heap.size z := fun z h => Or.inr h
  exact t_L_counter hC hfl hTab hTW hTZ o x tq h a f S tx hs Ls x1 x2 Q hA hw s.heap [] hP hD va_S.rf ls hl
set_option maxHeartbeats 4000000 in
set_option maxRecDepth 100000 in
theorem t_L_place {p : Program} {l : Launch} {e : Env} {s : State} {m : MethodId} {args : Array Value} {below : List Frame} {meth : Method} {c : Code} {D : va_G} {cs : Nat → ClassId} {A : Nat → Prop} (hC : MAt p s m args meth c RL cL_place 6 (some .int) wsL_place D cs) (hfl : l.stackTraces = false) (hTab : c.exceptionTable.toList = tableOf [(0, 12, 15, 27), (0, 12, 19, 13)]) {sa : Nat → Nat} (hTW : TW sa s) (hTZ : TZ A s s.heap) (o : Nat) (x : Nat → Nat) (tq : Nat → Nat) (h : Nat → Nat) (a : Nat → Nat → Nat) (f : (Nat → Int64)) (S : XO) (tx : TS) (hs : HS) (Ls : (Nat → LnS)) (x1 : Int32) (x2 : Int32) (x3 : Int32) (Q : Int32 → (Nat → Int64) → XO → TS → HS → (Nat → LnS) → Prop) (hA : ∀ q : Nat, s.heap.size ≤ q → A q) (hw : wp_L_place f S tx hs Ls x1 x2 x3 Q) (H : Heap) (locs : List Loc) (hP : va_P D vwCl (w_Out cs o f ++ w_Xo cs x tq h a S ++ w_Text cs tq tx ++ w_Hist cs h a hs ++ linesW cs a 18 Ls) H) (hD : va_D A (w_Out cs o f ++ w_Xo cs x tq h a S ++ w_Text cs tq tx ++ w_Hist cs h a hs ++ linesW cs a 18 Ls)) (hS : va_S A s.heap H locs) (ls : Array Slot) (hl : lv_has ls 6 [(0, .ref (x 0)), (1, .int x1), (2, .int x2), (3, .int x3), (4, .ref o)]) : W p l e ({ frames := 8, cells := 2, slots := 12, locals := 128 } : Room) s m args below meth c H locs 0 0 (vx_MQ below (va_Qi (fun r (u : (Nat → Int64) × XO × TS × HS × (Nat → LnS)) => Q r u.1 u.2.1 u.2.2.1 u.2.2.2.1 u.2.2.2.2) (fun (u : (Nat → Int64) × XO × TS × HS × (Nat → LnS)) t => va_P D vwCl (w_Out cs o u.1 ++ w_Xo cs x tq h a u.2.1 ++ w_Text cs tq u.2.2.1 ++ w_Hist cs h a u.2.2.2.1 ++ linesW cs a 18 u.2.2.2.2) t.heap ∧ va_D A (w_Out cs o u.1 ++ w_Xo cs x tq h a u.2.1 ++ w_Text cs tq u.2.2.1 ++ w_Hist cs h a u.2.2.2.1 ++ linesW cs a 18 u.2.2.2.2)) A) (vx_X (fun (_ : Unit) => False) (fun _ _ _ => True) A) args s 2 12 A) (F0 m 0 ls []) := by
  obtain ⟨hx, hb, hr, hml, hown, hts, hlocks, hKK⟩ := id hC
  have hK := hKK.1
  refine lv_aload hx hb dL_place_0 (lv_at hl 4 rfl) ?_
  refine lv_iconst (v := (0 : Int32)) hx hb dL_place_2 (by decide) ?_
  refine lv_aload_n hx hb dL_place_3 rfl (lv_at hl 0 rfl) ?_
  refine lv_iload_n hx hb dL_place_4 rfl (lv_at hl 1 rfl) ?_
  refine lv_iload_n hx hb dL_place_5 rfl (lv_at hl 2 rfl) ?_
  refine lv_iload_n hx hb dL_place_6 rfl (lv_at hl 3 rfl) ?_
  have hPx := z_perm_P z_out hP
  have hDx := z_perm_D z_out hD
  have hPc := (z_app_P hPx).1
  have hDc := (z_app_D hDx).1
  have hFc := z_free hDx hS hA
  refine vx_calli (vx_runV (As := [.int x1, .int x2, .int x3]) (rest := [.int (0 : Int32), .ref o]) ⟨hx, hb, hml, hown, hts⟩ (c_X3_place l hfl D cs x tq h a H.size sa S tx hs Ls x1 x2 x3 _ _ hw) (cwV 3 hts gL_place_X3_place rfl rfl rfl (by decide +kernel) ⟨Nat.le_of_ble_eq_true rfl, Nat.le_of_ble_eq_true rfl⟩) (PX_V hPc hDc hKK hTW hTZ hS hFc 0 3 rfl rfl) rfl rfl hl.1 rfl (lv_room (Nat.le_of_ble_eq_true rfl)) dL_place_7 ⟨Nat.le_of_ble_eq_true rfl, Nat.le_of_ble_eq_true rfl⟩) hS (fun q _ h => hFc q h) hFc (fun q _ h => hFc q h) ?_ (fun r1 u1 t H locs ht hvm hw hB hz1 hk1 hS => ?_)
  · intro E ce q9 u1 t H locs ht hvm hpx hB hz1 hk1 hS hq9 hce hcl
    obtain ⟨u1_0, u1_1, u1_2, u1_3⟩ := u1
    obtain ⟨hw, hP1, hD1⟩ := hB
    rw [ht] at hP1
    obtain ⟨hPx, hDx⟩ := z_join hPx hDx hk1 hFc hP1 hD1
    have hP : va_P D vwCl (w_Out cs o f ++ w_Xo cs x tq h a u1_0 ++ w_Text cs tq u1_1 ++ w_Hist cs h a u1_2 ++ linesW cs a 18 u1_3) H := z_perm_P z_outb hPx
    have hD : va_D A (w_Out cs o f ++ w_Xo cs x tq h a u1_0 ++ w_Text cs tq u1_1 ++ w_Hist cs h a u1_2 ++ linesW cs a 18 u1_3) := z_perm_D z_outb hDx
    obtain ⟨hor, hw⟩ := hw
    rcases hor with rfl | rfl
    · have hw := hw.1 rfl
      refine vx_catch (name := eIOB) hown [] ⟨0, 12, 15, 27⟩ [⟨0, 12, 19, 13⟩] (by rw [hTab]; rfl) (fun _ h => nomatch h) rfl (by decide) (z_w hts 1 rfl) (va_Nw.use rfl hTW.2.2.2.1) hq9 hce hcl ?_
      refine W.eq (g2 := F0 m 15 ls [.ref q9]) rfl ?_
      refine lv_astore (lv' := [(5, .ref q9), (0, .ref (x 0)), (1, .int x1), (2, .int x2), (3, .int x3), (4, .ref o)]) hx hb dL_place_15 hl (by decide) rfl (fun ls hl => ?_)
      refine lv_iconst (v := (1 : Int32)) hx hb dL_place_17 (by decide) ?_
      refine W.widen (k := 2) (n := 12) (Nat.le_of_ble_eq_true rfl) (Nat.le_of_ble_eq_true rfl) (vx_ret ?_)
      exact W.iret (v := (1 : Int32)) hx hb hr (fun t ht hW => ⟨⟨(1 : Int32), (f, u1_0, u1_1, u1_2, u1_3), rfl, hw, by rw [ht]; exact hP, hD⟩, hS.F ht⟩) hS.2.2 dL_place_18 hlocks
    · have hw := hw.2 rfl
      refine vx_catch (name := eIAE) hown [⟨0, 12, 15, 27⟩] ⟨0, 12, 19, 13⟩ [] (by rw [hTab]; rfl) (List.forall_mem_cons.mpr ⟨Or.inr ⟨by decide, _, z_w hts 1 rfl, hTW.2.2.2.2.2.2.2.1⟩, (fun _ h => nomatch h)⟩) rfl (by decide) (z_w hts 2 rfl) (va_Nw.use rfl hTW.2.2.1) hq9 hce hcl ?_
      refine W.eq (g2 := F0 m 19 ls [.ref q9]) rfl ?_
      refine lv_astore (lv' := [(5, .ref q9), (0, .ref (x 0)), (1, .int x1), (2, .int x2), (3, .int x3), (4, .ref o)]) hx hb dL_place_19 hl (by decide) rfl (fun ls hl => ?_)
      refine lv_iconst (v := (2 : Int32)) hx hb dL_place_21 (by decide) ?_
      refine W.widen (k := 2) (n := 12) (Nat.le_of_ble_eq_true rfl) (Nat.le_of_ble_eq_true rfl) (vx_ret ?_)
      exact W.iret (v := (2 : Int32)) hx hb hr (fun t ht hW => ⟨⟨(2 : Int32), (f, u1_0, u1_1, u1_2, u1_3), rfl, hw, by rw [ht]; exact hP, hD⟩, hS.F ht⟩) hS.2.2 dL_place_22 hlocks
  obtain ⟨u1_0, u1_1, u1_2, u1_3⟩ := u1
  obtain ⟨hP1, hD1⟩ := hB
  rw [ht] at hP1
  obtain ⟨hPx, hDx⟩ := z_join hPx hDx hk1 hFc hP1 hD1
  have hP : va_P D vwCl (w_Out cs o f ++ w_Xo cs x tq h a u1_0 ++ w_Text cs tq u1_1 ++ w_Hist cs h a u1_2 ++ linesW cs a 18 u1_3) H := z_perm_P z_outb hPx
  have hD : va_D A (w_Out cs o f ++ w_Xo cs x tq h a u1_0 ++ w_Text cs tq u1_1 ++ w_Hist cs h a u1_2 ++ linesW cs a 18 u1_3) := z_perm_D z_outb hDx
  refine lv_i2l (v := r1.toInt64) hx hb dL_place_10 rfl ?_
  refine va_last hx hb hK hP hD hS 0 3 rfl rfl (show vp_in (0 : Int32) 1 by unfold vp_in; decide) dL_place_11 (fun H locs hP hD hS => ?_)
  have hP : va_P D vwCl (w_Out cs o (vp_updL f (0 : Int32).toNatClampNeg r1.toInt64) ++ w_Xo cs x tq h a u1_0 ++ w_Text cs tq u1_1 ++ w_Hist cs h a u1_2 ++ linesW cs a 18 u1_3) H := hP
  have hD : va_D A (w_Out cs o (vp_updL f (0 : Int32).toNatClampNeg r1.toInt64) ++ w_Xo cs x tq h a u1_0 ++ w_Text cs tq u1_1 ++ w_Hist cs h a u1_2 ++ linesW cs a 18 u1_3) := hD
  refine lv_goto (tgt := 23) hx hb dL_place_12 (by decide) ?_
  refine lv_iconst (v := (0 : Int32)) hx hb dL_place_23 (by decide) ?_
  refine W.widen (k := 2) (n := 12) (Nat.le_of_ble_eq_true rfl) (Nat.le_of_ble_eq_true rfl) (vx_ret ?_)
  exact W.iret (v := (0 : Int32)) hx hb hr (fun t ht hW => ⟨⟨(0 : Int32), (vp_updL f (0 : Int32).toNatClampNeg r1.toInt64, u1_0, u1_1, u1_2, u1_3), rfl, hw, by rw [ht]; exact hP, hD⟩, hS.F ht⟩) hS.2.2 dL_place_24 hlocks
set_option maxHeartbeats 4000000 in
set_option maxRecDepth 100000 in
theorem c_L_place (l : Launch) (hfl : l.stackTraces = false) (D : va_G) (cs : Nat → ClassId) (o : Nat) (x : Nat → Nat) (tq : Nat → Nat) (h : Nat → Nat) (a : Nat → Nat → Nat) (sz : Nat) (sa : Nat → Nat) (f : (Nat → Int64)) (S : XO) (tx : TS) (hs : HS) (Ls : (Nat → LnS)) (x1 : Int32) (x2 : Int32) (x3 : Int32) (Q : Int32 → (Nat → Int64) → XO → TS → HS → (Nat → LnS) → Prop) (hw : wp_L_place f S tx hs Ls x1 x2 x3 Q) : vx_Met l yL_place wsL_place ({ frames := 8, cells := 2, slots := 12, locals := 128 } : Room) (va_Pc [.ref (x 0), .int x1, .int x2, .int x3, .ref o] (PX D cs (w_Out cs o f ++ w_Xo cs x tq h a S ++ w_Text cs tq tx ++ w_Hist cs h a hs ++ linesW cs a 18 Ls) sa sz)) (va_Qi (fun r (u : (Nat → Int64) × XO × TS × HS × (Nat → LnS)) => Q r u.1 u.2.1 u.2.2.1 u.2.2.2.1 u.2.2.2.2) (fun (u : (Nat → Int64) × XO × TS × HS × (Nat → LnS)) t => va_P D vwCl (w_Out cs o u.1 ++ w_Xo cs x tq h a u.2.1 ++ w_Text cs tq u.2.2.1 ++ w_Hist cs h a u.2.2.2.1 ++ linesW cs a 18 u.2.2.2.2) t.heap ∧ va_D (va_A (w_Out cs o f ++ w_Xo cs x tq h a S ++ w_Text cs tq tx ++ w_Hist cs h a hs ++ linesW cs a 18 Ls) sz) (w_Out cs o u.1 ++ w_Xo cs x tq h a u.2.1 ++ w_Text cs tq u.2.2.1 ++ w_Hist cs h a u.2.2.2.1 ++ linesW cs a 18 u.2.2.2.2)) (va_A (w_Out cs o f ++ w_Xo cs x tq h a S ++ w_Text cs tq tx ++ w_Hist cs h a hs ++ linesW cs a 18 Ls) sz)) (vx_X (fun (_ : Unit) => False) (fun _ _ _ => True) (va_A (w_Out cs o f ++ w_Xo cs x tq h a S ++ w_Text cs tq tx ++ w_Hist cs h a hs ++ linesW cs a 18 Ls) sz)) 2 12 (va_A (w_Out cs o f ++ w_Xo cs x tq h a S ++ w_Text cs tq tx ++ w_Hist cs h a hs ++ linesW cs a 18 Ls) sz) := by
  refine vx_ofWH (cc := cL_place) (maxL := 6) (ret := (some .int)) (by decide) rfl ?_
  intro p e s m args below meth c s₁ B hml hv
  obtain ⟨rfl, ⟨hsz, hP, hKK, hD0⟩, hTW, hTZ⟩ := hv
  have hTab := vx_table (x := yL_place) B (atoms_spec (ws := wsL_place) B.pre _ List.mem_cons_self)
  have hC : MAt p s m _ meth c RL cL_place 6 (some .int) wsL_place D cs := ⟨B.exec, B.bytes, B.returns, hml, findClass_of_methodNamed B.named, atoms_spec (ws := wsL_place) B.pre, B.notSynchronized, hKK⟩
  have hl := lv_entry ([.ref (x 0), .int x1, .int x2, .int x3, .ref o]) (n := 6) (Nat.le_of_ble_eq_true rfl)
  rw [lg_entry_eq]
  generalize (lg_sl ([.ref (x 0), .int x1, .int x2, .int x3, .ref o]) ++ List.replicate (6 - (lg_sl ([.ref (x 0), .int x1, .int x2, .int x3, .ref o])).length) Slot.unset).toArray = ls at hl ⊢
  subst hsz
  have hD := hD0.self (sz := s.heap.size)
  have hA : ∀ z : Nat, s.heap.size ≤ z → va_A (w_Out cs o f ++ w_Xo cs x tq h a S ++ w_Text cs tq tx ++ w_Hist cs h a hs ++ linesW cs a 18 Ls) s.heap.size z := fun z h => Or.inr h
  exact t_L_place hC hfl hTab hTW hTZ o x tq h a f S tx hs Ls x1 x2 x3 Q hA hw s.heap [] hP hD va_S.rf ls hl
set_option maxHeartbeats 4000000 in
set_option maxRecDepth 100000 in
theorem t_L_ticket {p : Program} {l : Launch} {e : Env} {s : State} {m : MethodId} {args : Array Value} {below : List Frame} {meth : Method} {c : Code} {D : va_G} {cs : Nat → ClassId} {A : Nat → Prop} (hC : MAt p s m args meth c RL cL_ticket 5 (some .int) wsL_ticket D cs) (hfl : l.stackTraces = false) (hTab : c.exceptionTable.toList = tableOf [(0, 9, 12, 27), (0, 9, 16, 13)]) {sa : Nat → Nat} (hTW : TW sa s) (hTZ : TZ A s s.heap) (o : Nat) (x : Nat → Nat) (tq : Nat → Nat) (h : Nat → Nat) (a : Nat → Nat → Nat) (f : (Nat → Int64)) (S : XO) (tx : TS) (hs : HS) (Ls : (Nat → LnS)) (x1 : Int32) (x2 : Int32) (Q : Int32 → (Nat → Int64) → XO → TS → HS → (Nat → LnS) → Prop) (hA : ∀ q : Nat, s.heap.size ≤ q → A q) (hw : wp_L_ticket f S tx hs Ls x1 x2 Q) (H : Heap) (locs : List Loc) (hP : va_P D vwCl (w_Out cs o f ++ w_Xo cs x tq h a S ++ w_Text cs tq tx ++ w_Hist cs h a hs ++ linesW cs a 18 Ls) H) (hD : va_D A (w_Out cs o f ++ w_Xo cs x tq h a S ++ w_Text cs tq tx ++ w_Hist cs h a hs ++ linesW cs a 18 Ls)) (hS : va_S A s.heap H locs) (ls : Array Slot) (hl : lv_has ls 5 [(0, .ref (x 0)), (1, .int x1), (2, .int x2), (3, .ref o)]) : W p l e ({ frames := 8, cells := 2, slots := 12, locals := 126 } : Room) s m args below meth c H locs 0 0 (vx_MQ below (va_Qi (fun r (u : (Nat → Int64) × XO × TS × HS × (Nat → LnS)) => Q r u.1 u.2.1 u.2.2.1 u.2.2.2.1 u.2.2.2.2) (fun (u : (Nat → Int64) × XO × TS × HS × (Nat → LnS)) t => va_P D vwCl (w_Out cs o u.1 ++ w_Xo cs x tq h a u.2.1 ++ w_Text cs tq u.2.2.1 ++ w_Hist cs h a u.2.2.2.1 ++ linesW cs a 18 u.2.2.2.2) t.heap ∧ va_D A (w_Out cs o u.1 ++ w_Xo cs x tq h a u.2.1 ++ w_Text cs tq u.2.2.1 ++ w_Hist cs h a u.2.2.2.1 ++ linesW cs a 18 u.2.2.2.2)) A) (vx_X (fun (_ : Unit) => False) (fun _ _ _ => True) A) args s 2 12 A) (F0 m 0 ls []) := by
  obtain ⟨hx, hb, hr, hml, hown, hts, hlocks, hKK⟩ := id hC
  have hK := hKK.1
  refine lv_aload_n hx hb dL_ticket_0 rfl (lv_at hl 3 rfl) ?_
  refine lv_iconst (v := (0 : Int32)) hx hb dL_ticket_1 (by decide) ?_
  refine lv_aload_n hx hb dL_ticket_2 rfl (lv_at hl 0 rfl) ?_
  refine lv_iload_n hx hb dL_ticket_3 rfl (lv_at hl 1 rfl) ?_
  refine lv_iload_n hx hb dL_ticket_4 rfl (lv_at hl 2 rfl) ?_
  have hPx := z_perm_P z_out hP
  have hDx := z_perm_D z_out hD
  have hPc := (z_app_P hPx).1
  have hDc := (z_app_D hDx).1
  have hFc := z_free hDx hS hA
  refine vx_calll (vx_runV (As := [.int x1, .int x2]) (rest := [.int (0 : Int32), .ref o]) ⟨hx, hb, hml, hown, hts⟩ (c_X3_ticket l hfl D cs x tq h a H.size sa S tx hs Ls x1 x2 _ _ hw) (cwV 2 hts gL_ticket_X3_ticket rfl rfl rfl (by decide +kernel) ⟨Nat.le_of_ble_eq_true rfl, Nat.le_of_ble_eq_true rfl⟩) (PX_V hPc hDc hKK hTW hTZ hS hFc 0 3 rfl rfl) rfl rfl hl.1 rfl (lv_room (Nat.le_of_ble_eq_true rfl)) dL_ticket_5 ⟨Nat.le_of_ble_eq_true rfl, Nat.le_of_ble_eq_true rfl⟩) hS (fun q _ h => hFc q h) hFc (fun q _ h => hFc q h) ?_ (fun r1 u1 t H locs ht hvm hw hB hz1 hk1 hS => ?_)
  · intro E ce q9 u1 t H locs ht hvm hpx hB hz1 hk1 hS hq9 hce hcl
    obtain ⟨u1_0, u1_1, u1_2, u1_3⟩ := u1
    obtain ⟨hw, hP1, hD1⟩ := hB
    rw [ht] at hP1
    obtain ⟨hPx, hDx⟩ := z_join hPx hDx hk1 hFc hP1 hD1
    have hP : va_P D vwCl (w_Out cs o f ++ w_Xo cs x tq h a u1_0 ++ w_Text cs tq u1_1 ++ w_Hist cs h a u1_2 ++ linesW cs a 18 u1_3) H := z_perm_P z_outb hPx
    have hD : va_D A (w_Out cs o f ++ w_Xo cs x tq h a u1_0 ++ w_Text cs tq u1_1 ++ w_Hist cs h a u1_2 ++ linesW cs a 18 u1_3) := z_perm_D z_outb hDx
    obtain ⟨hor, hw⟩ := hw
    rcases hor with rfl | rfl
    · have hw := hw.1 rfl
      refine vx_catch (name := eIOB) hown [] ⟨0, 9, 12, 27⟩ [⟨0, 9, 16, 13⟩] (by rw [hTab]; rfl) (fun _ h => nomatch h) rfl (by decide) (z_w hts 1 rfl) (va_Nw.use rfl hTW.2.2.2.1) hq9 hce hcl ?_
      refine W.eq (g2 := F0 m 12 ls [.ref q9]) rfl ?_
      refine lv_astore (lv' := [(4, .ref q9), (0, .ref (x 0)), (1, .int x1), (2, .int x2), (3, .ref o)]) hx hb dL_ticket_12 hl (by decide) rfl (fun ls hl => ?_)
      refine lv_iconst (v := (1 : Int32)) hx hb dL_ticket_14 (by decide) ?_
      refine W.widen (k := 2) (n := 12) (Nat.le_of_ble_eq_true rfl) (Nat.le_of_ble_eq_true rfl) (vx_ret ?_)
      exact W.iret (v := (1 : Int32)) hx hb hr (fun t ht hW => ⟨⟨(1 : Int32), (f, u1_0, u1_1, u1_2, u1_3), rfl, hw, by rw [ht]; exact hP, hD⟩, hS.F ht⟩) hS.2.2 dL_ticket_15 hlocks
    · have hw := hw.2 rfl
      refine vx_catch (name := eIAE) hown [⟨0, 9, 12, 27⟩] ⟨0, 9, 16, 13⟩ [] (by rw [hTab]; rfl) (List.forall_mem_cons.mpr ⟨Or.inr ⟨by decide, _, z_w hts 1 rfl, hTW.2.2.2.2.2.2.2.1⟩, (fun _ h => nomatch h)⟩) rfl (by decide) (z_w hts 2 rfl) (va_Nw.use rfl hTW.2.2.1) hq9 hce hcl ?_
      refine W.eq (g2 := F0 m 16 ls [.ref q9]) rfl ?_
      refine lv_astore (lv' := [(4, .ref q9), (0, .ref (x 0)), (1, .int x1), (2, .int x2), (3, .ref o)]) hx hb dL_ticket_16 hl (by decide) rfl (fun ls hl => ?_)
      refine lv_iconst (v := (2 : Int32)) hx hb dL_ticket_18 (by decide) ?_
      refine W.widen (k := 2) (n := 12) (Nat.le_of_ble_eq_true rfl) (Nat.le_of_ble_eq_true rfl) (vx_ret ?_)
      exact W.iret (v := (2 : Int32)) hx hb hr (fun t ht hW => ⟨⟨(2 : Int32), (f, u1_0, u1_1, u1_2, u1_3), rfl, hw, by rw [ht]; exact hP, hD⟩, hS.F ht⟩) hS.2.2 dL_ticket_19 hlocks
  obtain ⟨u1_0, u1_1, u1_2, u1_3⟩ := u1
  obtain ⟨hP1, hD1⟩ := hB
  rw [ht] at hP1
  obtain ⟨hPx, hDx⟩ := z_join hPx hDx hk1 hFc hP1 hD1
  have hP : va_P D vwCl (w_Out cs o f ++ w_Xo cs x tq h a u1_0 ++ w_Text cs tq u1_1 ++ w_Hist cs h a u1_2 ++ linesW cs a 18 u1_3) H := z_perm_P z_outb hPx
  have hD : va_D A (w_Out cs o f ++ w_Xo cs x tq h a u1_0 ++ w_Text cs tq u1_1 ++ w_Hist cs h a u1_2 ++ linesW cs a 18 u1_3) := z_perm_D z_outb hDx
  refine va_last hx hb hK hP hD hS 0 3 rfl rfl (show vp_in (0 : Int32) 1 by unfold vp_in; decide) dL_ticket_8 (fun H locs hP hD hS => ?_)
  have hP : va_P D vwCl (w_Out cs o (vp_updL f (0 : Int32).toNatClampNeg r1) ++ w_Xo cs x tq h a u1_0 ++ w_Text cs tq u1_1 ++ w_Hist cs h a u1_2 ++ linesW cs a 18 u1_3) H := hP
  have hD : va_D A (w_Out cs o (vp_updL f (0 : Int32).toNatClampNeg r1) ++ w_Xo cs x tq h a u1_0 ++ w_Text cs tq u1_1 ++ w_Hist cs h a u1_2 ++ linesW cs a 18 u1_3) := hD
  refine lv_goto (tgt := 20) hx hb dL_ticket_9 (by decide) ?_
  refine lv_iconst (v := (0 : Int32)) hx hb dL_ticket_20 (by decide) ?_
  refine W.widen (k := 2) (n := 12) (Nat.le_of_ble_eq_true rfl) (Nat.le_of_ble_eq_true rfl) (vx_ret ?_)
  exact W.iret (v := (0 : Int32)) hx hb hr (fun t ht hW => ⟨⟨(0 : Int32), (vp_updL f (0 : Int32).toNatClampNeg r1, u1_0, u1_1, u1_2, u1_3), rfl, hw, by rw [ht]; exact hP, hD⟩, hS.F ht⟩) hS.2.2 dL_ticket_21 hlocks
set_option maxHeartbeats 4000000 in
set_option maxRecDepth 100000 in
theorem c_L_ticket (l : Launch) (hfl : l.stackTraces = false) (D : va_G) (cs : Nat → ClassId) (o : Nat) (x : Nat → Nat) (tq : Nat → Nat) (h : Nat → Nat) (a : Nat → Nat → Nat) (sz : Nat) (sa : Nat → Nat) (f : (Nat → Int64)) (S : XO) (tx : TS) (hs : HS) (Ls : (Nat → LnS)) (x1 : Int32) (x2 : Int32) (Q : Int32 → (Nat → Int64) → XO → TS → HS → (Nat → LnS) → Prop) (hw : wp_L_ticket f S tx hs Ls x1 x2 Q) : vx_Met l yL_ticket wsL_ticket ({ frames := 8, cells := 2, slots := 12, locals := 126 } : Room) (va_Pc [.ref (x 0), .int x1, .int x2, .ref o] (PX D cs (w_Out cs o f ++ w_Xo cs x tq h a S ++ w_Text cs tq tx ++ w_Hist cs h a hs ++ linesW cs a 18 Ls) sa sz)) (va_Qi (fun r (u : (Nat → Int64) × XO × TS × HS × (Nat → LnS)) => Q r u.1 u.2.1 u.2.2.1 u.2.2.2.1 u.2.2.2.2) (fun (u : (Nat → Int64) × XO × TS × HS × (Nat → LnS)) t => va_P D vwCl (w_Out cs o u.1 ++ w_Xo cs x tq h a u.2.1 ++ w_Text cs tq u.2.2.1 ++ w_Hist cs h a u.2.2.2.1 ++ linesW cs a 18 u.2.2.2.2) t.heap ∧ va_D (va_A (w_Out cs o f ++ w_Xo cs x tq h a S ++ w_Text cs tq tx ++ w_Hist cs h a hs ++ linesW cs a 18 Ls) sz) (w_Out cs o u.1 ++ w_Xo cs x tq h a u.2.1 ++ w_Text cs tq u.2.2.1 ++ w_Hist cs h a u.2.2.2.1 ++ linesW cs a 18 u.2.2.2.2)) (va_A (w_Out cs o f ++ w_Xo cs x tq h a S ++ w_Text cs tq tx ++ w_Hist cs h a hs ++ linesW cs a 18 Ls) sz)) (vx_X (fun (_ : Unit) => False) (fun _ _ _ => True) (va_A (w_Out cs o f ++ w_Xo cs x tq h a S ++ w_Text cs tq tx ++ w_Hist cs h a hs ++ linesW cs a 18 Ls) sz)) 2 12 (va_A (w_Out cs o f ++ w_Xo cs x tq h a S ++ w_Text cs tq tx ++ w_Hist cs h a hs ++ linesW cs a 18 Ls) sz) := by
  refine vx_ofWH (cc := cL_ticket) (maxL := 5) (ret := (some .int)) (by decide) rfl ?_
  intro p e s m args below meth c s₁ B hml hv
  obtain ⟨rfl, ⟨hsz, hP, hKK, hD0⟩, hTW, hTZ⟩ := hv
  have hTab := vx_table (x := yL_ticket) B (atoms_spec (ws := wsL_ticket) B.pre _ List.mem_cons_self)
  have hC : MAt p s m _ meth c RL cL_ticket 5 (some .int) wsL_ticket D cs := ⟨B.exec, B.bytes, B.returns, hml, findClass_of_methodNamed B.named, atoms_spec (ws := wsL_ticket) B.pre, B.notSynchronized, hKK⟩
  have hl := lv_entry ([.ref (x 0), .int x1, .int x2, .ref o]) (n := 5) (Nat.le_of_ble_eq_true rfl)
  rw [lg_entry_eq]
  generalize (lg_sl ([.ref (x 0), .int x1, .int x2, .ref o]) ++ List.replicate (5 - (lg_sl ([.ref (x 0), .int x1, .int x2, .ref o])).length) Slot.unset).toArray = ls at hl ⊢
  subst hsz
  have hD := hD0.self (sz := s.heap.size)
  have hA : ∀ z : Nat, s.heap.size ≤ z → va_A (w_Out cs o f ++ w_Xo cs x tq h a S ++ w_Text cs tq tx ++ w_Hist cs h a hs ++ linesW cs a 18 Ls) s.heap.size z := fun z h => Or.inr h
  exact t_L_ticket hC hfl hTab hTW hTZ o x tq h a f S tx hs Ls x1 x2 Q hA hw s.heap [] hP hD va_S.rf ls hl
set_option maxHeartbeats 4000000 in
set_option maxRecDepth 100000 in
theorem t_L_sorted {p : Program} {l : Launch} {e : Env} {s : State} {m : MethodId} {args : Array Value} {below : List Frame} {meth : Method} {c : Code} {D : va_G} {cs : Nat → ClassId} {A : Nat → Prop} (hC : MAt p s m args meth c RL cL_sorted 4 (some .int) wsL_sorted D cs) (hfl : l.stackTraces = false) (hTab : c.exceptionTable.toList = tableOf [(0, 9, 12, 27)]) {sa : Nat → Nat} (hTW : TW sa s) (hTZ : TZ A s s.heap) (o : Nat) (x : Nat → Nat) (tq : Nat → Nat) (h : Nat → Nat) (a : Nat → Nat → Nat) (f : (Nat → Int64)) (S : XO) (tx : TS) (hs : HS) (Ls : (Nat → LnS)) (x1 : Int32) (Q : Int32 → (Nat → Int64) → XO → TS → HS → (Nat → LnS) → Prop) (hA : ∀ q : Nat, s.heap.size ≤ q → A q) (hw : wp_L_sorted f S tx hs Ls x1 Q) (H : Heap) (locs : List Loc) (hP : va_P D vwCl (w_Out cs o f ++ w_Xo cs x tq h a S ++ w_Text cs tq tx ++ w_Hist cs h a hs ++ linesW cs a 18 Ls) H) (hD : va_D A (w_Out cs o f ++ w_Xo cs x tq h a S ++ w_Text cs tq tx ++ w_Hist cs h a hs ++ linesW cs a 18 Ls)) (hS : va_S A s.heap H locs) (ls : Array Slot) (hl : lv_has ls 4 [(0, .ref (x 0)), (1, .int x1), (2, .ref o)]) : W p l e ({ frames := 8, cells := 1, slots := 6, locals := 125 } : Room) s m args below meth c H locs 0 0 (vx_MQ below (va_Qi (fun r (u : (Nat → Int64) × XO × TS × HS × (Nat → LnS)) => Q r u.1 u.2.1 u.2.2.1 u.2.2.2.1 u.2.2.2.2) (fun (u : (Nat → Int64) × XO × TS × HS × (Nat → LnS)) t => va_P D vwCl (w_Out cs o u.1 ++ w_Xo cs x tq h a u.2.1 ++ w_Text cs tq u.2.2.1 ++ w_Hist cs h a u.2.2.2.1 ++ linesW cs a 18 u.2.2.2.2) t.heap ∧ va_D A (w_Out cs o u.1 ++ w_Xo cs x tq h a u.2.1 ++ w_Text cs tq u.2.2.1 ++ w_Hist cs h a u.2.2.2.1 ++ linesW cs a 18 u.2.2.2.2)) A) (vx_X (fun (_ : Unit) => False) (fun _ _ _ => True) A) args s 1 6 A) (F0 m 0 ls []) := by
  obtain ⟨hx, hb, hr, hml, hown, hts, hlocks, hKK⟩ := id hC
  have hK := hKK.1
  refine lv_aload_n hx hb dL_sorted_0 rfl (lv_at hl 2 rfl) ?_
  refine lv_iconst (v := (0 : Int32)) hx hb dL_sorted_1 (by decide) ?_
  refine lv_aload_n hx hb dL_sorted_2 rfl (lv_at hl 0 rfl) ?_
  refine lv_iload_n hx hb dL_sorted_3 rfl (lv_at hl 1 rfl) ?_
  have hPx := z_perm_P z_out hP
  have hDx := z_perm_D z_out hD
  have hPc := (z_app_P hPx).1
  have hDc := (z_app_D hDx).1
  have hFc := z_free hDx hS hA
  refine vx_calli (vx_runV (As := [.int x1]) (rest := [.int (0 : Int32), .ref o]) ⟨hx, hb, hml, hown, hts⟩ (c_X3_sorted l hfl D cs x tq h a H.size sa S tx hs Ls x1 _ _ hw) (cwV 1 hts gL_sorted_X3_sorted rfl rfl rfl (by decide +kernel) ⟨Nat.le_of_ble_eq_true rfl, Nat.le_of_ble_eq_true rfl⟩) (PX_V hPc hDc hKK hTW hTZ hS hFc 0 3 rfl rfl) rfl rfl hl.1 rfl (lv_room (Nat.le_of_ble_eq_true rfl)) dL_sorted_4 ⟨Nat.le_of_ble_eq_true rfl, Nat.le_of_ble_eq_true rfl⟩) hS (fun q _ h => hFc q h) hFc (fun q _ h => hFc q h) ?_ (fun r1 u1 t H locs ht hvm hw hB hz1 hk1 hS => ?_)
  · intro E ce q9 u1 t H locs ht hvm hpx hB hz1 hk1 hS hq9 hce hcl
    obtain ⟨u1_0, u1_1, u1_2, u1_3⟩ := u1
    obtain ⟨hw, hP1, hD1⟩ := hB
    rw [ht] at hP1
    obtain ⟨hPx, hDx⟩ := z_join hPx hDx hk1 hFc hP1 hD1
    have hP : va_P D vwCl (w_Out cs o f ++ w_Xo cs x tq h a u1_0 ++ w_Text cs tq u1_1 ++ w_Hist cs h a u1_2 ++ linesW cs a 18 u1_3) H := z_perm_P z_outb hPx
    have hD : va_D A (w_Out cs o f ++ w_Xo cs x tq h a u1_0 ++ w_Text cs tq u1_1 ++ w_Hist cs h a u1_2 ++ linesW cs a 18 u1_3) := z_perm_D z_outb hDx
    obtain ⟨hor, hw⟩ := hw
    subst hor
    · have hw := hw rfl
      refine vx_catch (name := eIOB) hown [] ⟨0, 9, 12, 27⟩ [] (by rw [hTab]; rfl) (fun _ h => nomatch h) rfl (by decide) (z_w hts 1 rfl) (va_Nw.use rfl hTW.2.2.2.1) hq9 hce hcl ?_
      refine W.eq (g2 := F0 m 12 ls [.ref q9]) rfl ?_
      refine lv_astore_n (lv' := [(3, .ref q9), (0, .ref (x 0)), (1, .int x1), (2, .ref o)]) hx hb dL_sorted_12 rfl hl (by decide) rfl (fun ls hl => ?_)
      refine lv_iconst (v := (1 : Int32)) hx hb dL_sorted_13 (by decide) ?_
      refine W.widen (k := 1) (n := 6) (Nat.le_of_ble_eq_true rfl) (Nat.le_of_ble_eq_true rfl) (vx_ret ?_)
      exact W.iret (v := (1 : Int32)) hx hb hr (fun t ht hW => ⟨⟨(1 : Int32), (f, u1_0, u1_1, u1_2, u1_3), rfl, hw, by rw [ht]; exact hP, hD⟩, hS.F ht⟩) hS.2.2 dL_sorted_14 hlocks
  obtain ⟨u1_0, u1_1, u1_2, u1_3⟩ := u1
  obtain ⟨hP1, hD1⟩ := hB
  rw [ht] at hP1
  obtain ⟨hPx, hDx⟩ := z_join hPx hDx hk1 hFc hP1 hD1
  have hP : va_P D vwCl (w_Out cs o f ++ w_Xo cs x tq h a u1_0 ++ w_Text cs tq u1_1 ++ w_Hist cs h a u1_2 ++ linesW cs a 18 u1_3) H := z_perm_P z_outb hPx
  have hD : va_D A (w_Out cs o f ++ w_Xo cs x tq h a u1_0 ++ w_Text cs tq u1_1 ++ w_Hist cs h a u1_2 ++ linesW cs a 18 u1_3) := z_perm_D z_outb hDx
  refine lv_i2l (v := r1.toInt64) hx hb dL_sorted_7 rfl ?_
  refine va_last hx hb hK hP hD hS 0 3 rfl rfl (show vp_in (0 : Int32) 1 by unfold vp_in; decide) dL_sorted_8 (fun H locs hP hD hS => ?_)
  have hP : va_P D vwCl (w_Out cs o (vp_updL f (0 : Int32).toNatClampNeg r1.toInt64) ++ w_Xo cs x tq h a u1_0 ++ w_Text cs tq u1_1 ++ w_Hist cs h a u1_2 ++ linesW cs a 18 u1_3) H := hP
  have hD : va_D A (w_Out cs o (vp_updL f (0 : Int32).toNatClampNeg r1.toInt64) ++ w_Xo cs x tq h a u1_0 ++ w_Text cs tq u1_1 ++ w_Hist cs h a u1_2 ++ linesW cs a 18 u1_3) := hD
  refine lv_goto (tgt := 15) hx hb dL_sorted_9 (by decide) ?_
  refine lv_iconst (v := (0 : Int32)) hx hb dL_sorted_15 (by decide) ?_
  refine W.widen (k := 1) (n := 6) (Nat.le_of_ble_eq_true rfl) (Nat.le_of_ble_eq_true rfl) (vx_ret ?_)
  exact W.iret (v := (0 : Int32)) hx hb hr (fun t ht hW => ⟨⟨(0 : Int32), (vp_updL f (0 : Int32).toNatClampNeg r1.toInt64, u1_0, u1_1, u1_2, u1_3), rfl, hw, by rw [ht]; exact hP, hD⟩, hS.F ht⟩) hS.2.2 dL_sorted_16 hlocks
set_option maxHeartbeats 4000000 in
set_option maxRecDepth 100000 in
theorem c_L_sorted (l : Launch) (hfl : l.stackTraces = false) (D : va_G) (cs : Nat → ClassId) (o : Nat) (x : Nat → Nat) (tq : Nat → Nat) (h : Nat → Nat) (a : Nat → Nat → Nat) (sz : Nat) (sa : Nat → Nat) (f : (Nat → Int64)) (S : XO) (tx : TS) (hs : HS) (Ls : (Nat → LnS)) (x1 : Int32) (Q : Int32 → (Nat → Int64) → XO → TS → HS → (Nat → LnS) → Prop) (hw : wp_L_sorted f S tx hs Ls x1 Q) : vx_Met l yL_sorted wsL_sorted ({ frames := 8, cells := 1, slots := 6, locals := 125 } : Room) (va_Pc [.ref (x 0), .int x1, .ref o] (PX D cs (w_Out cs o f ++ w_Xo cs x tq h a S ++ w_Text cs tq tx ++ w_Hist cs h a hs ++ linesW cs a 18 Ls) sa sz)) (va_Qi (fun r (u : (Nat → Int64) × XO × TS × HS × (Nat → LnS)) => Q r u.1 u.2.1 u.2.2.1 u.2.2.2.1 u.2.2.2.2) (fun (u : (Nat → Int64) × XO × TS × HS × (Nat → LnS)) t => va_P D vwCl (w_Out cs o u.1 ++ w_Xo cs x tq h a u.2.1 ++ w_Text cs tq u.2.2.1 ++ w_Hist cs h a u.2.2.2.1 ++ linesW cs a 18 u.2.2.2.2) t.heap ∧ va_D (va_A (w_Out cs o f ++ w_Xo cs x tq h a S ++ w_Text cs tq tx ++ w_Hist cs h a hs ++ linesW cs a 18 Ls) sz) (w_Out cs o u.1 ++ w_Xo cs x tq h a u.2.1 ++ w_Text cs tq u.2.2.1 ++ w_Hist cs h a u.2.2.2.1 ++ linesW cs a 18 u.2.2.2.2)) (va_A (w_Out cs o f ++ w_Xo cs x tq h a S ++ w_Text cs tq tx ++ w_Hist cs h a hs ++ linesW cs a 18 Ls) sz)) (vx_X (fun (_ : Unit) => False) (fun _ _ _ => True) (va_A (w_Out cs o f ++ w_Xo cs x tq h a S ++ w_Text cs tq tx ++ w_Hist cs h a hs ++ linesW cs a 18 Ls) sz)) 1 6 (va_A (w_Out cs o f ++ w_Xo cs x tq h a S ++ w_Text cs tq tx ++ w_Hist cs h a hs ++ linesW cs a 18 Ls) sz) := by
  refine vx_ofWH (cc := cL_sorted) (maxL := 4) (ret := (some .int)) (by decide) rfl ?_
  intro p e s m args below meth c s₁ B hml hv
  obtain ⟨rfl, ⟨hsz, hP, hKK, hD0⟩, hTW, hTZ⟩ := hv
  have hTab := vx_table (x := yL_sorted) B (atoms_spec (ws := wsL_sorted) B.pre _ List.mem_cons_self)
  have hC : MAt p s m _ meth c RL cL_sorted 4 (some .int) wsL_sorted D cs := ⟨B.exec, B.bytes, B.returns, hml, findClass_of_methodNamed B.named, atoms_spec (ws := wsL_sorted) B.pre, B.notSynchronized, hKK⟩
  have hl := lv_entry ([.ref (x 0), .int x1, .ref o]) (n := 4) (Nat.le_of_ble_eq_true rfl)
  rw [lg_entry_eq]
  generalize (lg_sl ([.ref (x 0), .int x1, .ref o]) ++ List.replicate (4 - (lg_sl ([.ref (x 0), .int x1, .ref o])).length) Slot.unset).toArray = ls at hl ⊢
  subst hsz
  have hD := hD0.self (sz := s.heap.size)
  have hA : ∀ z : Nat, s.heap.size ≤ z → va_A (w_Out cs o f ++ w_Xo cs x tq h a S ++ w_Text cs tq tx ++ w_Hist cs h a hs ++ linesW cs a 18 Ls) s.heap.size z := fun z h => Or.inr h
  exact t_L_sorted hC hfl hTab hTW hTZ o x tq h a f S tx hs Ls x1 Q hA hw s.heap [] hP hD va_S.rf ls hl
set_option maxHeartbeats 4000000 in
set_option maxRecDepth 100000 in
theorem t_L_ranked {p : Program} {l : Launch} {e : Env} {s : State} {m : MethodId} {args : Array Value} {below : List Frame} {meth : Method} {c : Code} {D : va_G} {cs : Nat → ClassId} {A : Nat → Prop} (hC : MAt p s m args meth c RL cL_ranked 5 (some .int) wsL_ranked D cs) (hfl : l.stackTraces = false) (hTab : c.exceptionTable.toList = tableOf [(0, 10, 13, 27)]) {sa : Nat → Nat} (hTW : TW sa s) (hTZ : TZ A s s.heap) (o : Nat) (x : Nat → Nat) (tq : Nat → Nat) (h : Nat → Nat) (a : Nat → Nat → Nat) (f : (Nat → Int64)) (S : XO) (tx : TS) (hs : HS) (Ls : (Nat → LnS)) (x1 : Int32) (x2 : Int32) (Q : Int32 → (Nat → Int64) → XO → TS → HS → (Nat → LnS) → Prop) (hA : ∀ q : Nat, s.heap.size ≤ q → A q) (hw : wp_L_ranked f S tx hs Ls x1 x2 Q) (H : Heap) (locs : List Loc) (hP : va_P D vwCl (w_Out cs o f ++ w_Xo cs x tq h a S ++ w_Text cs tq tx ++ w_Hist cs h a hs ++ linesW cs a 18 Ls) H) (hD : va_D A (w_Out cs o f ++ w_Xo cs x tq h a S ++ w_Text cs tq tx ++ w_Hist cs h a hs ++ linesW cs a 18 Ls)) (hS : va_S A s.heap H locs) (ls : Array Slot) (hl : lv_has ls 5 [(0, .ref (x 0)), (1, .int x1), (2, .int x2), (3, .ref o)]) : W p l e ({ frames := 8, cells := 1, slots := 6, locals := 126 } : Room) s m args below meth c H locs 0 0 (vx_MQ below (va_Qi (fun r (u : (Nat → Int64) × XO × TS × HS × (Nat → LnS)) => Q r u.1 u.2.1 u.2.2.1 u.2.2.2.1 u.2.2.2.2) (fun (u : (Nat → Int64) × XO × TS × HS × (Nat → LnS)) t => va_P D vwCl (w_Out cs o u.1 ++ w_Xo cs x tq h a u.2.1 ++ w_Text cs tq u.2.2.1 ++ w_Hist cs h a u.2.2.2.1 ++ linesW cs a 18 u.2.2.2.2) t.heap ∧ va_D A (w_Out cs o u.1 ++ w_Xo cs x tq h a u.2.1 ++ w_Text cs tq u.2.2.1 ++ w_Hist cs h a u.2.2.2.1 ++ linesW cs a 18 u.2.2.2.2)) A) (vx_X (fun (_ : Unit) => False) (fun _ _ _ => True) A) args s 1 6 A) (F0 m 0 ls []) := by
  obtain ⟨hx, hb, hr, hml, hown, hts, hlocks, hKK⟩ := id hC
  have hK := hKK.1
  refine lv_aload_n hx hb dL_ranked_0 rfl (lv_at hl 3 rfl) ?_
  refine lv_iconst (v := (0 : Int32)) hx hb dL_ranked_1 (by decide) ?_
  refine lv_aload_n hx hb dL_ranked_2 rfl (lv_at hl 0 rfl) ?_
  refine lv_iload_n hx hb dL_ranked_3 rfl (lv_at hl 1 rfl) ?_
  refine lv_iload_n hx hb dL_ranked_4 rfl (lv_at hl 2 rfl) ?_
  have hPx := z_perm_P z_out hP
  have hDx := z_perm_D z_out hD
  have hPc := (z_app_P hPx).1
  have hDc := (z_app_D hDx).1
  have hFc := z_free hDx hS hA
  refine vx_calli (vx_runV (As := [.int x1, .int x2]) (rest := [.int (0 : Int32), .ref o]) ⟨hx, hb, hml, hown, hts⟩ (c_X3_ranked l hfl D cs x tq h a H.size sa S tx hs Ls x1 x2 _ _ hw) (cwV 2 hts gL_ranked_X3_ranked rfl rfl rfl (by decide +kernel) ⟨Nat.le_of_ble_eq_true rfl, Nat.le_of_ble_eq_true rfl⟩) (PX_V hPc hDc hKK hTW hTZ hS hFc 0 3 rfl rfl) rfl rfl hl.1 rfl (lv_room (Nat.le_of_ble_eq_true rfl)) dL_ranked_5 ⟨Nat.le_of_ble_eq_true rfl, Nat.le_of_ble_eq_true rfl⟩) hS (fun q _ h => hFc q h) hFc (fun q _ h => hFc q h) ?_ (fun r1 u1 t H locs ht hvm hw hB hz1 hk1 hS => ?_)
  · intro E ce q9 u1 t H locs ht hvm hpx hB hz1 hk1 hS hq9 hce hcl
    obtain ⟨u1_0, u1_1, u1_2, u1_3⟩ := u1
    obtain ⟨hw, hP1, hD1⟩ := hB
    rw [ht] at hP1
    obtain ⟨hPx, hDx⟩ := z_join hPx hDx hk1 hFc hP1 hD1
    have hP : va_P D vwCl (w_Out cs o f ++ w_Xo cs x tq h a u1_0 ++ w_Text cs tq u1_1 ++ w_Hist cs h a u1_2 ++ linesW cs a 18 u1_3) H := z_perm_P z_outb hPx
    have hD : va_D A (w_Out cs o f ++ w_Xo cs x tq h a u1_0 ++ w_Text cs tq u1_1 ++ w_Hist cs h a u1_2 ++ linesW cs a 18 u1_3) := z_perm_D z_outb hDx
    obtain ⟨hor, hw⟩ := hw
    subst hor
    · have hw := hw rfl
      refine vx_catch (name := eIOB) hown [] ⟨0, 10, 13, 27⟩ [] (by rw [hTab]; rfl) (fun _ h => nomatch h) rfl (by decide) (z_w hts 1 rfl) (va_Nw.use rfl hTW.2.2.2.1) hq9 hce hcl ?_
      refine W.eq (g2 := F0 m 13 ls [.ref q9]) rfl ?_
      refine lv_astore (lv' := [(4, .ref q9), (0, .ref (x 0)), (1, .int x1), (2, .int x2), (3, .ref o)]) hx hb dL_ranked_13 hl (by decide) rfl (fun ls hl => ?_)
      refine lv_iconst (v := (1 : Int32)) hx hb dL_ranked_15 (by decide) ?_
      refine W.widen (k := 1) (n := 6) (Nat.le_of_ble_eq_true rfl) (Nat.le_of_ble_eq_true rfl) (vx_ret ?_)
      exact W.iret (v := (1 : Int32)) hx hb hr (fun t ht hW => ⟨⟨(1 : Int32), (f, u1_0, u1_1, u1_2, u1_3), rfl, hw, by rw [ht]; exact hP, hD⟩, hS.F ht⟩) hS.2.2 dL_ranked_16 hlocks
  obtain ⟨u1_0, u1_1, u1_2, u1_3⟩ := u1
  obtain ⟨hP1, hD1⟩ := hB
  rw [ht] at hP1
  obtain ⟨hPx, hDx⟩ := z_join hPx hDx hk1 hFc hP1 hD1
  have hP : va_P D vwCl (w_Out cs o f ++ w_Xo cs x tq h a u1_0 ++ w_Text cs tq u1_1 ++ w_Hist cs h a u1_2 ++ linesW cs a 18 u1_3) H := z_perm_P z_outb hPx
  have hD : va_D A (w_Out cs o f ++ w_Xo cs x tq h a u1_0 ++ w_Text cs tq u1_1 ++ w_Hist cs h a u1_2 ++ linesW cs a 18 u1_3) := z_perm_D z_outb hDx
  refine lv_i2l (v := r1.toInt64) hx hb dL_ranked_8 rfl ?_
  refine va_last hx hb hK hP hD hS 0 3 rfl rfl (show vp_in (0 : Int32) 1 by unfold vp_in; decide) dL_ranked_9 (fun H locs hP hD hS => ?_)
  have hP : va_P D vwCl (w_Out cs o (vp_updL f (0 : Int32).toNatClampNeg r1.toInt64) ++ w_Xo cs x tq h a u1_0 ++ w_Text cs tq u1_1 ++ w_Hist cs h a u1_2 ++ linesW cs a 18 u1_3) H := hP
  have hD : va_D A (w_Out cs o (vp_updL f (0 : Int32).toNatClampNeg r1.toInt64) ++ w_Xo cs x tq h a u1_0 ++ w_Text cs tq u1_1 ++ w_Hist cs h a u1_2 ++ linesW cs a 18 u1_3) := hD
  refine lv_goto (tgt := 17) hx hb dL_ranked_10 (by decide) ?_
  refine lv_iconst (v := (0 : Int32)) hx hb dL_ranked_17 (by decide) ?_
  refine W.widen (k := 1) (n := 6) (Nat.le_of_ble_eq_true rfl) (Nat.le_of_ble_eq_true rfl) (vx_ret ?_)
  exact W.iret (v := (0 : Int32)) hx hb hr (fun t ht hW => ⟨⟨(0 : Int32), (vp_updL f (0 : Int32).toNatClampNeg r1.toInt64, u1_0, u1_1, u1_2, u1_3), rfl, hw, by rw [ht]; exact hP, hD⟩, hS.F ht⟩) hS.2.2 dL_ranked_18 hlocks
set_option maxHeartbeats 4000000 in
set_option maxRecDepth 100000 in
theorem c_L_ranked (l : Launch) (hfl : l.stackTraces = false) (D : va_G) (cs : Nat → ClassId) (o : Nat) (x : Nat → Nat) (tq : Nat → Nat) (h : Nat → Nat) (a : Nat → Nat → Nat) (sz : Nat) (sa : Nat → Nat) (f : (Nat → Int64)) (S : XO) (tx : TS) (hs : HS) (Ls : (Nat → LnS)) (x1 : Int32) (x2 : Int32) (Q : Int32 → (Nat → Int64) → XO → TS → HS → (Nat → LnS) → Prop) (hw : wp_L_ranked f S tx hs Ls x1 x2 Q) : vx_Met l yL_ranked wsL_ranked ({ frames := 8, cells := 1, slots := 6, locals := 126 } : Room) (va_Pc [.ref (x 0), .int x1, .int x2, .ref o] (PX D cs (w_Out cs o f ++ w_Xo cs x tq h a S ++ w_Text cs tq tx ++ w_Hist cs h a hs ++ linesW cs a 18 Ls) sa sz)) (va_Qi (fun r (u : (Nat → Int64) × XO × TS × HS × (Nat → LnS)) => Q r u.1 u.2.1 u.2.2.1 u.2.2.2.1 u.2.2.2.2) (fun (u : (Nat → Int64) × XO × TS × HS × (Nat → LnS)) t => va_P D vwCl (w_Out cs o u.1 ++ w_Xo cs x tq h a u.2.1 ++ w_Text cs tq u.2.2.1 ++ w_Hist cs h a u.2.2.2.1 ++ linesW cs a 18 u.2.2.2.2) t.heap ∧ va_D (va_A (w_Out cs o f ++ w_Xo cs x tq h a S ++ w_Text cs tq tx ++ w_Hist cs h a hs ++ linesW cs a 18 Ls) sz) (w_Out cs o u.1 ++ w_Xo cs x tq h a u.2.1 ++ w_Text cs tq u.2.2.1 ++ w_Hist cs h a u.2.2.2.1 ++ linesW cs a 18 u.2.2.2.2)) (va_A (w_Out cs o f ++ w_Xo cs x tq h a S ++ w_Text cs tq tx ++ w_Hist cs h a hs ++ linesW cs a 18 Ls) sz)) (vx_X (fun (_ : Unit) => False) (fun _ _ _ => True) (va_A (w_Out cs o f ++ w_Xo cs x tq h a S ++ w_Text cs tq tx ++ w_Hist cs h a hs ++ linesW cs a 18 Ls) sz)) 1 6 (va_A (w_Out cs o f ++ w_Xo cs x tq h a S ++ w_Text cs tq tx ++ w_Hist cs h a hs ++ linesW cs a 18 Ls) sz) := by
  refine vx_ofWH (cc := cL_ranked) (maxL := 5) (ret := (some .int)) (by decide) rfl ?_
  intro p e s m args below meth c s₁ B hml hv
  obtain ⟨rfl, ⟨hsz, hP, hKK, hD0⟩, hTW, hTZ⟩ := hv
  have hTab := vx_table (x := yL_ranked) B (atoms_spec (ws := wsL_ranked) B.pre _ List.mem_cons_self)
  have hC : MAt p s m _ meth c RL cL_ranked 5 (some .int) wsL_ranked D cs := ⟨B.exec, B.bytes, B.returns, hml, findClass_of_methodNamed B.named, atoms_spec (ws := wsL_ranked) B.pre, B.notSynchronized, hKK⟩
  have hl := lv_entry ([.ref (x 0), .int x1, .int x2, .ref o]) (n := 5) (Nat.le_of_ble_eq_true rfl)
  rw [lg_entry_eq]
  generalize (lg_sl ([.ref (x 0), .int x1, .int x2, .ref o]) ++ List.replicate (5 - (lg_sl ([.ref (x 0), .int x1, .int x2, .ref o])).length) Slot.unset).toArray = ls at hl ⊢
  subst hsz
  have hD := hD0.self (sz := s.heap.size)
  have hA : ∀ z : Nat, s.heap.size ≤ z → va_A (w_Out cs o f ++ w_Xo cs x tq h a S ++ w_Text cs tq tx ++ w_Hist cs h a hs ++ linesW cs a 18 Ls) s.heap.size z := fun z h => Or.inr h
  exact t_L_ranked hC hfl hTab hTW hTZ o x tq h a f S tx hs Ls x1 x2 Q hA hw s.heap [] hP hD va_S.rf ls hl
set_option maxHeartbeats 4000000 in
set_option maxRecDepth 100000 in
theorem t_L_add {p : Program} {l : Launch} {e : Env} {s : State} {m : MethodId} {args : Array Value} {below : List Frame} {meth : Method} {c : Code} {D : va_G} {cs : Nat → ClassId} {A : Nat → Prop} (hC : MAt p s m args meth c RL cL_add 5 (some .int) wsL_add D cs) (hfl : l.stackTraces = false) (hTab : c.exceptionTable.toList = tableOf [(0, 10, 13, 27), (0, 10, 17, 13), (0, 10, 21, 15)]) {sa : Nat → Nat} (hTW : TW sa s) (hTZ : TZ A s s.heap) (o : Nat) (x : Nat → Nat) (tq : Nat → Nat) (h : Nat → Nat) (a : Nat → Nat → Nat) (f : (Nat → Int64)) (S : XO) (tx : TS) (hs : HS) (Ls : (Nat → LnS)) (x1 : Int32) (x2 : Int32) (Q : Int32 → (Nat → Int64) → XO → TS → HS → (Nat → LnS) → Prop) (hA : ∀ q : Nat, s.heap.size ≤ q → A q) (hw : wp_L_add f S tx hs Ls x1 x2 Q) (H : Heap) (locs : List Loc) (hP : va_P D vwCl (w_Out cs o f ++ w_Xo cs x tq h a S ++ w_Text cs tq tx ++ w_Hist cs h a hs ++ linesW cs a 18 Ls) H) (hD : va_D A (w_Out cs o f ++ w_Xo cs x tq h a S ++ w_Text cs tq tx ++ w_Hist cs h a hs ++ linesW cs a 18 Ls)) (hS : va_S A s.heap H locs) (ls : Array Slot) (hl : lv_has ls 5 [(0, .ref (x 0)), (1, .int x1), (2, .int x2), (3, .ref o)]) : W p l e ({ frames := 8, cells := 3, slots := 18, locals := 126 } : Room) s m args below meth c H locs 0 0 (vx_MQ below (va_Qi (fun r (u : (Nat → Int64) × XO × TS × HS × (Nat → LnS)) => Q r u.1 u.2.1 u.2.2.1 u.2.2.2.1 u.2.2.2.2) (fun (u : (Nat → Int64) × XO × TS × HS × (Nat → LnS)) t => va_P D vwCl (w_Out cs o u.1 ++ w_Xo cs x tq h a u.2.1 ++ w_Text cs tq u.2.2.1 ++ w_Hist cs h a u.2.2.2.1 ++ linesW cs a 18 u.2.2.2.2) t.heap ∧ va_D A (w_Out cs o u.1 ++ w_Xo cs x tq h a u.2.1 ++ w_Text cs tq u.2.2.1 ++ w_Hist cs h a u.2.2.2.1 ++ linesW cs a 18 u.2.2.2.2)) A) (vx_X (fun (_ : Unit) => False) (fun _ _ _ => True) A) args s 3 18 A) (F0 m 0 ls []) := by
  obtain ⟨hx, hb, hr, hml, hown, hts, hlocks, hKK⟩ := id hC
  have hK := hKK.1
  refine lv_aload_n hx hb dL_add_0 rfl (lv_at hl 3 rfl) ?_
  refine lv_iconst (v := (0 : Int32)) hx hb dL_add_1 (by decide) ?_
  refine lv_aload_n hx hb dL_add_2 rfl (lv_at hl 0 rfl) ?_
  refine lv_iload_n hx hb dL_add_3 rfl (lv_at hl 1 rfl) ?_
  refine lv_iload_n hx hb dL_add_4 rfl (lv_at hl 2 rfl) ?_
  have hPx := z_perm_P z_out hP
  have hDx := z_perm_D z_out hD
  have hPc := (z_app_P hPx).1
  have hDc := (z_app_D hDx).1
  have hFc := z_free hDx hS hA
  refine vx_calli (vx_runV (As := [.int x1, .int x2]) (rest := [.int (0 : Int32), .ref o]) ⟨hx, hb, hml, hown, hts⟩ (c_X3_add l hfl D cs x tq h a H.size sa S tx hs Ls x1 x2 _ _ hw) (cwV 2 hts gL_add_X3_add rfl rfl rfl (by decide +kernel) ⟨Nat.le_of_ble_eq_true rfl, Nat.le_of_ble_eq_true rfl⟩) (PX_V hPc hDc hKK hTW hTZ hS hFc 0 3 rfl rfl) rfl rfl hl.1 rfl (lv_room (Nat.le_of_ble_eq_true rfl)) dL_add_5 ⟨Nat.le_of_ble_eq_true rfl, Nat.le_of_ble_eq_true rfl⟩) hS (fun q _ h => hFc q h) hFc (fun q _ h => hFc q h) ?_ (fun r1 u1 t H locs ht hvm hw hB hz1 hk1 hS => ?_)
  · intro E ce q9 u1 t H locs ht hvm hpx hB hz1 hk1 hS hq9 hce hcl
    obtain ⟨u1_0, u1_1, u1_2, u1_3⟩ := u1
    obtain ⟨hw, hP1, hD1⟩ := hB
    rw [ht] at hP1
    obtain ⟨hPx, hDx⟩ := z_join hPx hDx hk1 hFc hP1 hD1
    have hP : va_P D vwCl (w_Out cs o f ++ w_Xo cs x tq h a u1_0 ++ w_Text cs tq u1_1 ++ w_Hist cs h a u1_2 ++ linesW cs a 18 u1_3) H := z_perm_P z_outb hPx
    have hD : va_D A (w_Out cs o f ++ w_Xo cs x tq h a u1_0 ++ w_Text cs tq u1_1 ++ w_Hist cs h a u1_2 ++ linesW cs a 18 u1_3) := z_perm_D z_outb hDx
    obtain ⟨hor, hw⟩ := hw
    rcases hor with rfl | rfl | rfl
    · have hw := hw.1 rfl
      refine vx_catch (name := eIOB) hown [] ⟨0, 10, 13, 27⟩ [⟨0, 10, 17, 13⟩, ⟨0, 10, 21, 15⟩] (by rw [hTab]; rfl) (fun _ h => nomatch h) rfl (by decide) (z_w hts 1 rfl) (va_Nw.use rfl hTW.2.2.2.1) hq9 hce hcl ?_
      refine W.eq (g2 := F0 m 13 ls [.ref q9]) rfl ?_
      refine lv_astore (lv' := [(4, .ref q9), (0, .ref (x 0)), (1, .int x1), (2, .int x2), (3, .ref o)]) hx hb dL_add_13 hl (by decide) rfl (fun ls hl => ?_)
      refine lv_iconst (v := (1 : Int32)) hx hb dL_add_15 (by decide) ?_
      refine W.widen (k := 3) (n := 18) (Nat.le_of_ble_eq_true rfl) (Nat.le_of_ble_eq_true rfl) (vx_ret ?_)
      exact W.iret (v := (1 : Int32)) hx hb hr (fun t ht hW => ⟨⟨(1 : Int32), (f, u1_0, u1_1, u1_2, u1_3), rfl, hw, by rw [ht]; exact hP, hD⟩, hS.F ht⟩) hS.2.2 dL_add_16 hlocks
    · have hw := hw.2.1 rfl
      refine vx_catch (name := eIAE) hown [⟨0, 10, 13, 27⟩] ⟨0, 10, 17, 13⟩ [⟨0, 10, 21, 15⟩] (by rw [hTab]; rfl) (List.forall_mem_cons.mpr ⟨Or.inr ⟨by decide, _, z_w hts 1 rfl, hTW.2.2.2.2.2.2.2.1⟩, (fun _ h => nomatch h)⟩) rfl (by decide) (z_w hts 2 rfl) (va_Nw.use rfl hTW.2.2.1) hq9 hce hcl ?_
      refine W.eq (g2 := F0 m 17 ls [.ref q9]) rfl ?_
      refine lv_astore (lv' := [(4, .ref q9), (0, .ref (x 0)), (1, .int x1), (2, .int x2), (3, .ref o)]) hx hb dL_add_17 hl (by decide) rfl (fun ls hl => ?_)
      refine lv_iconst (v := (2 : Int32)) hx hb dL_add_19 (by decide) ?_
      refine W.widen (k := 3) (n := 18) (Nat.le_of_ble_eq_true rfl) (Nat.le_of_ble_eq_true rfl) (vx_ret ?_)
      exact W.iret (v := (2 : Int32)) hx hb hr (fun t ht hW => ⟨⟨(2 : Int32), (f, u1_0, u1_1, u1_2, u1_3), rfl, hw, by rw [ht]; exact hP, hD⟩, hS.F ht⟩) hS.2.2 dL_add_20 hlocks
    · have hw := hw.2.2 rfl
      refine vx_catch (name := eISE) hown [⟨0, 10, 13, 27⟩, ⟨0, 10, 17, 13⟩] ⟨0, 10, 21, 15⟩ [] (by rw [hTab]; rfl) (List.forall_mem_cons.mpr ⟨Or.inr ⟨by decide, _, z_w hts 1 rfl, hTW.2.2.2.2.2.1⟩, (List.forall_mem_cons.mpr ⟨Or.inr ⟨by decide, _, z_w hts 2 rfl, hTW.2.2.2.2.1⟩, (fun _ h => nomatch h)⟩)⟩) rfl (by decide) (z_w hts 3 rfl) (va_Nw.use rfl hTW.2.1) hq9 hce hcl ?_
      refine W.eq (g2 := F0 m 21 ls [.ref q9]) rfl ?_
      refine lv_astore (lv' := [(4, .ref q9), (0, .ref (x 0)), (1, .int x1), (2, .int x2), (3, .ref o)]) hx hb dL_add_21 hl (by decide) rfl (fun ls hl => ?_)
      refine lv_iconst (v := (3 : Int32)) hx hb dL_add_23 (by decide) ?_
      refine W.widen (k := 3) (n := 18) (Nat.le_of_ble_eq_true rfl) (Nat.le_of_ble_eq_true rfl) (vx_ret ?_)
      exact W.iret (v := (3 : Int32)) hx hb hr (fun t ht hW => ⟨⟨(3 : Int32), (f, u1_0, u1_1, u1_2, u1_3), rfl, hw, by rw [ht]; exact hP, hD⟩, hS.F ht⟩) hS.2.2 dL_add_24 hlocks
  obtain ⟨u1_0, u1_1, u1_2, u1_3⟩ := u1
  obtain ⟨hP1, hD1⟩ := hB
  rw [ht] at hP1
  obtain ⟨hPx, hDx⟩ := z_join hPx hDx hk1 hFc hP1 hD1
  have hP : va_P D vwCl (w_Out cs o f ++ w_Xo cs x tq h a u1_0 ++ w_Text cs tq u1_1 ++ w_Hist cs h a u1_2 ++ linesW cs a 18 u1_3) H := z_perm_P z_outb hPx
  have hD : va_D A (w_Out cs o f ++ w_Xo cs x tq h a u1_0 ++ w_Text cs tq u1_1 ++ w_Hist cs h a u1_2 ++ linesW cs a 18 u1_3) := z_perm_D z_outb hDx
  refine lv_i2l (v := r1.toInt64) hx hb dL_add_8 rfl ?_
  refine va_last hx hb hK hP hD hS 0 3 rfl rfl (show vp_in (0 : Int32) 1 by unfold vp_in; decide) dL_add_9 (fun H locs hP hD hS => ?_)
  have hP : va_P D vwCl (w_Out cs o (vp_updL f (0 : Int32).toNatClampNeg r1.toInt64) ++ w_Xo cs x tq h a u1_0 ++ w_Text cs tq u1_1 ++ w_Hist cs h a u1_2 ++ linesW cs a 18 u1_3) H := hP
  have hD : va_D A (w_Out cs o (vp_updL f (0 : Int32).toNatClampNeg r1.toInt64) ++ w_Xo cs x tq h a u1_0 ++ w_Text cs tq u1_1 ++ w_Hist cs h a u1_2 ++ linesW cs a 18 u1_3) := hD
  refine lv_goto (tgt := 25) hx hb dL_add_10 (by decide) ?_
  refine lv_iconst (v := (0 : Int32)) hx hb dL_add_25 (by decide) ?_
  refine W.widen (k := 3) (n := 18) (Nat.le_of_ble_eq_true rfl) (Nat.le_of_ble_eq_true rfl) (vx_ret ?_)
  exact W.iret (v := (0 : Int32)) hx hb hr (fun t ht hW => ⟨⟨(0 : Int32), (vp_updL f (0 : Int32).toNatClampNeg r1.toInt64, u1_0, u1_1, u1_2, u1_3), rfl, hw, by rw [ht]; exact hP, hD⟩, hS.F ht⟩) hS.2.2 dL_add_26 hlocks
set_option maxHeartbeats 4000000 in
set_option maxRecDepth 100000 in
theorem c_L_add (l : Launch) (hfl : l.stackTraces = false) (D : va_G) (cs : Nat → ClassId) (o : Nat) (x : Nat → Nat) (tq : Nat → Nat) (h : Nat → Nat) (a : Nat → Nat → Nat) (sz : Nat) (sa : Nat → Nat) (f : (Nat → Int64)) (S : XO) (tx : TS) (hs : HS) (Ls : (Nat → LnS)) (x1 : Int32) (x2 : Int32) (Q : Int32 → (Nat → Int64) → XO → TS → HS → (Nat → LnS) → Prop) (hw : wp_L_add f S tx hs Ls x1 x2 Q) : vx_Met l yL_add wsL_add ({ frames := 8, cells := 3, slots := 18, locals := 126 } : Room) (va_Pc [.ref (x 0), .int x1, .int x2, .ref o] (PX D cs (w_Out cs o f ++ w_Xo cs x tq h a S ++ w_Text cs tq tx ++ w_Hist cs h a hs ++ linesW cs a 18 Ls) sa sz)) (va_Qi (fun r (u : (Nat → Int64) × XO × TS × HS × (Nat → LnS)) => Q r u.1 u.2.1 u.2.2.1 u.2.2.2.1 u.2.2.2.2) (fun (u : (Nat → Int64) × XO × TS × HS × (Nat → LnS)) t => va_P D vwCl (w_Out cs o u.1 ++ w_Xo cs x tq h a u.2.1 ++ w_Text cs tq u.2.2.1 ++ w_Hist cs h a u.2.2.2.1 ++ linesW cs a 18 u.2.2.2.2) t.heap ∧ va_D (va_A (w_Out cs o f ++ w_Xo cs x tq h a S ++ w_Text cs tq tx ++ w_Hist cs h a hs ++ linesW cs a 18 Ls) sz) (w_Out cs o u.1 ++ w_Xo cs x tq h a u.2.1 ++ w_Text cs tq u.2.2.1 ++ w_Hist cs h a u.2.2.2.1 ++ linesW cs a 18 u.2.2.2.2)) (va_A (w_Out cs o f ++ w_Xo cs x tq h a S ++ w_Text cs tq tx ++ w_Hist cs h a hs ++ linesW cs a 18 Ls) sz)) (vx_X (fun (_ : Unit) => False) (fun _ _ _ => True) (va_A (w_Out cs o f ++ w_Xo cs x tq h a S ++ w_Text cs tq tx ++ w_Hist cs h a hs ++ linesW cs a 18 Ls) sz)) 3 18 (va_A (w_Out cs o f ++ w_Xo cs x tq h a S ++ w_Text cs tq tx ++ w_Hist cs h a hs ++ linesW cs a 18 Ls) sz) := by
  refine vx_ofWH (cc := cL_add) (maxL := 5) (ret := (some .int)) (by decide) rfl ?_
  intro p e s m args below meth c s₁ B hml hv
  obtain ⟨rfl, ⟨hsz, hP, hKK, hD0⟩, hTW, hTZ⟩ := hv
  have hTab := vx_table (x := yL_add) B (atoms_spec (ws := wsL_add) B.pre _ List.mem_cons_self)
  have hC : MAt p s m _ meth c RL cL_add 5 (some .int) wsL_add D cs := ⟨B.exec, B.bytes, B.returns, hml, findClass_of_methodNamed B.named, atoms_spec (ws := wsL_add) B.pre, B.notSynchronized, hKK⟩
  have hl := lv_entry ([.ref (x 0), .int x1, .int x2, .ref o]) (n := 5) (Nat.le_of_ble_eq_true rfl)
  rw [lg_entry_eq]
  generalize (lg_sl ([.ref (x 0), .int x1, .int x2, .ref o]) ++ List.replicate (5 - (lg_sl ([.ref (x 0), .int x1, .int x2, .ref o])).length) Slot.unset).toArray = ls at hl ⊢
  subst hsz
  have hD := hD0.self (sz := s.heap.size)
  have hA : ∀ z : Nat, s.heap.size ≤ z → va_A (w_Out cs o f ++ w_Xo cs x tq h a S ++ w_Text cs tq tx ++ w_Hist cs h a hs ++ linesW cs a 18 Ls) s.heap.size z := fun z h => Or.inr h
  exact t_L_add hC hfl hTab hTW hTZ o x tq h a f S tx hs Ls x1 x2 Q hA hw s.heap [] hP hD va_S.rf ls hl
set_option maxHeartbeats 4000000 in
set_option maxRecDepth 100000 in
theorem t_L_draw {p : Program} {l : Launch} {e : Env} {s : State} {m : MethodId} {args : Array Value} {below : List Frame} {meth : Method} {c : Code} {D : va_G} {cs : Nat → ClassId} {A : Nat → Prop} (hC : MAt p s m args meth c RL cL_draw 4 (some .int) wsL_draw D cs) (hfl : l.stackTraces = false) (hTab : c.exceptionTable.toList = tableOf [(0, 9, 12, 27), (0, 9, 15, 15)]) {sa : Nat → Nat} (hTW : TW sa s) (hTZ : TZ A s s.heap) (o : Nat) (x : Nat → Nat) (tq : Nat → Nat) (h : Nat → Nat) (a : Nat → Nat → Nat) (f : (Nat → Int64)) (S : XO) (tx : TS) (hs : HS) (Ls : (Nat → LnS)) (x1 : Int32) (Q : Int32 → (Nat → Int64) → XO → TS → HS → (Nat → LnS) → Prop) (hA : ∀ q : Nat, s.heap.size ≤ q → A q) (hw : wp_L_draw f S tx hs Ls x1 Q) (H : Heap) (locs : List Loc) (hP : va_P D vwCl (w_Out cs o f ++ w_Xo cs x tq h a S ++ w_Text cs tq tx ++ w_Hist cs h a hs ++ linesW cs a 18 Ls) H) (hD : va_D A (w_Out cs o f ++ w_Xo cs x tq h a S ++ w_Text cs tq tx ++ w_Hist cs h a hs ++ linesW cs a 18 Ls)) (hS : va_S A s.heap H locs) (ls : Array Slot) (hl : lv_has ls 4 [(0, .ref (x 0)), (1, .int x1), (2, .ref o)]) : W p l e ({ frames := 8, cells := 2, slots := 12, locals := 124 } : Room) s m args below meth c H locs 0 0 (vx_MQ below (va_Qi (fun r (u : (Nat → Int64) × XO × TS × HS × (Nat → LnS)) => Q r u.1 u.2.1 u.2.2.1 u.2.2.2.1 u.2.2.2.2) (fun (u : (Nat → Int64) × XO × TS × HS × (Nat → LnS)) t => va_P D vwCl (w_Out cs o u.1 ++ w_Xo cs x tq h a u.2.1 ++ w_Text cs tq u.2.2.1 ++ w_Hist cs h a u.2.2.2.1 ++ linesW cs a 18 u.2.2.2.2) t.heap ∧ va_D A (w_Out cs o u.1 ++ w_Xo cs x tq h a u.2.1 ++ w_Text cs tq u.2.2.1 ++ w_Hist cs h a u.2.2.2.1 ++ linesW cs a 18 u.2.2.2.2)) A) (vx_X (fun (_ : Unit) => False) (fun _ _ _ => True) A) args s 2 12 A) (F0 m 0 ls []) := by
  obtain ⟨hx, hb, hr, hml, hown, hts, hlocks, hKK⟩ := id hC
  have hK := hKK.1
  refine lv_aload_n hx hb dL_draw_0 rfl (lv_at hl 2 rfl) ?_
  refine lv_iconst (v := (0 : Int32)) hx hb dL_draw_1 (by decide) ?_
  refine lv_aload_n hx hb dL_draw_2 rfl (lv_at hl 0 rfl) ?_
  refine lv_iload_n hx hb dL_draw_3 rfl (lv_at hl 1 rfl) ?_
  have hPx := z_perm_P z_out hP
  have hDx := z_perm_D z_out hD
  have hPc := (z_app_P hPx).1
  have hDc := (z_app_D hDx).1
  have hFc := z_free hDx hS hA
  refine vx_calli (vx_runV (As := [.int x1]) (rest := [.int (0 : Int32), .ref o]) ⟨hx, hb, hml, hown, hts⟩ (c_X3_draw l hfl D cs x tq h a H.size sa S tx hs Ls x1 _ _ hw) (cwV 1 hts gL_draw_X3_draw rfl rfl rfl (by decide +kernel) ⟨Nat.le_of_ble_eq_true rfl, Nat.le_of_ble_eq_true rfl⟩) (PX_V hPc hDc hKK hTW hTZ hS hFc 0 3 rfl rfl) rfl rfl hl.1 rfl (lv_room (Nat.le_of_ble_eq_true rfl)) dL_draw_4 ⟨Nat.le_of_ble_eq_true rfl, Nat.le_of_ble_eq_true rfl⟩) hS (fun q _ h => hFc q h) hFc (fun q _ h => hFc q h) ?_ (fun r1 u1 t H locs ht hvm hw hB hz1 hk1 hS => ?_)
  · intro E ce q9 u1 t H locs ht hvm hpx hB hz1 hk1 hS hq9 hce hcl
    obtain ⟨u1_0, u1_1, u1_2, u1_3⟩ := u1
    obtain ⟨hw, hP1, hD1⟩ := hB
    rw [ht] at hP1
    obtain ⟨hPx, hDx⟩ := z_join hPx hDx hk1 hFc hP1 hD1
    have hP : va_P D vwCl (w_Out cs o f ++ w_Xo cs x tq h a u1_0 ++ w_Text cs tq u1_1 ++ w_Hist cs h a u1_2 ++ linesW cs a 18 u1_3) H := z_perm_P z_outb hPx
    have hD : va_D A (w_Out cs o f ++ w_Xo cs x tq h a u1_0 ++ w_Text cs tq u1_1 ++ w_Hist cs h a u1_2 ++ linesW cs a 18 u1_3) := z_perm_D z_outb hDx
    obtain ⟨hor, hw⟩ := hw
    rcases hor with rfl | rfl
    · have hw := hw.1 rfl
      refine vx_catch (name := eIOB) hown [] ⟨0, 9, 12, 27⟩ [⟨0, 9, 15, 15⟩] (by rw [hTab]; rfl) (fun _ h => nomatch h) rfl (by decide) (z_w hts 1 rfl) (va_Nw.use rfl hTW.2.2.2.1) hq9 hce hcl ?_
      refine W.eq (g2 := F0 m 12 ls [.ref q9]) rfl ?_
      refine lv_astore_n (lv' := [(3, .ref q9), (0, .ref (x 0)), (1, .int x1), (2, .ref o)]) hx hb dL_draw_12 rfl hl (by decide) rfl (fun ls hl => ?_)
      refine lv_iconst (v := (1 : Int32)) hx hb dL_draw_13 (by decide) ?_
      refine W.widen (k := 2) (n := 12) (Nat.le_of_ble_eq_true rfl) (Nat.le_of_ble_eq_true rfl) (vx_ret ?_)
      exact W.iret (v := (1 : Int32)) hx hb hr (fun t ht hW => ⟨⟨(1 : Int32), (f, u1_0, u1_1, u1_2, u1_3), rfl, hw, by rw [ht]; exact hP, hD⟩, hS.F ht⟩) hS.2.2 dL_draw_14 hlocks
    · have hw := hw.2 rfl
      refine vx_catch (name := eISE) hown [⟨0, 9, 12, 27⟩] ⟨0, 9, 15, 15⟩ [] (by rw [hTab]; rfl) (List.forall_mem_cons.mpr ⟨Or.inr ⟨by decide, _, z_w hts 1 rfl, hTW.2.2.2.2.2.1⟩, (fun _ h => nomatch h)⟩) rfl (by decide) (z_w hts 2 rfl) (va_Nw.use rfl hTW.2.1) hq9 hce hcl ?_
      refine W.eq (g2 := F0 m 15 ls [.ref q9]) rfl ?_
      refine lv_astore_n (lv' := [(3, .ref q9), (0, .ref (x 0)), (1, .int x1), (2, .ref o)]) hx hb dL_draw_15 rfl hl (by decide) rfl (fun ls hl => ?_)
      refine lv_iconst (v := (2 : Int32)) hx hb dL_draw_16 (by decide) ?_
      refine W.widen (k := 2) (n := 12) (Nat.le_of_ble_eq_true rfl) (Nat.le_of_ble_eq_true rfl) (vx_ret ?_)
      exact W.iret (v := (2 : Int32)) hx hb hr (fun t ht hW => ⟨⟨(2 : Int32), (f, u1_0, u1_1, u1_2, u1_3), rfl, hw, by rw [ht]; exact hP, hD⟩, hS.F ht⟩) hS.2.2 dL_draw_17 hlocks
  obtain ⟨u1_0, u1_1, u1_2, u1_3⟩ := u1
  obtain ⟨hP1, hD1⟩ := hB
  rw [ht] at hP1
  obtain ⟨hPx, hDx⟩ := z_join hPx hDx hk1 hFc hP1 hD1
  have hP : va_P D vwCl (w_Out cs o f ++ w_Xo cs x tq h a u1_0 ++ w_Text cs tq u1_1 ++ w_Hist cs h a u1_2 ++ linesW cs a 18 u1_3) H := z_perm_P z_outb hPx
  have hD : va_D A (w_Out cs o f ++ w_Xo cs x tq h a u1_0 ++ w_Text cs tq u1_1 ++ w_Hist cs h a u1_2 ++ linesW cs a 18 u1_3) := z_perm_D z_outb hDx
  refine lv_i2l (v := r1.toInt64) hx hb dL_draw_7 rfl ?_
  refine va_last hx hb hK hP hD hS 0 3 rfl rfl (show vp_in (0 : Int32) 1 by unfold vp_in; decide) dL_draw_8 (fun H locs hP hD hS => ?_)
  have hP : va_P D vwCl (w_Out cs o (vp_updL f (0 : Int32).toNatClampNeg r1.toInt64) ++ w_Xo cs x tq h a u1_0 ++ w_Text cs tq u1_1 ++ w_Hist cs h a u1_2 ++ linesW cs a 18 u1_3) H := hP
  have hD : va_D A (w_Out cs o (vp_updL f (0 : Int32).toNatClampNeg r1.toInt64) ++ w_Xo cs x tq h a u1_0 ++ w_Text cs tq u1_1 ++ w_Hist cs h a u1_2 ++ linesW cs a 18 u1_3) := hD
  refine lv_goto (tgt := 18) hx hb dL_draw_9 (by decide) ?_
  refine lv_iconst (v := (0 : Int32)) hx hb dL_draw_18 (by decide) ?_
  refine W.widen (k := 2) (n := 12) (Nat.le_of_ble_eq_true rfl) (Nat.le_of_ble_eq_true rfl) (vx_ret ?_)
  exact W.iret (v := (0 : Int32)) hx hb hr (fun t ht hW => ⟨⟨(0 : Int32), (vp_updL f (0 : Int32).toNatClampNeg r1.toInt64, u1_0, u1_1, u1_2, u1_3), rfl, hw, by rw [ht]; exact hP, hD⟩, hS.F ht⟩) hS.2.2 dL_draw_19 hlocks
set_option maxHeartbeats 4000000 in
set_option maxRecDepth 100000 in
theorem c_L_draw (l : Launch) (hfl : l.stackTraces = false) (D : va_G) (cs : Nat → ClassId) (o : Nat) (x : Nat → Nat) (tq : Nat → Nat) (h : Nat → Nat) (a : Nat → Nat → Nat) (sz : Nat) (sa : Nat → Nat) (f : (Nat → Int64)) (S : XO) (tx : TS) (hs : HS) (Ls : (Nat → LnS)) (x1 : Int32) (Q : Int32 → (Nat → Int64) → XO → TS → HS → (Nat → LnS) → Prop) (hw : wp_L_draw f S tx hs Ls x1 Q) : vx_Met l yL_draw wsL_draw ({ frames := 8, cells := 2, slots := 12, locals := 124 } : Room) (va_Pc [.ref (x 0), .int x1, .ref o] (PX D cs (w_Out cs o f ++ w_Xo cs x tq h a S ++ w_Text cs tq tx ++ w_Hist cs h a hs ++ linesW cs a 18 Ls) sa sz)) (va_Qi (fun r (u : (Nat → Int64) × XO × TS × HS × (Nat → LnS)) => Q r u.1 u.2.1 u.2.2.1 u.2.2.2.1 u.2.2.2.2) (fun (u : (Nat → Int64) × XO × TS × HS × (Nat → LnS)) t => va_P D vwCl (w_Out cs o u.1 ++ w_Xo cs x tq h a u.2.1 ++ w_Text cs tq u.2.2.1 ++ w_Hist cs h a u.2.2.2.1 ++ linesW cs a 18 u.2.2.2.2) t.heap ∧ va_D (va_A (w_Out cs o f ++ w_Xo cs x tq h a S ++ w_Text cs tq tx ++ w_Hist cs h a hs ++ linesW cs a 18 Ls) sz) (w_Out cs o u.1 ++ w_Xo cs x tq h a u.2.1 ++ w_Text cs tq u.2.2.1 ++ w_Hist cs h a u.2.2.2.1 ++ linesW cs a 18 u.2.2.2.2)) (va_A (w_Out cs o f ++ w_Xo cs x tq h a S ++ w_Text cs tq tx ++ w_Hist cs h a hs ++ linesW cs a 18 Ls) sz)) (vx_X (fun (_ : Unit) => False) (fun _ _ _ => True) (va_A (w_Out cs o f ++ w_Xo cs x tq h a S ++ w_Text cs tq tx ++ w_Hist cs h a hs ++ linesW cs a 18 Ls) sz)) 2 12 (va_A (w_Out cs o f ++ w_Xo cs x tq h a S ++ w_Text cs tq tx ++ w_Hist cs h a hs ++ linesW cs a 18 Ls) sz) := by
  refine vx_ofWH (cc := cL_draw) (maxL := 4) (ret := (some .int)) (by decide) rfl ?_
  intro p e s m args below meth c s₁ B hml hv
  obtain ⟨rfl, ⟨hsz, hP, hKK, hD0⟩, hTW, hTZ⟩ := hv
  have hTab := vx_table (x := yL_draw) B (atoms_spec (ws := wsL_draw) B.pre _ List.mem_cons_self)
  have hC : MAt p s m _ meth c RL cL_draw 4 (some .int) wsL_draw D cs := ⟨B.exec, B.bytes, B.returns, hml, findClass_of_methodNamed B.named, atoms_spec (ws := wsL_draw) B.pre, B.notSynchronized, hKK⟩
  have hl := lv_entry ([.ref (x 0), .int x1, .ref o]) (n := 4) (Nat.le_of_ble_eq_true rfl)
  rw [lg_entry_eq]
  generalize (lg_sl ([.ref (x 0), .int x1, .ref o]) ++ List.replicate (4 - (lg_sl ([.ref (x 0), .int x1, .ref o])).length) Slot.unset).toArray = ls at hl ⊢
  subst hsz
  have hD := hD0.self (sz := s.heap.size)
  have hA : ∀ z : Nat, s.heap.size ≤ z → va_A (w_Out cs o f ++ w_Xo cs x tq h a S ++ w_Text cs tq tx ++ w_Hist cs h a hs ++ linesW cs a 18 Ls) s.heap.size z := fun z h => Or.inr h
  exact t_L_draw hC hfl hTab hTW hTZ o x tq h a f S tx hs Ls x1 Q hA hw s.heap [] hP hD va_S.rf ls hl
set_option maxHeartbeats 4000000 in
set_option maxRecDepth 100000 in
theorem t_L_beats {p : Program} {l : Launch} {e : Env} {s : State} {m : MethodId} {args : Array Value} {below : List Frame} {meth : Method} {c : Code} {D : va_G} {cs : Nat → ClassId} {A : Nat → Prop} (hC : MAt p s m args meth c RL cL_beats 4 (some .int) wsL_beats D cs) (hfl : l.stackTraces = false) (hTab : c.exceptionTable.toList = tableOf [(0, 9, 12, 13)]) {sa : Nat → Nat} (hTW : TW sa s) (hTZ : TZ A s s.heap) (o : Nat) (x : Nat → Nat) (tq : Nat → Nat) (h : Nat → Nat) (a : Nat → Nat → Nat) (f : (Nat → Int64)) (S : XO) (tx : TS) (hs : HS) (Ls : (Nat → LnS)) (x1 : Int32) (Q : Int32 → (Nat → Int64) → XO → TS → HS → (Nat → LnS) → Prop) (hA : ∀ q : Nat, s.heap.size ≤ q → A q) (hw : wp_L_beats f S tx hs Ls x1 Q) (H : Heap) (locs : List Loc) (hP : va_P D vwCl (w_Out cs o f ++ w_Xo cs x tq h a S ++ w_Text cs tq tx ++ w_Hist cs h a hs ++ linesW cs a 18 Ls) H) (hD : va_D A (w_Out cs o f ++ w_Xo cs x tq h a S ++ w_Text cs tq tx ++ w_Hist cs h a hs ++ linesW cs a 18 Ls)) (hS : va_S A s.heap H locs) (ls : Array Slot) (hl : lv_has ls 4 [(0, .ref (x 0)), (1, .int x1), (2, .ref o)]) : W p l e ({ frames := 8, cells := 1, slots := 6, locals := 136 } : Room) s m args below meth c H locs 0 0 (vx_MQ below (va_Qi (fun r (u : (Nat → Int64) × XO × TS × HS × (Nat → LnS)) => Q r u.1 u.2.1 u.2.2.1 u.2.2.2.1 u.2.2.2.2) (fun (u : (Nat → Int64) × XO × TS × HS × (Nat → LnS)) t => va_P D vwCl (w_Out cs o u.1 ++ w_Xo cs x tq h a u.2.1 ++ w_Text cs tq u.2.2.1 ++ w_Hist cs h a u.2.2.2.1 ++ linesW cs a 18 u.2.2.2.2) t.heap ∧ va_D A (w_Out cs o u.1 ++ w_Xo cs x tq h a u.2.1 ++ w_Text cs tq u.2.2.1 ++ w_Hist cs h a u.2.2.2.1 ++ linesW cs a 18 u.2.2.2.2)) A) (vx_X (fun (_ : Unit) => False) (fun _ _ _ => True) A) args s 1 6 A) (F0 m 0 ls []) := by
  obtain ⟨hx, hb, hr, hml, hown, hts, hlocks, hKK⟩ := id hC
  have hK := hKK.1
  refine lv_aload_n hx hb dL_beats_0 rfl (lv_at hl 2 rfl) ?_
  refine lv_iconst (v := (0 : Int32)) hx hb dL_beats_1 (by decide) ?_
  refine lv_aload_n hx hb dL_beats_2 rfl (lv_at hl 0 rfl) ?_
  refine lv_iload_n hx hb dL_beats_3 rfl (lv_at hl 1 rfl) ?_
  have hPx := z_perm_P z_out hP
  have hDx := z_perm_D z_out hD
  have hPc := (z_app_P hPx).1
  have hDc := (z_app_D hDx).1
  have hFc := z_free hDx hS hA
  refine vx_calli (vx_runV (As := [.int x1]) (rest := [.int (0 : Int32), .ref o]) ⟨hx, hb, hml, hown, hts⟩ (c_X3_beats l hfl D cs x tq h a H.size sa S tx hs Ls x1 _ _ hw) (cwV 1 hts gL_beats_X3_beats rfl rfl rfl (by decide +kernel) ⟨Nat.le_of_ble_eq_true rfl, Nat.le_of_ble_eq_true rfl⟩) (PX_V hPc hDc hKK hTW hTZ hS hFc 0 3 rfl rfl) rfl rfl hl.1 rfl (lv_room (Nat.le_of_ble_eq_true rfl)) dL_beats_4 ⟨Nat.le_of_ble_eq_true rfl, Nat.le_of_ble_eq_true rfl⟩) hS (fun q _ h => hFc q h) hFc (fun q _ h => hFc q h) ?_ (fun r1 u1 t H locs ht hvm hw hB hz1 hk1 hS => ?_)
  · intro E ce q9 u1 t H locs ht hvm hpx hB hz1 hk1 hS hq9 hce hcl
    obtain ⟨u1_0, u1_1, u1_2, u1_3⟩ := u1
    obtain ⟨hw, hP1, hD1⟩ := hB
    rw [ht] at hP1
    obtain ⟨hPx, hDx⟩ := z_join hPx hDx hk1 hFc hP1 hD1
    have hP : va_P D vwCl (w_Out cs o f ++ w_Xo cs x tq h a u1_0 ++ w_Text cs tq u1_1 ++ w_Hist cs h a u1_2 ++ linesW cs a 18 u1_3) H := z_perm_P z_outb hPx
    have hD : va_D A (w_Out cs o f ++ w_Xo cs x tq h a u1_0 ++ w_Text cs tq u1_1 ++ w_Hist cs h a u1_2 ++ linesW cs a 18 u1_3) := z_perm_D z_outb hDx
    obtain ⟨hor, hw⟩ := hw
    subst hor
    · have hw := hw rfl
      refine vx_catch (name := eIAE) hown [] ⟨0, 9, 12, 13⟩ [] (by rw [hTab]; rfl) (fun _ h => nomatch h) rfl (by decide) (z_w hts 1 rfl) (va_Nw.use rfl hTW.2.2.1) hq9 hce hcl ?_
      refine W.eq (g2 := F0 m 12 ls [.ref q9]) rfl ?_
      refine lv_astore_n (lv' := [(3, .ref q9), (0, .ref (x 0)), (1, .int x1), (2, .ref o)]) hx hb dL_beats_12 rfl hl (by decide) rfl (fun ls hl => ?_)
      refine lv_iconst (v := (1 : Int32)) hx hb dL_beats_13 (by decide) ?_
      refine W.widen (k := 1) (n := 6) (Nat.le_of_ble_eq_true rfl) (Nat.le_of_ble_eq_true rfl) (vx_ret ?_)
      exact W.iret (v := (1 : Int32)) hx hb hr (fun t ht hW => ⟨⟨(1 : Int32), (f, u1_0, u1_1, u1_2, u1_3), rfl, hw, by rw [ht]; exact hP, hD⟩, hS.F ht⟩) hS.2.2 dL_beats_14 hlocks
  obtain ⟨u1_0, u1_1, u1_2, u1_3⟩ := u1
  obtain ⟨hP1, hD1⟩ := hB
  rw [ht] at hP1
  obtain ⟨hPx, hDx⟩ := z_join hPx hDx hk1 hFc hP1 hD1
  have hP : va_P D vwCl (w_Out cs o f ++ w_Xo cs x tq h a u1_0 ++ w_Text cs tq u1_1 ++ w_Hist cs h a u1_2 ++ linesW cs a 18 u1_3) H := z_perm_P z_outb hPx
  have hD : va_D A (w_Out cs o f ++ w_Xo cs x tq h a u1_0 ++ w_Text cs tq u1_1 ++ w_Hist cs h a u1_2 ++ linesW cs a 18 u1_3) := z_perm_D z_outb hDx
  refine lv_i2l (v := r1.toInt64) hx hb dL_beats_7 rfl ?_
  refine va_last hx hb hK hP hD hS 0 3 rfl rfl (show vp_in (0 : Int32) 1 by unfold vp_in; decide) dL_beats_8 (fun H locs hP hD hS => ?_)
  have hP : va_P D vwCl (w_Out cs o (vp_updL f (0 : Int32).toNatClampNeg r1.toInt64) ++ w_Xo cs x tq h a u1_0 ++ w_Text cs tq u1_1 ++ w_Hist cs h a u1_2 ++ linesW cs a 18 u1_3) H := hP
  have hD : va_D A (w_Out cs o (vp_updL f (0 : Int32).toNatClampNeg r1.toInt64) ++ w_Xo cs x tq h a u1_0 ++ w_Text cs tq u1_1 ++ w_Hist cs h a u1_2 ++ linesW cs a 18 u1_3) := hD
  refine lv_goto (tgt := 15) hx hb dL_beats_9 (by decide) ?_
  refine lv_iconst (v := (0 : Int32)) hx hb dL_beats_15 (by decide) ?_
  refine W.widen (k := 1) (n := 6) (Nat.le_of_ble_eq_true rfl) (Nat.le_of_ble_eq_true rfl) (vx_ret ?_)
  exact W.iret (v := (0 : Int32)) hx hb hr (fun t ht hW => ⟨⟨(0 : Int32), (vp_updL f (0 : Int32).toNatClampNeg r1.toInt64, u1_0, u1_1, u1_2, u1_3), rfl, hw, by rw [ht]; exact hP, hD⟩, hS.F ht⟩) hS.2.2 dL_beats_16 hlocks
set_option maxHeartbeats 4000000 in
set_option maxRecDepth 100000 in
theorem c_L_beats (l : Launch) (hfl : l.stackTraces = false) (D : va_G) (cs : Nat → ClassId) (o : Nat) (x : Nat → Nat) (tq : Nat → Nat) (h : Nat → Nat) (a : Nat → Nat → Nat) (sz : Nat) (sa : Nat → Nat) (f : (Nat → Int64)) (S : XO) (tx : TS) (hs : HS) (Ls : (Nat → LnS)) (x1 : Int32) (Q : Int32 → (Nat → Int64) → XO → TS → HS → (Nat → LnS) → Prop) (hw : wp_L_beats f S tx hs Ls x1 Q) : vx_Met l yL_beats wsL_beats ({ frames := 8, cells := 1, slots := 6, locals := 136 } : Room) (va_Pc [.ref (x 0), .int x1, .ref o] (PX D cs (w_Out cs o f ++ w_Xo cs x tq h a S ++ w_Text cs tq tx ++ w_Hist cs h a hs ++ linesW cs a 18 Ls) sa sz)) (va_Qi (fun r (u : (Nat → Int64) × XO × TS × HS × (Nat → LnS)) => Q r u.1 u.2.1 u.2.2.1 u.2.2.2.1 u.2.2.2.2) (fun (u : (Nat → Int64) × XO × TS × HS × (Nat → LnS)) t => va_P D vwCl (w_Out cs o u.1 ++ w_Xo cs x tq h a u.2.1 ++ w_Text cs tq u.2.2.1 ++ w_Hist cs h a u.2.2.2.1 ++ linesW cs a 18 u.2.2.2.2) t.heap ∧ va_D (va_A (w_Out cs o f ++ w_Xo cs x tq h a S ++ w_Text cs tq tx ++ w_Hist cs h a hs ++ linesW cs a 18 Ls) sz) (w_Out cs o u.1 ++ w_Xo cs x tq h a u.2.1 ++ w_Text cs tq u.2.2.1 ++ w_Hist cs h a u.2.2.2.1 ++ linesW cs a 18 u.2.2.2.2)) (va_A (w_Out cs o f ++ w_Xo cs x tq h a S ++ w_Text cs tq tx ++ w_Hist cs h a hs ++ linesW cs a 18 Ls) sz)) (vx_X (fun (_ : Unit) => False) (fun _ _ _ => True) (va_A (w_Out cs o f ++ w_Xo cs x tq h a S ++ w_Text cs tq tx ++ w_Hist cs h a hs ++ linesW cs a 18 Ls) sz)) 1 6 (va_A (w_Out cs o f ++ w_Xo cs x tq h a S ++ w_Text cs tq tx ++ w_Hist cs h a hs ++ linesW cs a 18 Ls) sz) := by
  refine vx_ofWH (cc := cL_beats) (maxL := 4) (ret := (some .int)) (by decide) rfl ?_
  intro p e s m args below meth c s₁ B hml hv
  obtain ⟨rfl, ⟨hsz, hP, hKK, hD0⟩, hTW, hTZ⟩ := hv
  have hTab := vx_table (x := yL_beats) B (atoms_spec (ws := wsL_beats) B.pre _ List.mem_cons_self)
  have hC : MAt p s m _ meth c RL cL_beats 4 (some .int) wsL_beats D cs := ⟨B.exec, B.bytes, B.returns, hml, findClass_of_methodNamed B.named, atoms_spec (ws := wsL_beats) B.pre, B.notSynchronized, hKK⟩
  have hl := lv_entry ([.ref (x 0), .int x1, .ref o]) (n := 4) (Nat.le_of_ble_eq_true rfl)
  rw [lg_entry_eq]
  generalize (lg_sl ([.ref (x 0), .int x1, .ref o]) ++ List.replicate (4 - (lg_sl ([.ref (x 0), .int x1, .ref o])).length) Slot.unset).toArray = ls at hl ⊢
  subst hsz
  have hD := hD0.self (sz := s.heap.size)
  have hA : ∀ z : Nat, s.heap.size ≤ z → va_A (w_Out cs o f ++ w_Xo cs x tq h a S ++ w_Text cs tq tx ++ w_Hist cs h a hs ++ linesW cs a 18 Ls) s.heap.size z := fun z h => Or.inr h
  exact t_L_beats hC hfl hTab hTW hTZ o x tq h a f S tx hs Ls x1 Q hA hw s.heap [] hP hD va_S.rf ls hl
set_option maxHeartbeats 4000000 in
set_option maxRecDepth 100000 in
theorem t_L_setPace {p : Program} {l : Launch} {e : Env} {s : State} {m : MethodId} {args : Array Value} {below : List Frame} {meth : Method} {c : Code} {D : va_G} {cs : Nat → ClassId} {A : Nat → Prop} (hC : MAt p s m args meth c RL cL_setPace 4 (some .int) wsL_setPace D cs) (hfl : l.stackTraces = false) (hTab : c.exceptionTable.toList = tableOf [(0, 9, 12, 13)]) {sa : Nat → Nat} (hTW : TW sa s) (hTZ : TZ A s s.heap) (o : Nat) (x : Nat → Nat) (tq : Nat → Nat) (h : Nat → Nat) (a : Nat → Nat → Nat) (f : (Nat → Int64)) (S : XO) (tx : TS) (hs : HS) (Ls : (Nat → LnS)) (x1 : Int32) (Q : Int32 → (Nat → Int64) → XO → TS → HS → (Nat → LnS) → Prop) (hA : ∀ q : Nat, s.heap.size ≤ q → A q) (hw : wp_L_setPace f S tx hs Ls x1 Q) (H : Heap) (locs : List Loc) (hP : va_P D vwCl (w_Out cs o f ++ w_Xo cs x tq h a S ++ w_Text cs tq tx ++ w_Hist cs h a hs ++ linesW cs a 18 Ls) H) (hD : va_D A (w_Out cs o f ++ w_Xo cs x tq h a S ++ w_Text cs tq tx ++ w_Hist cs h a hs ++ linesW cs a 18 Ls)) (hS : va_S A s.heap H locs) (ls : Array Slot) (hl : lv_has ls 4 [(0, .ref (x 0)), (1, .int x1), (2, .ref o)]) : W p l e ({ frames := 8, cells := 1, slots := 6, locals := 126 } : Room) s m args below meth c H locs 0 0 (vx_MQ below (va_Qi (fun r (u : (Nat → Int64) × XO × TS × HS × (Nat → LnS)) => Q r u.1 u.2.1 u.2.2.1 u.2.2.2.1 u.2.2.2.2) (fun (u : (Nat → Int64) × XO × TS × HS × (Nat → LnS)) t => va_P D vwCl (w_Out cs o u.1 ++ w_Xo cs x tq h a u.2.1 ++ w_Text cs tq u.2.2.1 ++ w_Hist cs h a u.2.2.2.1 ++ linesW cs a 18 u.2.2.2.2) t.heap ∧ va_D A (w_Out cs o u.1 ++ w_Xo cs x tq h a u.2.1 ++ w_Text cs tq u.2.2.1 ++ w_Hist cs h a u.2.2.2.1 ++ linesW cs a 18 u.2.2.2.2)) A) (vx_X (fun (_ : Unit) => False) (fun _ _ _ => True) A) args s 1 6 A) (F0 m 0 ls []) := by
  obtain ⟨hx, hb, hr, hml, hown, hts, hlocks, hKK⟩ := id hC
  have hK := hKK.1
  refine lv_aload_n hx hb dL_setPace_0 rfl (lv_at hl 2 rfl) ?_
  refine lv_iconst (v := (0 : Int32)) hx hb dL_setPace_1 (by decide) ?_
  refine lv_aload_n hx hb dL_setPace_2 rfl (lv_at hl 0 rfl) ?_
  refine lv_iload_n hx hb dL_setPace_3 rfl (lv_at hl 1 rfl) ?_
  have hPx := z_perm_P z_out hP
  have hDx := z_perm_D z_out hD
  have hPc := (z_app_P hPx).1
  have hDc := (z_app_D hDx).1
  have hFc := z_free hDx hS hA
  refine vx_calli (vx_runV (As := [.int x1]) (rest := [.int (0 : Int32), .ref o]) ⟨hx, hb, hml, hown, hts⟩ (c_X3_setPace l hfl D cs x tq h a H.size sa S tx hs Ls x1 _ _ hw) (cwV 1 hts gL_setPace_X3_setPace rfl rfl rfl (by decide +kernel) ⟨Nat.le_of_ble_eq_true rfl, Nat.le_of_ble_eq_true rfl⟩) (PX_V hPc hDc hKK hTW hTZ hS hFc 0 3 rfl rfl) rfl rfl hl.1 rfl (lv_room (Nat.le_of_ble_eq_true rfl)) dL_setPace_4 ⟨Nat.le_of_ble_eq_true rfl, Nat.le_of_ble_eq_true rfl⟩) hS (fun q _ h => hFc q h) hFc (fun q _ h => hFc q h) ?_ (fun r1 u1 t H locs ht hvm hw hB hz1 hk1 hS => ?_)
  · intro E ce q9 u1 t H locs ht hvm hpx hB hz1 hk1 hS hq9 hce hcl
    obtain ⟨u1_0, u1_1, u1_2, u1_3⟩ := u1
    obtain ⟨hw, hP1, hD1⟩ := hB
    rw [ht] at hP1
    obtain ⟨hPx, hDx⟩ := z_join hPx hDx hk1 hFc hP1 hD1
    have hP : va_P D vwCl (w_Out cs o f ++ w_Xo cs x tq h a u1_0 ++ w_Text cs tq u1_1 ++ w_Hist cs h a u1_2 ++ linesW cs a 18 u1_3) H := z_perm_P z_outb hPx
    have hD : va_D A (w_Out cs o f ++ w_Xo cs x tq h a u1_0 ++ w_Text cs tq u1_1 ++ w_Hist cs h a u1_2 ++ linesW cs a 18 u1_3) := z_perm_D z_outb hDx
    obtain ⟨hor, hw⟩ := hw
    subst hor
    · have hw := hw rfl
      refine vx_catch (name := eIAE) hown [] ⟨0, 9, 12, 13⟩ [] (by rw [hTab]; rfl) (fun _ h => nomatch h) rfl (by decide) (z_w hts 1 rfl) (va_Nw.use rfl hTW.2.2.1) hq9 hce hcl ?_
      refine W.eq (g2 := F0 m 12 ls [.ref q9]) rfl ?_
      refine lv_astore_n (lv' := [(3, .ref q9), (0, .ref (x 0)), (1, .int x1), (2, .ref o)]) hx hb dL_setPace_12 rfl hl (by decide) rfl (fun ls hl => ?_)
      refine lv_iconst (v := (1 : Int32)) hx hb dL_setPace_13 (by decide) ?_
      refine W.widen (k := 1) (n := 6) (Nat.le_of_ble_eq_true rfl) (Nat.le_of_ble_eq_true rfl) (vx_ret ?_)
      exact W.iret (v := (1 : Int32)) hx hb hr (fun t ht hW => ⟨⟨(1 : Int32), (f, u1_0, u1_1, u1_2, u1_3), rfl, hw, by rw [ht]; exact hP, hD⟩, hS.F ht⟩) hS.2.2 dL_setPace_14 hlocks
  obtain ⟨u1_0, u1_1, u1_2, u1_3⟩ := u1
  obtain ⟨hP1, hD1⟩ := hB
  rw [ht] at hP1
  obtain ⟨hPx, hDx⟩ := z_join hPx hDx hk1 hFc hP1 hD1
  have hP : va_P D vwCl (w_Out cs o f ++ w_Xo cs x tq h a u1_0 ++ w_Text cs tq u1_1 ++ w_Hist cs h a u1_2 ++ linesW cs a 18 u1_3) H := z_perm_P z_outb hPx
  have hD : va_D A (w_Out cs o f ++ w_Xo cs x tq h a u1_0 ++ w_Text cs tq u1_1 ++ w_Hist cs h a u1_2 ++ linesW cs a 18 u1_3) := z_perm_D z_outb hDx
  refine lv_i2l (v := r1.toInt64) hx hb dL_setPace_7 rfl ?_
  refine va_last hx hb hK hP hD hS 0 3 rfl rfl (show vp_in (0 : Int32) 1 by unfold vp_in; decide) dL_setPace_8 (fun H locs hP hD hS => ?_)
  have hP : va_P D vwCl (w_Out cs o (vp_updL f (0 : Int32).toNatClampNeg r1.toInt64) ++ w_Xo cs x tq h a u1_0 ++ w_Text cs tq u1_1 ++ w_Hist cs h a u1_2 ++ linesW cs a 18 u1_3) H := hP
  have hD : va_D A (w_Out cs o (vp_updL f (0 : Int32).toNatClampNeg r1.toInt64) ++ w_Xo cs x tq h a u1_0 ++ w_Text cs tq u1_1 ++ w_Hist cs h a u1_2 ++ linesW cs a 18 u1_3) := hD
  refine lv_goto (tgt := 15) hx hb dL_setPace_9 (by decide) ?_
  refine lv_iconst (v := (0 : Int32)) hx hb dL_setPace_15 (by decide) ?_
  refine W.widen (k := 1) (n := 6) (Nat.le_of_ble_eq_true rfl) (Nat.le_of_ble_eq_true rfl) (vx_ret ?_)
  exact W.iret (v := (0 : Int32)) hx hb hr (fun t ht hW => ⟨⟨(0 : Int32), (vp_updL f (0 : Int32).toNatClampNeg r1.toInt64, u1_0, u1_1, u1_2, u1_3), rfl, hw, by rw [ht]; exact hP, hD⟩, hS.F ht⟩) hS.2.2 dL_setPace_16 hlocks
set_option maxHeartbeats 4000000 in
set_option maxRecDepth 100000 in
theorem c_L_setPace (l : Launch) (hfl : l.stackTraces = false) (D : va_G) (cs : Nat → ClassId) (o : Nat) (x : Nat → Nat) (tq : Nat → Nat) (h : Nat → Nat) (a : Nat → Nat → Nat) (sz : Nat) (sa : Nat → Nat) (f : (Nat → Int64)) (S : XO) (tx : TS) (hs : HS) (Ls : (Nat → LnS)) (x1 : Int32) (Q : Int32 → (Nat → Int64) → XO → TS → HS → (Nat → LnS) → Prop) (hw : wp_L_setPace f S tx hs Ls x1 Q) : vx_Met l yL_setPace wsL_setPace ({ frames := 8, cells := 1, slots := 6, locals := 126 } : Room) (va_Pc [.ref (x 0), .int x1, .ref o] (PX D cs (w_Out cs o f ++ w_Xo cs x tq h a S ++ w_Text cs tq tx ++ w_Hist cs h a hs ++ linesW cs a 18 Ls) sa sz)) (va_Qi (fun r (u : (Nat → Int64) × XO × TS × HS × (Nat → LnS)) => Q r u.1 u.2.1 u.2.2.1 u.2.2.2.1 u.2.2.2.2) (fun (u : (Nat → Int64) × XO × TS × HS × (Nat → LnS)) t => va_P D vwCl (w_Out cs o u.1 ++ w_Xo cs x tq h a u.2.1 ++ w_Text cs tq u.2.2.1 ++ w_Hist cs h a u.2.2.2.1 ++ linesW cs a 18 u.2.2.2.2) t.heap ∧ va_D (va_A (w_Out cs o f ++ w_Xo cs x tq h a S ++ w_Text cs tq tx ++ w_Hist cs h a hs ++ linesW cs a 18 Ls) sz) (w_Out cs o u.1 ++ w_Xo cs x tq h a u.2.1 ++ w_Text cs tq u.2.2.1 ++ w_Hist cs h a u.2.2.2.1 ++ linesW cs a 18 u.2.2.2.2)) (va_A (w_Out cs o f ++ w_Xo cs x tq h a S ++ w_Text cs tq tx ++ w_Hist cs h a hs ++ linesW cs a 18 Ls) sz)) (vx_X (fun (_ : Unit) => False) (fun _ _ _ => True) (va_A (w_Out cs o f ++ w_Xo cs x tq h a S ++ w_Text cs tq tx ++ w_Hist cs h a hs ++ linesW cs a 18 Ls) sz)) 1 6 (va_A (w_Out cs o f ++ w_Xo cs x tq h a S ++ w_Text cs tq tx ++ w_Hist cs h a hs ++ linesW cs a 18 Ls) sz) := by
  refine vx_ofWH (cc := cL_setPace) (maxL := 4) (ret := (some .int)) (by decide) rfl ?_
  intro p e s m args below meth c s₁ B hml hv
  obtain ⟨rfl, ⟨hsz, hP, hKK, hD0⟩, hTW, hTZ⟩ := hv
  have hTab := vx_table (x := yL_setPace) B (atoms_spec (ws := wsL_setPace) B.pre _ List.mem_cons_self)
  have hC : MAt p s m _ meth c RL cL_setPace 4 (some .int) wsL_setPace D cs := ⟨B.exec, B.bytes, B.returns, hml, findClass_of_methodNamed B.named, atoms_spec (ws := wsL_setPace) B.pre, B.notSynchronized, hKK⟩
  have hl := lv_entry ([.ref (x 0), .int x1, .ref o]) (n := 4) (Nat.le_of_ble_eq_true rfl)
  rw [lg_entry_eq]
  generalize (lg_sl ([.ref (x 0), .int x1, .ref o]) ++ List.replicate (4 - (lg_sl ([.ref (x 0), .int x1, .ref o])).length) Slot.unset).toArray = ls at hl ⊢
  subst hsz
  have hD := hD0.self (sz := s.heap.size)
  have hA : ∀ z : Nat, s.heap.size ≤ z → va_A (w_Out cs o f ++ w_Xo cs x tq h a S ++ w_Text cs tq tx ++ w_Hist cs h a hs ++ linesW cs a 18 Ls) s.heap.size z := fun z h => Or.inr h
  exact t_L_setPace hC hfl hTab hTW hTZ o x tq h a f S tx hs Ls x1 Q hA hw s.heap [] hP hD va_S.rf ls hl
set_option maxHeartbeats 4000000 in
set_option maxRecDepth 100000 in
theorem t_L_link {p : Program} {l : Launch} {e : Env} {s : State} {m : MethodId} {args : Array Value} {below : List Frame} {meth : Method} {c : Code} {D : va_G} {cs : Nat → ClassId} {A : Nat → Prop} (hC : MAt p s m args meth c RL cL_link 5 (some .int) wsL_link D cs) (hfl : l.stackTraces = false) (hTab : c.exceptionTable.toList = tableOf [(0, 10, 13, 27)]) {sa : Nat → Nat} (hTW : TW sa s) (hTZ : TZ A s s.heap) (o : Nat) (x : Nat → Nat) (tq : Nat → Nat) (h : Nat → Nat) (a : Nat → Nat → Nat) (f : (Nat → Int64)) (S : XO) (tx : TS) (hs : HS) (Ls : (Nat → LnS)) (x1 : Int32) (x2 : Int32) (Q : Int32 → (Nat → Int64) → XO → TS → HS → (Nat → LnS) → Prop) (hA : ∀ q : Nat, s.heap.size ≤ q → A q) (hw : wp_L_link f S tx hs Ls x1 x2 Q) (H : Heap) (locs : List Loc) (hP : va_P D vwCl (w_Out cs o f ++ w_Xo cs x tq h a S ++ w_Text cs tq tx ++ w_Hist cs h a hs ++ linesW cs a 18 Ls) H) (hD : va_D A (w_Out cs o f ++ w_Xo cs x tq h a S ++ w_Text cs tq tx ++ w_Hist cs h a hs ++ linesW cs a 18 Ls)) (hS : va_S A s.heap H locs) (ls : Array Slot) (hl : lv_has ls 5 [(0, .ref (x 0)), (1, .int x1), (2, .int x2), (3, .ref o)]) : W p l e ({ frames := 7, cells := 1, slots := 6, locals := 104 } : Room) s m args below meth c H locs 0 0 (vx_MQ below (va_Qi (fun r (u : (Nat → Int64) × XO × TS × HS × (Nat → LnS)) => Q r u.1 u.2.1 u.2.2.1 u.2.2.2.1 u.2.2.2.2) (fun (u : (Nat → Int64) × XO × TS × HS × (Nat → LnS)) t => va_P D vwCl (w_Out cs o u.1 ++ w_Xo cs x tq h a u.2.1 ++ w_Text cs tq u.2.2.1 ++ w_Hist cs h a u.2.2.2.1 ++ linesW cs a 18 u.2.2.2.2) t.heap ∧ va_D A (w_Out cs o u.1 ++ w_Xo cs x tq h a u.2.1 ++ w_Text cs tq u.2.2.1 ++ w_Hist cs h a u.2.2.2.1 ++ linesW cs a 18 u.2.2.2.2)) A) (vx_X (fun (_ : Unit) => False) (fun _ _ _ => True) A) args s 1 6 A) (F0 m 0 ls []) := by
  obtain ⟨hx, hb, hr, hml, hown, hts, hlocks, hKK⟩ := id hC
  have hK := hKK.1
  refine lv_aload_n hx hb dL_link_0 rfl (lv_at hl 3 rfl) ?_
  refine lv_iconst (v := (0 : Int32)) hx hb dL_link_1 (by decide) ?_
  refine lv_aload_n hx hb dL_link_2 rfl (lv_at hl 0 rfl) ?_
  refine lv_iload_n hx hb dL_link_3 rfl (lv_at hl 1 rfl) ?_
  refine lv_iload_n hx hb dL_link_4 rfl (lv_at hl 2 rfl) ?_
  have hPx := z_perm_P z_out hP
  have hDx := z_perm_D z_out hD
  have hPc := (z_app_P hPx).1
  have hDc := (z_app_D hDx).1
  have hFc := z_free hDx hS hA
  refine vx_calli (vx_runV (As := [.int x1, .int x2]) (rest := [.int (0 : Int32), .ref o]) ⟨hx, hb, hml, hown, hts⟩ (c_X3_link l hfl D cs x tq h a H.size sa S tx hs Ls x1 x2 _ _ hw) (cwV 2 hts gL_link_X3_link rfl rfl rfl (by decide +kernel) ⟨Nat.le_of_ble_eq_true rfl, Nat.le_of_ble_eq_true rfl⟩) (PX_V hPc hDc hKK hTW hTZ hS hFc 0 3 rfl rfl) rfl rfl hl.1 rfl (lv_room (Nat.le_of_ble_eq_true rfl)) dL_link_5 ⟨Nat.le_of_ble_eq_true rfl, Nat.le_of_ble_eq_true rfl⟩) hS (fun q _ h => hFc q h) hFc (fun q _ h => hFc q h) ?_ (fun r1 u1 t H locs ht hvm hw hB hz1 hk1 hS => ?_)
  · intro E ce q9 u1 t H locs ht hvm hpx hB hz1 hk1 hS hq9 hce hcl
    obtain ⟨u1_0, u1_1, u1_2, u1_3⟩ := u1
    obtain ⟨hw, hP1, hD1⟩ := hB
    rw [ht] at hP1
    obtain ⟨hPx, hDx⟩ := z_join hPx hDx hk1 hFc hP1 hD1
    have hP : va_P D vwCl (w_Out cs o f ++ w_Xo cs x tq h a u1_0 ++ w_Text cs tq u1_1 ++ w_Hist cs h a u1_2 ++ linesW cs a 18 u1_3) H := z_perm_P z_outb hPx
    have hD : va_D A (w_Out cs o f ++ w_Xo cs x tq h a u1_0 ++ w_Text cs tq u1_1 ++ w_Hist cs h a u1_2 ++ linesW cs a 18 u1_3) := z_perm_D z_outb hDx
    obtain ⟨hor, hw⟩ := hw
    subst hor
    · have hw := hw rfl
      refine vx_catch (name := eIOB) hown [] ⟨0, 10, 13, 27⟩ [] (by rw [hTab]; rfl) (fun _ h => nomatch h) rfl (by decide) (z_w hts 1 rfl) (va_Nw.use rfl hTW.2.2.2.1) hq9 hce hcl ?_
      refine W.eq (g2 := F0 m 13 ls [.ref q9]) rfl ?_
      refine lv_astore (lv' := [(4, .ref q9), (0, .ref (x 0)), (1, .int x1), (2, .int x2), (3, .ref o)]) hx hb dL_link_13 hl (by decide) rfl (fun ls hl => ?_)
      refine lv_iconst (v := (1 : Int32)) hx hb dL_link_15 (by decide) ?_
      refine W.widen (k := 1) (n := 6) (Nat.le_of_ble_eq_true rfl) (Nat.le_of_ble_eq_true rfl) (vx_ret ?_)
      exact W.iret (v := (1 : Int32)) hx hb hr (fun t ht hW => ⟨⟨(1 : Int32), (f, u1_0, u1_1, u1_2, u1_3), rfl, hw, by rw [ht]; exact hP, hD⟩, hS.F ht⟩) hS.2.2 dL_link_16 hlocks
  obtain ⟨u1_0, u1_1, u1_2, u1_3⟩ := u1
  obtain ⟨hP1, hD1⟩ := hB
  rw [ht] at hP1
  obtain ⟨hPx, hDx⟩ := z_join hPx hDx hk1 hFc hP1 hD1
  have hP : va_P D vwCl (w_Out cs o f ++ w_Xo cs x tq h a u1_0 ++ w_Text cs tq u1_1 ++ w_Hist cs h a u1_2 ++ linesW cs a 18 u1_3) H := z_perm_P z_outb hPx
  have hD : va_D A (w_Out cs o f ++ w_Xo cs x tq h a u1_0 ++ w_Text cs tq u1_1 ++ w_Hist cs h a u1_2 ++ linesW cs a 18 u1_3) := z_perm_D z_outb hDx
  refine lv_i2l (v := r1.toInt64) hx hb dL_link_8 rfl ?_
  refine va_last hx hb hK hP hD hS 0 3 rfl rfl (show vp_in (0 : Int32) 1 by unfold vp_in; decide) dL_link_9 (fun H locs hP hD hS => ?_)
  have hP : va_P D vwCl (w_Out cs o (vp_updL f (0 : Int32).toNatClampNeg r1.toInt64) ++ w_Xo cs x tq h a u1_0 ++ w_Text cs tq u1_1 ++ w_Hist cs h a u1_2 ++ linesW cs a 18 u1_3) H := hP
  have hD : va_D A (w_Out cs o (vp_updL f (0 : Int32).toNatClampNeg r1.toInt64) ++ w_Xo cs x tq h a u1_0 ++ w_Text cs tq u1_1 ++ w_Hist cs h a u1_2 ++ linesW cs a 18 u1_3) := hD
  refine lv_goto (tgt := 17) hx hb dL_link_10 (by decide) ?_
  refine lv_iconst (v := (0 : Int32)) hx hb dL_link_17 (by decide) ?_
  refine W.widen (k := 1) (n := 6) (Nat.le_of_ble_eq_true rfl) (Nat.le_of_ble_eq_true rfl) (vx_ret ?_)
  exact W.iret (v := (0 : Int32)) hx hb hr (fun t ht hW => ⟨⟨(0 : Int32), (vp_updL f (0 : Int32).toNatClampNeg r1.toInt64, u1_0, u1_1, u1_2, u1_3), rfl, hw, by rw [ht]; exact hP, hD⟩, hS.F ht⟩) hS.2.2 dL_link_18 hlocks
set_option maxHeartbeats 4000000 in
set_option maxRecDepth 100000 in
theorem c_L_link (l : Launch) (hfl : l.stackTraces = false) (D : va_G) (cs : Nat → ClassId) (o : Nat) (x : Nat → Nat) (tq : Nat → Nat) (h : Nat → Nat) (a : Nat → Nat → Nat) (sz : Nat) (sa : Nat → Nat) (f : (Nat → Int64)) (S : XO) (tx : TS) (hs : HS) (Ls : (Nat → LnS)) (x1 : Int32) (x2 : Int32) (Q : Int32 → (Nat → Int64) → XO → TS → HS → (Nat → LnS) → Prop) (hw : wp_L_link f S tx hs Ls x1 x2 Q) : vx_Met l yL_link wsL_link ({ frames := 7, cells := 1, slots := 6, locals := 104 } : Room) (va_Pc [.ref (x 0), .int x1, .int x2, .ref o] (PX D cs (w_Out cs o f ++ w_Xo cs x tq h a S ++ w_Text cs tq tx ++ w_Hist cs h a hs ++ linesW cs a 18 Ls) sa sz)) (va_Qi (fun r (u : (Nat → Int64) × XO × TS × HS × (Nat → LnS)) => Q r u.1 u.2.1 u.2.2.1 u.2.2.2.1 u.2.2.2.2) (fun (u : (Nat → Int64) × XO × TS × HS × (Nat → LnS)) t => va_P D vwCl (w_Out cs o u.1 ++ w_Xo cs x tq h a u.2.1 ++ w_Text cs tq u.2.2.1 ++ w_Hist cs h a u.2.2.2.1 ++ linesW cs a 18 u.2.2.2.2) t.heap ∧ va_D (va_A (w_Out cs o f ++ w_Xo cs x tq h a S ++ w_Text cs tq tx ++ w_Hist cs h a hs ++ linesW cs a 18 Ls) sz) (w_Out cs o u.1 ++ w_Xo cs x tq h a u.2.1 ++ w_Text cs tq u.2.2.1 ++ w_Hist cs h a u.2.2.2.1 ++ linesW cs a 18 u.2.2.2.2)) (va_A (w_Out cs o f ++ w_Xo cs x tq h a S ++ w_Text cs tq tx ++ w_Hist cs h a hs ++ linesW cs a 18 Ls) sz)) (vx_X (fun (_ : Unit) => False) (fun _ _ _ => True) (va_A (w_Out cs o f ++ w_Xo cs x tq h a S ++ w_Text cs tq tx ++ w_Hist cs h a hs ++ linesW cs a 18 Ls) sz)) 1 6 (va_A (w_Out cs o f ++ w_Xo cs x tq h a S ++ w_Text cs tq tx ++ w_Hist cs h a hs ++ linesW cs a 18 Ls) sz) := by
  refine vx_ofWH (cc := cL_link) (maxL := 5) (ret := (some .int)) (by decide) rfl ?_
  intro p e s m args below meth c s₁ B hml hv
  obtain ⟨rfl, ⟨hsz, hP, hKK, hD0⟩, hTW, hTZ⟩ := hv
  have hTab := vx_table (x := yL_link) B (atoms_spec (ws := wsL_link) B.pre _ List.mem_cons_self)
  have hC : MAt p s m _ meth c RL cL_link 5 (some .int) wsL_link D cs := ⟨B.exec, B.bytes, B.returns, hml, findClass_of_methodNamed B.named, atoms_spec (ws := wsL_link) B.pre, B.notSynchronized, hKK⟩
  have hl := lv_entry ([.ref (x 0), .int x1, .int x2, .ref o]) (n := 5) (Nat.le_of_ble_eq_true rfl)
  rw [lg_entry_eq]
  generalize (lg_sl ([.ref (x 0), .int x1, .int x2, .ref o]) ++ List.replicate (5 - (lg_sl ([.ref (x 0), .int x1, .int x2, .ref o])).length) Slot.unset).toArray = ls at hl ⊢
  subst hsz
  have hD := hD0.self (sz := s.heap.size)
  have hA : ∀ z : Nat, s.heap.size ≤ z → va_A (w_Out cs o f ++ w_Xo cs x tq h a S ++ w_Text cs tq tx ++ w_Hist cs h a hs ++ linesW cs a 18 Ls) s.heap.size z := fun z h => Or.inr h
  exact t_L_link hC hfl hTab hTW hTZ o x tq h a f S tx hs Ls x1 x2 Q hA hw s.heap [] hP hD va_S.rf ls hl
set_option maxHeartbeats 4000000 in
set_option maxRecDepth 100000 in
theorem t_L_resize {p : Program} {l : Launch} {e : Env} {s : State} {m : MethodId} {args : Array Value} {below : List Frame} {meth : Method} {c : Code} {D : va_G} {cs : Nat → ClassId} {A : Nat → Prop} (hC : MAt p s m args meth c RL cL_resize 5 (some .int) wsL_resize D cs) (hfl : l.stackTraces = false) (hTab : c.exceptionTable.toList = tableOf [(0, 10, 13, 27), (0, 10, 17, 13)]) {sa : Nat → Nat} (hTW : TW sa s) (hTZ : TZ A s s.heap) (o : Nat) (x : Nat → Nat) (tq : Nat → Nat) (h : Nat → Nat) (a : Nat → Nat → Nat) (f : (Nat → Int64)) (S : XO) (tx : TS) (hs : HS) (Ls : (Nat → LnS)) (x1 : Int32) (x2 : Int32) (Q : Int32 → (Nat → Int64) → XO → TS → HS → (Nat → LnS) → Prop) (hA : ∀ q : Nat, s.heap.size ≤ q → A q) (hw : wp_L_resize f S tx hs Ls x1 x2 Q) (H : Heap) (locs : List Loc) (hP : va_P D vwCl (w_Out cs o f ++ w_Xo cs x tq h a S ++ w_Text cs tq tx ++ w_Hist cs h a hs ++ linesW cs a 18 Ls) H) (hD : va_D A (w_Out cs o f ++ w_Xo cs x tq h a S ++ w_Text cs tq tx ++ w_Hist cs h a hs ++ linesW cs a 18 Ls)) (hS : va_S A s.heap H locs) (ls : Array Slot) (hl : lv_has ls 5 [(0, .ref (x 0)), (1, .int x1), (2, .int x2), (3, .ref o)]) : W p l e ({ frames := 8, cells := 2, slots := 12, locals := 127 } : Room) s m args below meth c H locs 0 0 (vx_MQ below (va_Qi (fun r (u : (Nat → Int64) × XO × TS × HS × (Nat → LnS)) => Q r u.1 u.2.1 u.2.2.1 u.2.2.2.1 u.2.2.2.2) (fun (u : (Nat → Int64) × XO × TS × HS × (Nat → LnS)) t => va_P D vwCl (w_Out cs o u.1 ++ w_Xo cs x tq h a u.2.1 ++ w_Text cs tq u.2.2.1 ++ w_Hist cs h a u.2.2.2.1 ++ linesW cs a 18 u.2.2.2.2) t.heap ∧ va_D A (w_Out cs o u.1 ++ w_Xo cs x tq h a u.2.1 ++ w_Text cs tq u.2.2.1 ++ w_Hist cs h a u.2.2.2.1 ++ linesW cs a 18 u.2.2.2.2)) A) (vx_X (fun (_ : Unit) => False) (fun _ _ _ => True) A) args s 2 12 A) (F0 m 0 ls []) := by
  obtain ⟨hx, hb, hr, hml, hown, hts, hlocks, hKK⟩ := id hC
  have hK := hKK.1
  refine lv_aload_n hx hb dL_resize_0 rfl (lv_at hl 3 rfl) ?_
  refine lv_iconst (v := (0 : Int32)) hx hb dL_resize_1 (by decide) ?_
  refine lv_aload_n hx hb dL_resize_2 rfl (lv_at hl 0 rfl) ?_
  refine lv_iload_n hx hb dL_resize_3 rfl (lv_at hl 1 rfl) ?_
  refine lv_iload_n hx hb dL_resize_4 rfl (lv_at hl 2 rfl) ?_
  have hPx := z_perm_P z_out hP
  have hDx := z_perm_D z_out hD
  have hPc := (z_app_P hPx).1
  have hDc := (z_app_D hDx).1
  have hFc := z_free hDx hS hA
  refine vx_calli (vx_runV (As := [.int x1, .int x2]) (rest := [.int (0 : Int32), .ref o]) ⟨hx, hb, hml, hown, hts⟩ (c_X3_resize l hfl D cs x tq h a H.size sa S tx hs Ls x1 x2 _ _ hw) (cwV 2 hts gL_resize_X3_resize rfl rfl rfl (by decide +kernel) ⟨Nat.le_of_ble_eq_true rfl, Nat.le_of_ble_eq_true rfl⟩) (PX_V hPc hDc hKK hTW hTZ hS hFc 0 3 rfl rfl) rfl rfl hl.1 rfl (lv_room (Nat.le_of_ble_eq_true rfl)) dL_resize_5 ⟨Nat.le_of_ble_eq_true rfl, Nat.le_of_ble_eq_true rfl⟩) hS (fun q _ h => hFc q h) hFc (fun q _ h => hFc q h) ?_ (fun r1 u1 t H locs ht hvm hw hB hz1 hk1 hS => ?_)
  · intro E ce q9 u1 t H locs ht hvm hpx hB hz1 hk1 hS hq9 hce hcl
    obtain ⟨u1_0, u1_1, u1_2, u1_3⟩ := u1
    obtain ⟨hw, hP1, hD1⟩ := hB
    rw [ht] at hP1
    obtain ⟨hPx, hDx⟩ := z_join hPx hDx hk1 hFc hP1 hD1
    have hP : va_P D vwCl (w_Out cs o f ++ w_Xo cs x tq h a u1_0 ++ w_Text cs tq u1_1 ++ w_Hist cs h a u1_2 ++ linesW cs a 18 u1_3) H := z_perm_P z_outb hPx
    have hD : va_D A (w_Out cs o f ++ w_Xo cs x tq h a u1_0 ++ w_Text cs tq u1_1 ++ w_Hist cs h a u1_2 ++ linesW cs a 18 u1_3) := z_perm_D z_outb hDx
    obtain ⟨hor, hw⟩ := hw
    rcases hor with rfl | rfl
    · have hw := hw.1 rfl
      refine vx_catch (name := eIOB) hown [] ⟨0, 10, 13, 27⟩ [⟨0, 10, 17, 13⟩] (by rw [hTab]; rfl) (fun _ h => nomatch h) rfl (by decide) (z_w hts 1 rfl) (va_Nw.use rfl hTW.2.2.2.1) hq9 hce hcl ?_
      refine W.eq (g2 := F0 m 13 ls [.ref q9]) rfl ?_
      refine lv_astore (lv' := [(4, .ref q9), (0, .ref (x 0)), (1, .int x1), (2, .int x2), (3, .ref o)]) hx hb dL_resize_13 hl (by decide) rfl (fun ls hl => ?_)
      refine lv_iconst (v := (1 : Int32)) hx hb dL_resize_15 (by decide) ?_
      refine W.widen (k := 2) (n := 12) (Nat.le_of_ble_eq_true rfl) (Nat.le_of_ble_eq_true rfl) (vx_ret ?_)
      exact W.iret (v := (1 : Int32)) hx hb hr (fun t ht hW => ⟨⟨(1 : Int32), (f, u1_0, u1_1, u1_2, u1_3), rfl, hw, by rw [ht]; exact hP, hD⟩, hS.F ht⟩) hS.2.2 dL_resize_16 hlocks
    · have hw := hw.2 rfl
      refine vx_catch (name := eIAE) hown [⟨0, 10, 13, 27⟩] ⟨0, 10, 17, 13⟩ [] (by rw [hTab]; rfl) (List.forall_mem_cons.mpr ⟨Or.inr ⟨by decide, _, z_w hts 1 rfl, hTW.2.2.2.2.2.2.2.1⟩, (fun _ h => nomatch h)⟩) rfl (by decide) (z_w hts 2 rfl) (va_Nw.use rfl hTW.2.2.1) hq9 hce hcl ?_
      refine W.eq (g2 := F0 m 17 ls [.ref q9]) rfl ?_
      refine lv_astore (lv' := [(4, .ref q9), (0, .ref (x 0)), (1, .int x1), (2, .int x2), (3, .ref o)]) hx hb dL_resize_17 hl (by decide) rfl (fun ls hl => ?_)
      refine lv_iconst (v := (2 : Int32)) hx hb dL_resize_19 (by decide) ?_
      refine W.widen (k := 2) (n := 12) (Nat.le_of_ble_eq_true rfl) (Nat.le_of_ble_eq_true rfl) (vx_ret ?_)
      exact W.iret (v := (2 : Int32)) hx hb hr (fun t ht hW => ⟨⟨(2 : Int32), (f, u1_0, u1_1, u1_2, u1_3), rfl, hw, by rw [ht]; exact hP, hD⟩, hS.F ht⟩) hS.2.2 dL_resize_20 hlocks
  obtain ⟨u1_0, u1_1, u1_2, u1_3⟩ := u1
  obtain ⟨hP1, hD1⟩ := hB
  rw [ht] at hP1
  obtain ⟨hPx, hDx⟩ := z_join hPx hDx hk1 hFc hP1 hD1
  have hP : va_P D vwCl (w_Out cs o f ++ w_Xo cs x tq h a u1_0 ++ w_Text cs tq u1_1 ++ w_Hist cs h a u1_2 ++ linesW cs a 18 u1_3) H := z_perm_P z_outb hPx
  have hD : va_D A (w_Out cs o f ++ w_Xo cs x tq h a u1_0 ++ w_Text cs tq u1_1 ++ w_Hist cs h a u1_2 ++ linesW cs a 18 u1_3) := z_perm_D z_outb hDx
  refine lv_i2l (v := r1.toInt64) hx hb dL_resize_8 rfl ?_
  refine va_last hx hb hK hP hD hS 0 3 rfl rfl (show vp_in (0 : Int32) 1 by unfold vp_in; decide) dL_resize_9 (fun H locs hP hD hS => ?_)
  have hP : va_P D vwCl (w_Out cs o (vp_updL f (0 : Int32).toNatClampNeg r1.toInt64) ++ w_Xo cs x tq h a u1_0 ++ w_Text cs tq u1_1 ++ w_Hist cs h a u1_2 ++ linesW cs a 18 u1_3) H := hP
  have hD : va_D A (w_Out cs o (vp_updL f (0 : Int32).toNatClampNeg r1.toInt64) ++ w_Xo cs x tq h a u1_0 ++ w_Text cs tq u1_1 ++ w_Hist cs h a u1_2 ++ linesW cs a 18 u1_3) := hD
  refine lv_goto (tgt := 21) hx hb dL_resize_10 (by decide) ?_
  refine lv_iconst (v := (0 : Int32)) hx hb dL_resize_21 (by decide) ?_
  refine W.widen (k := 2) (n := 12) (Nat.le_of_ble_eq_true rfl) (Nat.le_of_ble_eq_true rfl) (vx_ret ?_)
  exact W.iret (v := (0 : Int32)) hx hb hr (fun t ht hW => ⟨⟨(0 : Int32), (vp_updL f (0 : Int32).toNatClampNeg r1.toInt64, u1_0, u1_1, u1_2, u1_3), rfl, hw, by rw [ht]; exact hP, hD⟩, hS.F ht⟩) hS.2.2 dL_resize_22 hlocks
set_option maxHeartbeats 4000000 in
set_option maxRecDepth 100000 in
theorem c_L_resize (l : Launch) (hfl : l.stackTraces = false) (D : va_G) (cs : Nat → ClassId) (o : Nat) (x : Nat → Nat) (tq : Nat → Nat) (h : Nat → Nat) (a : Nat → Nat → Nat) (sz : Nat) (sa : Nat → Nat) (f : (Nat → Int64)) (S : XO) (tx : TS) (hs : HS) (Ls : (Nat → LnS)) (x1 : Int32) (x2 : Int32) (Q : Int32 → (Nat → Int64) → XO → TS → HS → (Nat → LnS) → Prop) (hw : wp_L_resize f S tx hs Ls x1 x2 Q) : vx_Met l yL_resize wsL_resize ({ frames := 8, cells := 2, slots := 12, locals := 127 } : Room) (va_Pc [.ref (x 0), .int x1, .int x2, .ref o] (PX D cs (w_Out cs o f ++ w_Xo cs x tq h a S ++ w_Text cs tq tx ++ w_Hist cs h a hs ++ linesW cs a 18 Ls) sa sz)) (va_Qi (fun r (u : (Nat → Int64) × XO × TS × HS × (Nat → LnS)) => Q r u.1 u.2.1 u.2.2.1 u.2.2.2.1 u.2.2.2.2) (fun (u : (Nat → Int64) × XO × TS × HS × (Nat → LnS)) t => va_P D vwCl (w_Out cs o u.1 ++ w_Xo cs x tq h a u.2.1 ++ w_Text cs tq u.2.2.1 ++ w_Hist cs h a u.2.2.2.1 ++ linesW cs a 18 u.2.2.2.2) t.heap ∧ va_D (va_A (w_Out cs o f ++ w_Xo cs x tq h a S ++ w_Text cs tq tx ++ w_Hist cs h a hs ++ linesW cs a 18 Ls) sz) (w_Out cs o u.1 ++ w_Xo cs x tq h a u.2.1 ++ w_Text cs tq u.2.2.1 ++ w_Hist cs h a u.2.2.2.1 ++ linesW cs a 18 u.2.2.2.2)) (va_A (w_Out cs o f ++ w_Xo cs x tq h a S ++ w_Text cs tq tx ++ w_Hist cs h a hs ++ linesW cs a 18 Ls) sz)) (vx_X (fun (_ : Unit) => False) (fun _ _ _ => True) (va_A (w_Out cs o f ++ w_Xo cs x tq h a S ++ w_Text cs tq tx ++ w_Hist cs h a hs ++ linesW cs a 18 Ls) sz)) 2 12 (va_A (w_Out cs o f ++ w_Xo cs x tq h a S ++ w_Text cs tq tx ++ w_Hist cs h a hs ++ linesW cs a 18 Ls) sz) := by
  refine vx_ofWH (cc := cL_resize) (maxL := 5) (ret := (some .int)) (by decide) rfl ?_
  intro p e s m args below meth c s₁ B hml hv
  obtain ⟨rfl, ⟨hsz, hP, hKK, hD0⟩, hTW, hTZ⟩ := hv
  have hTab := vx_table (x := yL_resize) B (atoms_spec (ws := wsL_resize) B.pre _ List.mem_cons_self)
  have hC : MAt p s m _ meth c RL cL_resize 5 (some .int) wsL_resize D cs := ⟨B.exec, B.bytes, B.returns, hml, findClass_of_methodNamed B.named, atoms_spec (ws := wsL_resize) B.pre, B.notSynchronized, hKK⟩
  have hl := lv_entry ([.ref (x 0), .int x1, .int x2, .ref o]) (n := 5) (Nat.le_of_ble_eq_true rfl)
  rw [lg_entry_eq]
  generalize (lg_sl ([.ref (x 0), .int x1, .int x2, .ref o]) ++ List.replicate (5 - (lg_sl ([.ref (x 0), .int x1, .int x2, .ref o])).length) Slot.unset).toArray = ls at hl ⊢
  subst hsz
  have hD := hD0.self (sz := s.heap.size)
  have hA : ∀ z : Nat, s.heap.size ≤ z → va_A (w_Out cs o f ++ w_Xo cs x tq h a S ++ w_Text cs tq tx ++ w_Hist cs h a hs ++ linesW cs a 18 Ls) s.heap.size z := fun z h => Or.inr h
  exact t_L_resize hC hfl hTab hTW hTZ o x tq h a f S tx hs Ls x1 x2 Q hA hw s.heap [] hP hD va_S.rf ls hl
set_option maxHeartbeats 4000000 in
set_option maxRecDepth 100000 in
theorem t_L_pour {p : Program} {l : Launch} {e : Env} {s : State} {m : MethodId} {args : Array Value} {below : List Frame} {meth : Method} {c : Code} {D : va_G} {cs : Nat → ClassId} {A : Nat → Prop} (hC : MAt p s m args meth c RL cL_pour 5 (some .int) wsL_pour D cs) (hfl : l.stackTraces = false) (hTab : c.exceptionTable.toList = tableOf [(0, 9, 12, 27), (0, 9, 16, 13)]) {sa : Nat → Nat} (hTW : TW sa s) (hTZ : TZ A s s.heap) (o : Nat) (x : Nat → Nat) (tq : Nat → Nat) (h : Nat → Nat) (a : Nat → Nat → Nat) (f : (Nat → Int64)) (S : XO) (tx : TS) (hs : HS) (Ls : (Nat → LnS)) (x1 : Int32) (x2 : Int32) (Q : Int32 → (Nat → Int64) → XO → TS → HS → (Nat → LnS) → Prop) (hA : ∀ q : Nat, s.heap.size ≤ q → A q) (hw : wp_L_pour f S tx hs Ls x1 x2 Q) (H : Heap) (locs : List Loc) (hP : va_P D vwCl (w_Out cs o f ++ w_Xo cs x tq h a S ++ w_Text cs tq tx ++ w_Hist cs h a hs ++ linesW cs a 18 Ls) H) (hD : va_D A (w_Out cs o f ++ w_Xo cs x tq h a S ++ w_Text cs tq tx ++ w_Hist cs h a hs ++ linesW cs a 18 Ls)) (hS : va_S A s.heap H locs) (ls : Array Slot) (hl : lv_has ls 5 [(0, .ref (x 0)), (1, .int x1), (2, .int x2), (3, .ref o)]) : W p l e ({ frames := 8, cells := 3, slots := 18, locals := 127 } : Room) s m args below meth c H locs 0 0 (vx_MQ below (va_Qi (fun r (u : (Nat → Int64) × XO × TS × HS × (Nat → LnS)) => Q r u.1 u.2.1 u.2.2.1 u.2.2.2.1 u.2.2.2.2) (fun (u : (Nat → Int64) × XO × TS × HS × (Nat → LnS)) t => va_P D vwCl (w_Out cs o u.1 ++ w_Xo cs x tq h a u.2.1 ++ w_Text cs tq u.2.2.1 ++ w_Hist cs h a u.2.2.2.1 ++ linesW cs a 18 u.2.2.2.2) t.heap ∧ va_D A (w_Out cs o u.1 ++ w_Xo cs x tq h a u.2.1 ++ w_Text cs tq u.2.2.1 ++ w_Hist cs h a u.2.2.2.1 ++ linesW cs a 18 u.2.2.2.2)) A) (vx_X (fun (_ : Unit) => False) (fun _ _ _ => True) A) args s 3 18 A) (F0 m 0 ls []) := by
  obtain ⟨hx, hb, hr, hml, hown, hts, hlocks, hKK⟩ := id hC
  have hK := hKK.1
  refine lv_aload_n hx hb dL_pour_0 rfl (lv_at hl 3 rfl) ?_
  refine lv_iconst (v := (0 : Int32)) hx hb dL_pour_1 (by decide) ?_
  refine lv_aload_n hx hb dL_pour_2 rfl (lv_at hl 0 rfl) ?_
  refine lv_iload_n hx hb dL_pour_3 rfl (lv_at hl 1 rfl) ?_
  refine lv_iload_n hx hb dL_pour_4 rfl (lv_at hl 2 rfl) ?_
  have hPx := z_perm_P z_out hP
  have hDx := z_perm_D z_out hD
  have hPc := (z_app_P hPx).1
  have hDc := (z_app_D hDx).1
  have hFc := z_free hDx hS hA
  refine vx_calll (vx_runV (As := [.int x1, .int x2]) (rest := [.int (0 : Int32), .ref o]) ⟨hx, hb, hml, hown, hts⟩ (c_X3_pour l hfl D cs x tq h a H.size sa S tx hs Ls x1 x2 _ _ hw) (cwV 2 hts gL_pour_X3_pour rfl rfl rfl (by decide +kernel) ⟨Nat.le_of_ble_eq_true rfl, Nat.le_of_ble_eq_true rfl⟩) (PX_V hPc hDc hKK hTW hTZ hS hFc 0 3 rfl rfl) rfl rfl hl.1 rfl (lv_room (Nat.le_of_ble_eq_true rfl)) dL_pour_5 ⟨Nat.le_of_ble_eq_true rfl, Nat.le_of_ble_eq_true rfl⟩) hS (fun q _ h => hFc q h) hFc (fun q _ h => hFc q h) ?_ (fun r1 u1 t H locs ht hvm hw hB hz1 hk1 hS => ?_)
  · intro E ce q9 u1 t H locs ht hvm hpx hB hz1 hk1 hS hq9 hce hcl
    obtain ⟨u1_0, u1_1, u1_2, u1_3⟩ := u1
    obtain ⟨hw, hP1, hD1⟩ := hB
    rw [ht] at hP1
    obtain ⟨hPx, hDx⟩ := z_join hPx hDx hk1 hFc hP1 hD1
    have hP : va_P D vwCl (w_Out cs o f ++ w_Xo cs x tq h a u1_0 ++ w_Text cs tq u1_1 ++ w_Hist cs h a u1_2 ++ linesW cs a 18 u1_3) H := z_perm_P z_outb hPx
    have hD : va_D A (w_Out cs o f ++ w_Xo cs x tq h a u1_0 ++ w_Text cs tq u1_1 ++ w_Hist cs h a u1_2 ++ linesW cs a 18 u1_3) := z_perm_D z_outb hDx
    obtain ⟨hor, hw⟩ := hw
    rcases hor with rfl | rfl
    · have hw := hw.1 rfl
      refine vx_catch (name := eIOB) hown [] ⟨0, 9, 12, 27⟩ [⟨0, 9, 16, 13⟩] (by rw [hTab]; rfl) (fun _ h => nomatch h) rfl (by decide) (z_w hts 1 rfl) (va_Nw.use rfl hTW.2.2.2.1) hq9 hce hcl ?_
      refine W.eq (g2 := F0 m 12 ls [.ref q9]) rfl ?_
      refine lv_astore (lv' := [(4, .ref q9), (0, .ref (x 0)), (1, .int x1), (2, .int x2), (3, .ref o)]) hx hb dL_pour_12 hl (by decide) rfl (fun ls hl => ?_)
      refine lv_iconst (v := (1 : Int32)) hx hb dL_pour_14 (by decide) ?_
      refine W.widen (k := 3) (n := 18) (Nat.le_of_ble_eq_true rfl) (Nat.le_of_ble_eq_true rfl) (vx_ret ?_)
      exact W.iret (v := (1 : Int32)) hx hb hr (fun t ht hW => ⟨⟨(1 : Int32), (f, u1_0, u1_1, u1_2, u1_3), rfl, hw, by rw [ht]; exact hP, hD⟩, hS.F ht⟩) hS.2.2 dL_pour_15 hlocks
    · have hw := hw.2 rfl
      refine vx_catch (name := eIAE) hown [⟨0, 9, 12, 27⟩] ⟨0, 9, 16, 13⟩ [] (by rw [hTab]; rfl) (List.forall_mem_cons.mpr ⟨Or.inr ⟨by decide, _, z_w hts 1 rfl, hTW.2.2.2.2.2.2.2.1⟩, (fun _ h => nomatch h)⟩) rfl (by decide) (z_w hts 2 rfl) (va_Nw.use rfl hTW.2.2.1) hq9 hce hcl ?_
      refine W.eq (g2 := F0 m 16 ls [.ref q9]) rfl ?_
      refine lv_astore (lv' := [(4, .ref q9), (0, .ref (x 0)), (1, .int x1), (2, .int x2), (3, .ref o)]) hx hb dL_pour_16 hl (by decide) rfl (fun ls hl => ?_)
      refine lv_iconst (v := (2 : Int32)) hx hb dL_pour_18 (by decide) ?_
      refine W.widen (k := 3) (n := 18) (Nat.le_of_ble_eq_true rfl) (Nat.le_of_ble_eq_true rfl) (vx_ret ?_)
      exact W.iret (v := (2 : Int32)) hx hb hr (fun t ht hW => ⟨⟨(2 : Int32), (f, u1_0, u1_1, u1_2, u1_3), rfl, hw, by rw [ht]; exact hP, hD⟩, hS.F ht⟩) hS.2.2 dL_pour_19 hlocks
  obtain ⟨u1_0, u1_1, u1_2, u1_3⟩ := u1
  obtain ⟨hP1, hD1⟩ := hB
  rw [ht] at hP1
  obtain ⟨hPx, hDx⟩ := z_join hPx hDx hk1 hFc hP1 hD1
  have hP : va_P D vwCl (w_Out cs o f ++ w_Xo cs x tq h a u1_0 ++ w_Text cs tq u1_1 ++ w_Hist cs h a u1_2 ++ linesW cs a 18 u1_3) H := z_perm_P z_outb hPx
  have hD : va_D A (w_Out cs o f ++ w_Xo cs x tq h a u1_0 ++ w_Text cs tq u1_1 ++ w_Hist cs h a u1_2 ++ linesW cs a 18 u1_3) := z_perm_D z_outb hDx
  refine va_last hx hb hK hP hD hS 0 3 rfl rfl (show vp_in (0 : Int32) 1 by unfold vp_in; decide) dL_pour_8 (fun H locs hP hD hS => ?_)
  have hP : va_P D vwCl (w_Out cs o (vp_updL f (0 : Int32).toNatClampNeg r1) ++ w_Xo cs x tq h a u1_0 ++ w_Text cs tq u1_1 ++ w_Hist cs h a u1_2 ++ linesW cs a 18 u1_3) H := hP
  have hD : va_D A (w_Out cs o (vp_updL f (0 : Int32).toNatClampNeg r1) ++ w_Xo cs x tq h a u1_0 ++ w_Text cs tq u1_1 ++ w_Hist cs h a u1_2 ++ linesW cs a 18 u1_3) := hD
  refine lv_goto (tgt := 20) hx hb dL_pour_9 (by decide) ?_
  refine lv_iconst (v := (0 : Int32)) hx hb dL_pour_20 (by decide) ?_
  refine W.widen (k := 3) (n := 18) (Nat.le_of_ble_eq_true rfl) (Nat.le_of_ble_eq_true rfl) (vx_ret ?_)
  exact W.iret (v := (0 : Int32)) hx hb hr (fun t ht hW => ⟨⟨(0 : Int32), (vp_updL f (0 : Int32).toNatClampNeg r1, u1_0, u1_1, u1_2, u1_3), rfl, hw, by rw [ht]; exact hP, hD⟩, hS.F ht⟩) hS.2.2 dL_pour_21 hlocks
set_option maxHeartbeats 4000000 in
set_option maxRecDepth 100000 in
theorem c_L_pour (l : Launch) (hfl : l.stackTraces = false) (D : va_G) (cs : Nat → ClassId) (o : Nat) (x : Nat → Nat) (tq : Nat → Nat) (h : Nat → Nat) (a : Nat → Nat → Nat) (sz : Nat) (sa : Nat → Nat) (f : (Nat → Int64)) (S : XO) (tx : TS) (hs : HS) (Ls : (Nat → LnS)) (x1 : Int32) (x2 : Int32) (Q : Int32 → (Nat → Int64) → XO → TS → HS → (Nat → LnS) → Prop) (hw : wp_L_pour f S tx hs Ls x1 x2 Q) : vx_Met l yL_pour wsL_pour ({ frames := 8, cells := 3, slots := 18, locals := 127 } : Room) (va_Pc [.ref (x 0), .int x1, .int x2, .ref o] (PX D cs (w_Out cs o f ++ w_Xo cs x tq h a S ++ w_Text cs tq tx ++ w_Hist cs h a hs ++ linesW cs a 18 Ls) sa sz)) (va_Qi (fun r (u : (Nat → Int64) × XO × TS × HS × (Nat → LnS)) => Q r u.1 u.2.1 u.2.2.1 u.2.2.2.1 u.2.2.2.2) (fun (u : (Nat → Int64) × XO × TS × HS × (Nat → LnS)) t => va_P D vwCl (w_Out cs o u.1 ++ w_Xo cs x tq h a u.2.1 ++ w_Text cs tq u.2.2.1 ++ w_Hist cs h a u.2.2.2.1 ++ linesW cs a 18 u.2.2.2.2) t.heap ∧ va_D (va_A (w_Out cs o f ++ w_Xo cs x tq h a S ++ w_Text cs tq tx ++ w_Hist cs h a hs ++ linesW cs a 18 Ls) sz) (w_Out cs o u.1 ++ w_Xo cs x tq h a u.2.1 ++ w_Text cs tq u.2.2.1 ++ w_Hist cs h a u.2.2.2.1 ++ linesW cs a 18 u.2.2.2.2)) (va_A (w_Out cs o f ++ w_Xo cs x tq h a S ++ w_Text cs tq tx ++ w_Hist cs h a hs ++ linesW cs a 18 Ls) sz)) (vx_X (fun (_ : Unit) => False) (fun _ _ _ => True) (va_A (w_Out cs o f ++ w_Xo cs x tq h a S ++ w_Text cs tq tx ++ w_Hist cs h a hs ++ linesW cs a 18 Ls) sz)) 3 18 (va_A (w_Out cs o f ++ w_Xo cs x tq h a S ++ w_Text cs tq tx ++ w_Hist cs h a hs ++ linesW cs a 18 Ls) sz) := by
  refine vx_ofWH (cc := cL_pour) (maxL := 5) (ret := (some .int)) (by decide) rfl ?_
  intro p e s m args below meth c s₁ B hml hv
  obtain ⟨rfl, ⟨hsz, hP, hKK, hD0⟩, hTW, hTZ⟩ := hv
  have hTab := vx_table (x := yL_pour) B (atoms_spec (ws := wsL_pour) B.pre _ List.mem_cons_self)
  have hC : MAt p s m _ meth c RL cL_pour 5 (some .int) wsL_pour D cs := ⟨B.exec, B.bytes, B.returns, hml, findClass_of_methodNamed B.named, atoms_spec (ws := wsL_pour) B.pre, B.notSynchronized, hKK⟩
  have hl := lv_entry ([.ref (x 0), .int x1, .int x2, .ref o]) (n := 5) (Nat.le_of_ble_eq_true rfl)
  rw [lg_entry_eq]
  generalize (lg_sl ([.ref (x 0), .int x1, .int x2, .ref o]) ++ List.replicate (5 - (lg_sl ([.ref (x 0), .int x1, .int x2, .ref o])).length) Slot.unset).toArray = ls at hl ⊢
  subst hsz
  have hD := hD0.self (sz := s.heap.size)
  have hA : ∀ z : Nat, s.heap.size ≤ z → va_A (w_Out cs o f ++ w_Xo cs x tq h a S ++ w_Text cs tq tx ++ w_Hist cs h a hs ++ linesW cs a 18 Ls) s.heap.size z := fun z h => Or.inr h
  exact t_L_pour hC hfl hTab hTW hTZ o x tq h a f S tx hs Ls x1 x2 Q hA hw s.heap [] hP hD va_S.rf ls hl
set_option maxHeartbeats 4000000 in
set_option maxRecDepth 100000 in
theorem t_L_undo {p : Program} {l : Launch} {e : Env} {s : State} {m : MethodId} {args : Array Value} {below : List Frame} {meth : Method} {c : Code} {D : va_G} {cs : Nat → ClassId} {A : Nat → Prop} (hC : MAt p s m args meth c RL cL_undo 3 (some .int) wsL_undo D cs) (hfl : l.stackTraces = false) (hTab : c.exceptionTable.toList = tableOf [(0, 8, 11, 15)]) {sa : Nat → Nat} (hTW : TW sa s) (hTZ : TZ A s s.heap) (o : Nat) (x : Nat → Nat) (tq : Nat → Nat) (h : Nat → Nat) (a : Nat → Nat → Nat) (f : (Nat → Int64)) (S : XO) (tx : TS) (hs : HS) (Ls : (Nat → LnS)) (Q : Int32 → (Nat → Int64) → XO → TS → HS → (Nat → LnS) → Prop) (hA : ∀ q : Nat, s.heap.size ≤ q → A q) (hw : wp_L_undo f S tx hs Ls Q) (H : Heap) (locs : List Loc) (hP : va_P D vwCl (w_Out cs o f ++ w_Xo cs x tq h a S ++ w_Text cs tq tx ++ w_Hist cs h a hs ++ linesW cs a 18 Ls) H) (hD : va_D A (w_Out cs o f ++ w_Xo cs x tq h a S ++ w_Text cs tq tx ++ w_Hist cs h a hs ++ linesW cs a 18 Ls)) (hS : va_S A s.heap H locs) (ls : Array Slot) (hl : lv_has ls 3 [(0, .ref (x 0)), (1, .ref o)]) : W p l e ({ frames := 7, cells := 1, slots := 6, locals := 102 } : Room) s m args below meth c H locs 0 0 (vx_MQ below (va_Qi (fun r (u : (Nat → Int64) × XO × TS × HS × (Nat → LnS)) => Q r u.1 u.2.1 u.2.2.1 u.2.2.2.1 u.2.2.2.2) (fun (u : (Nat → Int64) × XO × TS × HS × (Nat → LnS)) t => va_P D vwCl (w_Out cs o u.1 ++ w_Xo cs x tq h a u.2.1 ++ w_Text cs tq u.2.2.1 ++ w_Hist cs h a u.2.2.2.1 ++ linesW cs a 18 u.2.2.2.2) t.heap ∧ va_D A (w_Out cs o u.1 ++ w_Xo cs x tq h a u.2.1 ++ w_Text cs tq u.2.2.1 ++ w_Hist cs h a u.2.2.2.1 ++ linesW cs a 18 u.2.2.2.2)) A) (vx_X (fun (_ : Unit) => False) (fun _ _ _ => True) A) args s 1 6 A) (F0 m 0 ls []) := by
  obtain ⟨hx, hb, hr, hml, hown, hts, hlocks, hKK⟩ := id hC
  have hK := hKK.1
  refine lv_aload_n hx hb dL_undo_0 rfl (lv_at hl 1 rfl) ?_
  refine lv_iconst (v := (0 : Int32)) hx hb dL_undo_1 (by decide) ?_
  refine lv_aload_n hx hb dL_undo_2 rfl (lv_at hl 0 rfl) ?_
  have hPx := z_perm_P z_out hP
  have hDx := z_perm_D z_out hD
  have hPc := (z_app_P hPx).1
  have hDc := (z_app_D hDx).1
  have hFc := z_free hDx hS hA
  refine vx_calli (vx_runV (As := []) (rest := [.int (0 : Int32), .ref o]) ⟨hx, hb, hml, hown, hts⟩ (c_X3_undo l hfl D cs x tq h a H.size sa S tx hs Ls _ _ hw) (cwV 0 hts gL_undo_X3_undo rfl rfl rfl (by decide +kernel) ⟨Nat.le_of_ble_eq_true rfl, Nat.le_of_ble_eq_true rfl⟩) (PX_V hPc hDc hKK hTW hTZ hS hFc 0 3 rfl rfl) rfl rfl hl.1 rfl (lv_room (Nat.le_of_ble_eq_true rfl)) dL_undo_3 ⟨Nat.le_of_ble_eq_true rfl, Nat.le_of_ble_eq_true rfl⟩) hS (fun q _ h => hFc q h) hFc (fun q _ h => hFc q h) ?_ (fun r1 u1 t H locs ht hvm hw hB hz1 hk1 hS => ?_)
  · intro E ce q9 u1 t H locs ht hvm hpx hB hz1 hk1 hS hq9 hce hcl
    obtain ⟨u1_0, u1_1, u1_2, u1_3⟩ := u1
    obtain ⟨hw, hP1, hD1⟩ := hB
    rw [ht] at hP1
    obtain ⟨hPx, hDx⟩ := z_join hPx hDx hk1 hFc hP1 hD1
    have hP : va_P D vwCl (w_Out cs o f ++ w_Xo cs x tq h a u1_0 ++ w_Text cs tq u1_1 ++ w_Hist cs h a u1_2 ++ linesW cs a 18 u1_3) H := z_perm_P z_outb hPx
    have hD : va_D A (w_Out cs o f ++ w_Xo cs x tq h a u1_0 ++ w_Text cs tq u1_1 ++ w_Hist cs h a u1_2 ++ linesW cs a 18 u1_3) := z_perm_D z_outb hDx
    obtain ⟨hor, hw⟩ := hw
    subst hor
    · have hw := hw rfl
      refine vx_catch (name := eISE) hown [] ⟨0, 8, 11, 15⟩ [] (by rw [hTab]; rfl) (fun _ h => nomatch h) rfl (by decide) (z_w hts 1 rfl) (va_Nw.use rfl hTW.2.1) hq9 hce hcl ?_
      refine W.eq (g2 := F0 m 11 ls [.ref q9]) rfl ?_
      refine lv_astore_n (lv' := [(2, .ref q9), (0, .ref (x 0)), (1, .ref o)]) hx hb dL_undo_11 rfl hl (by decide) rfl (fun ls hl => ?_)
      refine lv_iconst (v := (1 : Int32)) hx hb dL_undo_12 (by decide) ?_
      refine W.widen (k := 1) (n := 6) (Nat.le_of_ble_eq_true rfl) (Nat.le_of_ble_eq_true rfl) (vx_ret ?_)
      exact W.iret (v := (1 : Int32)) hx hb hr (fun t ht hW => ⟨⟨(1 : Int32), (f, u1_0, u1_1, u1_2, u1_3), rfl, hw, by rw [ht]; exact hP, hD⟩, hS.F ht⟩) hS.2.2 dL_undo_13 hlocks
  obtain ⟨u1_0, u1_1, u1_2, u1_3⟩ := u1
  obtain ⟨hP1, hD1⟩ := hB
  rw [ht] at hP1
  obtain ⟨hPx, hDx⟩ := z_join hPx hDx hk1 hFc hP1 hD1
  have hP : va_P D vwCl (w_Out cs o f ++ w_Xo cs x tq h a u1_0 ++ w_Text cs tq u1_1 ++ w_Hist cs h a u1_2 ++ linesW cs a 18 u1_3) H := z_perm_P z_outb hPx
  have hD : va_D A (w_Out cs o f ++ w_Xo cs x tq h a u1_0 ++ w_Text cs tq u1_1 ++ w_Hist cs h a u1_2 ++ linesW cs a 18 u1_3) := z_perm_D z_outb hDx
  refine lv_i2l (v := r1.toInt64) hx hb dL_undo_6 rfl ?_
  refine va_last hx hb hK hP hD hS 0 3 rfl rfl (show vp_in (0 : Int32) 1 by unfold vp_in; decide) dL_undo_7 (fun H locs hP hD hS => ?_)
  have hP : va_P D vwCl (w_Out cs o (vp_updL f (0 : Int32).toNatClampNeg r1.toInt64) ++ w_Xo cs x tq h a u1_0 ++ w_Text cs tq u1_1 ++ w_Hist cs h a u1_2 ++ linesW cs a 18 u1_3) H := hP
  have hD : va_D A (w_Out cs o (vp_updL f (0 : Int32).toNatClampNeg r1.toInt64) ++ w_Xo cs x tq h a u1_0 ++ w_Text cs tq u1_1 ++ w_Hist cs h a u1_2 ++ linesW cs a 18 u1_3) := hD
  refine lv_goto (tgt := 14) hx hb dL_undo_8 (by decide) ?_
  refine lv_iconst (v := (0 : Int32)) hx hb dL_undo_14 (by decide) ?_
  refine W.widen (k := 1) (n := 6) (Nat.le_of_ble_eq_true rfl) (Nat.le_of_ble_eq_true rfl) (vx_ret ?_)
  exact W.iret (v := (0 : Int32)) hx hb hr (fun t ht hW => ⟨⟨(0 : Int32), (vp_updL f (0 : Int32).toNatClampNeg r1.toInt64, u1_0, u1_1, u1_2, u1_3), rfl, hw, by rw [ht]; exact hP, hD⟩, hS.F ht⟩) hS.2.2 dL_undo_15 hlocks
set_option maxHeartbeats 4000000 in
set_option maxRecDepth 100000 in
theorem c_L_undo (l : Launch) (hfl : l.stackTraces = false) (D : va_G) (cs : Nat → ClassId) (o : Nat) (x : Nat → Nat) (tq : Nat → Nat) (h : Nat → Nat) (a : Nat → Nat → Nat) (sz : Nat) (sa : Nat → Nat) (f : (Nat → Int64)) (S : XO) (tx : TS) (hs : HS) (Ls : (Nat → LnS)) (Q : Int32 → (Nat → Int64) → XO → TS → HS → (Nat → LnS) → Prop) (hw : wp_L_undo f S tx hs Ls Q) : vx_Met l yL_undo wsL_undo ({ frames := 7, cells := 1, slots := 6, locals := 102 } : Room) (va_Pc [.ref (x 0), .ref o] (PX D cs (w_Out cs o f ++ w_Xo cs x tq h a S ++ w_Text cs tq tx ++ w_Hist cs h a hs ++ linesW cs a 18 Ls) sa sz)) (va_Qi (fun r (u : (Nat → Int64) × XO × TS × HS × (Nat → LnS)) => Q r u.1 u.2.1 u.2.2.1 u.2.2.2.1 u.2.2.2.2) (fun (u : (Nat → Int64) × XO × TS × HS × (Nat → LnS)) t => va_P D vwCl (w_Out cs o u.1 ++ w_Xo cs x tq h a u.2.1 ++ w_Text cs tq u.2.2.1 ++ w_Hist cs h a u.2.2.2.1 ++ linesW cs a 18 u.2.2.2.2) t.heap ∧ va_D (va_A (w_Out cs o f ++ w_Xo cs x tq h a S ++ w_Text cs tq tx ++ w_Hist cs h a hs ++ linesW cs a 18 Ls) sz) (w_Out cs o u.1 ++ w_Xo cs x tq h a u.2.1 ++ w_Text cs tq u.2.2.1 ++ w_Hist cs h a u.2.2.2.1 ++ linesW cs a 18 u.2.2.2.2)) (va_A (w_Out cs o f ++ w_Xo cs x tq h a S ++ w_Text cs tq tx ++ w_Hist cs h a hs ++ linesW cs a 18 Ls) sz)) (vx_X (fun (_ : Unit) => False) (fun _ _ _ => True) (va_A (w_Out cs o f ++ w_Xo cs x tq h a S ++ w_Text cs tq tx ++ w_Hist cs h a hs ++ linesW cs a 18 Ls) sz)) 1 6 (va_A (w_Out cs o f ++ w_Xo cs x tq h a S ++ w_Text cs tq tx ++ w_Hist cs h a hs ++ linesW cs a 18 Ls) sz) := by
  refine vx_ofWH (cc := cL_undo) (maxL := 3) (ret := (some .int)) (by decide) rfl ?_
  intro p e s m args below meth c s₁ B hml hv
  obtain ⟨rfl, ⟨hsz, hP, hKK, hD0⟩, hTW, hTZ⟩ := hv
  have hTab := vx_table (x := yL_undo) B (atoms_spec (ws := wsL_undo) B.pre _ List.mem_cons_self)
  have hC : MAt p s m _ meth c RL cL_undo 3 (some .int) wsL_undo D cs := ⟨B.exec, B.bytes, B.returns, hml, findClass_of_methodNamed B.named, atoms_spec (ws := wsL_undo) B.pre, B.notSynchronized, hKK⟩
  have hl := lv_entry ([.ref (x 0), .ref o]) (n := 3) (Nat.le_of_ble_eq_true rfl)
  rw [lg_entry_eq]
  generalize (lg_sl ([.ref (x 0), .ref o]) ++ List.replicate (3 - (lg_sl ([.ref (x 0), .ref o])).length) Slot.unset).toArray = ls at hl ⊢
  subst hsz
  have hD := hD0.self (sz := s.heap.size)
  have hA : ∀ z : Nat, s.heap.size ≤ z → va_A (w_Out cs o f ++ w_Xo cs x tq h a S ++ w_Text cs tq tx ++ w_Hist cs h a hs ++ linesW cs a 18 Ls) s.heap.size z := fun z h => Or.inr h
  exact t_L_undo hC hfl hTab hTW hTZ o x tq h a f S tx hs Ls Q hA hw s.heap [] hP hD va_S.rf ls hl
set_option maxHeartbeats 4000000 in
set_option maxRecDepth 100000 in
theorem t_L_settled {p : Program} {l : Launch} {e : Env} {s : State} {m : MethodId} {args : Array Value} {below : List Frame} {meth : Method} {c : Code} {D : va_G} {cs : Nat → ClassId} {A : Nat → Prop} (hC : MAt p s m args meth c RL cL_settled 4 (some .int) wsL_settled D cs) (hfl : l.stackTraces = false) (hTab : c.exceptionTable.toList = tableOf [(0, 9, 12, 27)]) {sa : Nat → Nat} (hTW : TW sa s) (hTZ : TZ A s s.heap) (o : Nat) (x : Nat → Nat) (tq : Nat → Nat) (h : Nat → Nat) (a : Nat → Nat → Nat) (f : (Nat → Int64)) (S : XO) (tx : TS) (hs : HS) (Ls : (Nat → LnS)) (x1 : Int32) (Q : Int32 → (Nat → Int64) → XO → TS → HS → (Nat → LnS) → Prop) (hA : ∀ q : Nat, s.heap.size ≤ q → A q) (hw : wp_L_settled f S tx hs Ls x1 Q) (H : Heap) (locs : List Loc) (hP : va_P D vwCl (w_Out cs o f ++ w_Xo cs x tq h a S ++ w_Text cs tq tx ++ w_Hist cs h a hs ++ linesW cs a 18 Ls) H) (hD : va_D A (w_Out cs o f ++ w_Xo cs x tq h a S ++ w_Text cs tq tx ++ w_Hist cs h a hs ++ linesW cs a 18 Ls)) (hS : va_S A s.heap H locs) (ls : Array Slot) (hl : lv_has ls 4 [(0, .ref (x 0)), (1, .int x1), (2, .ref o)]) : W p l e ({ frames := 8, cells := 1, slots := 6, locals := 137 } : Room) s m args below meth c H locs 0 0 (vx_MQ below (va_Qi (fun r (u : (Nat → Int64) × XO × TS × HS × (Nat → LnS)) => Q r u.1 u.2.1 u.2.2.1 u.2.2.2.1 u.2.2.2.2) (fun (u : (Nat → Int64) × XO × TS × HS × (Nat → LnS)) t => va_P D vwCl (w_Out cs o u.1 ++ w_Xo cs x tq h a u.2.1 ++ w_Text cs tq u.2.2.1 ++ w_Hist cs h a u.2.2.2.1 ++ linesW cs a 18 u.2.2.2.2) t.heap ∧ va_D A (w_Out cs o u.1 ++ w_Xo cs x tq h a u.2.1 ++ w_Text cs tq u.2.2.1 ++ w_Hist cs h a u.2.2.2.1 ++ linesW cs a 18 u.2.2.2.2)) A) (vx_X (fun (_ : Unit) => False) (fun _ _ _ => True) A) args s 1 6 A) (F0 m 0 ls []) := by
  obtain ⟨hx, hb, hr, hml, hown, hts, hlocks, hKK⟩ := id hC
  have hK := hKK.1
  refine lv_aload_n hx hb dL_settled_0 rfl (lv_at hl 2 rfl) ?_
  refine lv_iconst (v := (0 : Int32)) hx hb dL_settled_1 (by decide) ?_
  refine lv_aload_n hx hb dL_settled_2 rfl (lv_at hl 0 rfl) ?_
  refine lv_iload_n hx hb dL_settled_3 rfl (lv_at hl 1 rfl) ?_
  have hPx := z_perm_P z_out hP
  have hDx := z_perm_D z_out hD
  have hPc := (z_app_P hPx).1
  have hDc := (z_app_D hDx).1
  have hFc := z_free hDx hS hA
  refine vx_calli (vx_runV (As := [.int x1]) (rest := [.int (0 : Int32), .ref o]) ⟨hx, hb, hml, hown, hts⟩ (c_X3_settled l hfl D cs x tq h a H.size sa S tx hs Ls x1 _ _ hw) (cwV 1 hts gL_settled_X3_settled rfl rfl rfl (by decide +kernel) ⟨Nat.le_of_ble_eq_true rfl, Nat.le_of_ble_eq_true rfl⟩) (PX_V hPc hDc hKK hTW hTZ hS hFc 0 3 rfl rfl) rfl rfl hl.1 rfl (lv_room (Nat.le_of_ble_eq_true rfl)) dL_settled_4 ⟨Nat.le_of_ble_eq_true rfl, Nat.le_of_ble_eq_true rfl⟩) hS (fun q _ h => hFc q h) hFc (fun q _ h => hFc q h) ?_ (fun r1 u1 t H locs ht hvm hw hB hz1 hk1 hS => ?_)
  · intro E ce q9 u1 t H locs ht hvm hpx hB hz1 hk1 hS hq9 hce hcl
    obtain ⟨u1_0, u1_1, u1_2, u1_3⟩ := u1
    obtain ⟨hw, hP1, hD1⟩ := hB
    rw [ht] at hP1
    obtain ⟨hPx, hDx⟩ := z_join hPx hDx hk1 hFc hP1 hD1
    have hP : va_P D vwCl (w_Out cs o f ++ w_Xo cs x tq h a u1_0 ++ w_Text cs tq u1_1 ++ w_Hist cs h a u1_2 ++ linesW cs a 18 u1_3) H := z_perm_P z_outb hPx
    have hD : va_D A (w_Out cs o f ++ w_Xo cs x tq h a u1_0 ++ w_Text cs tq u1_1 ++ w_Hist cs h a u1_2 ++ linesW cs a 18 u1_3) := z_perm_D z_outb hDx
    obtain ⟨hor, hw⟩ := hw
    subst hor
    · have hw := hw rfl
      refine vx_catch (name := eIOB) hown [] ⟨0, 9, 12, 27⟩ [] (by rw [hTab]; rfl) (fun _ h => nomatch h) rfl (by decide) (z_w hts 1 rfl) (va_Nw.use rfl hTW.2.2.2.1) hq9 hce hcl ?_
      refine W.eq (g2 := F0 m 12 ls [.ref q9]) rfl ?_
      refine lv_astore_n (lv' := [(3, .ref q9), (0, .ref (x 0)), (1, .int x1), (2, .ref o)]) hx hb dL_settled_12 rfl hl (by decide) rfl (fun ls hl => ?_)
      refine lv_iconst (v := (1 : Int32)) hx hb dL_settled_13 (by decide) ?_
      refine W.widen (k := 1) (n := 6) (Nat.le_of_ble_eq_true rfl) (Nat.le_of_ble_eq_true rfl) (vx_ret ?_)
      exact W.iret (v := (1 : Int32)) hx hb hr (fun t ht hW => ⟨⟨(1 : Int32), (f, u1_0, u1_1, u1_2, u1_3), rfl, hw, by rw [ht]; exact hP, hD⟩, hS.F ht⟩) hS.2.2 dL_settled_14 hlocks
  obtain ⟨u1_0, u1_1, u1_2, u1_3⟩ := u1
  obtain ⟨hP1, hD1⟩ := hB
  rw [ht] at hP1
  obtain ⟨hPx, hDx⟩ := z_join hPx hDx hk1 hFc hP1 hD1
  have hP : va_P D vwCl (w_Out cs o f ++ w_Xo cs x tq h a u1_0 ++ w_Text cs tq u1_1 ++ w_Hist cs h a u1_2 ++ linesW cs a 18 u1_3) H := z_perm_P z_outb hPx
  have hD : va_D A (w_Out cs o f ++ w_Xo cs x tq h a u1_0 ++ w_Text cs tq u1_1 ++ w_Hist cs h a u1_2 ++ linesW cs a 18 u1_3) := z_perm_D z_outb hDx
  refine lv_i2l (v := r1.toInt64) hx hb dL_settled_7 rfl ?_
  refine va_last hx hb hK hP hD hS 0 3 rfl rfl (show vp_in (0 : Int32) 1 by unfold vp_in; decide) dL_settled_8 (fun H locs hP hD hS => ?_)
  have hP : va_P D vwCl (w_Out cs o (vp_updL f (0 : Int32).toNatClampNeg r1.toInt64) ++ w_Xo cs x tq h a u1_0 ++ w_Text cs tq u1_1 ++ w_Hist cs h a u1_2 ++ linesW cs a 18 u1_3) H := hP
  have hD : va_D A (w_Out cs o (vp_updL f (0 : Int32).toNatClampNeg r1.toInt64) ++ w_Xo cs x tq h a u1_0 ++ w_Text cs tq u1_1 ++ w_Hist cs h a u1_2 ++ linesW cs a 18 u1_3) := hD
  refine lv_goto (tgt := 15) hx hb dL_settled_9 (by decide) ?_
  refine lv_iconst (v := (0 : Int32)) hx hb dL_settled_15 (by decide) ?_
  refine W.widen (k := 1) (n := 6) (Nat.le_of_ble_eq_true rfl) (Nat.le_of_ble_eq_true rfl) (vx_ret ?_)
  exact W.iret (v := (0 : Int32)) hx hb hr (fun t ht hW => ⟨⟨(0 : Int32), (vp_updL f (0 : Int32).toNatClampNeg r1.toInt64, u1_0, u1_1, u1_2, u1_3), rfl, hw, by rw [ht]; exact hP, hD⟩, hS.F ht⟩) hS.2.2 dL_settled_16 hlocks
set_option maxHeartbeats 4000000 in
set_option maxRecDepth 100000 in
theorem c_L_settled (l : Launch) (hfl : l.stackTraces = false) (D : va_G) (cs : Nat → ClassId) (o : Nat) (x : Nat → Nat) (tq : Nat → Nat) (h : Nat → Nat) (a : Nat → Nat → Nat) (sz : Nat) (sa : Nat → Nat) (f : (Nat → Int64)) (S : XO) (tx : TS) (hs : HS) (Ls : (Nat → LnS)) (x1 : Int32) (Q : Int32 → (Nat → Int64) → XO → TS → HS → (Nat → LnS) → Prop) (hw : wp_L_settled f S tx hs Ls x1 Q) : vx_Met l yL_settled wsL_settled ({ frames := 8, cells := 1, slots := 6, locals := 137 } : Room) (va_Pc [.ref (x 0), .int x1, .ref o] (PX D cs (w_Out cs o f ++ w_Xo cs x tq h a S ++ w_Text cs tq tx ++ w_Hist cs h a hs ++ linesW cs a 18 Ls) sa sz)) (va_Qi (fun r (u : (Nat → Int64) × XO × TS × HS × (Nat → LnS)) => Q r u.1 u.2.1 u.2.2.1 u.2.2.2.1 u.2.2.2.2) (fun (u : (Nat → Int64) × XO × TS × HS × (Nat → LnS)) t => va_P D vwCl (w_Out cs o u.1 ++ w_Xo cs x tq h a u.2.1 ++ w_Text cs tq u.2.2.1 ++ w_Hist cs h a u.2.2.2.1 ++ linesW cs a 18 u.2.2.2.2) t.heap ∧ va_D (va_A (w_Out cs o f ++ w_Xo cs x tq h a S ++ w_Text cs tq tx ++ w_Hist cs h a hs ++ linesW cs a 18 Ls) sz) (w_Out cs o u.1 ++ w_Xo cs x tq h a u.2.1 ++ w_Text cs tq u.2.2.1 ++ w_Hist cs h a u.2.2.2.1 ++ linesW cs a 18 u.2.2.2.2)) (va_A (w_Out cs o f ++ w_Xo cs x tq h a S ++ w_Text cs tq tx ++ w_Hist cs h a hs ++ linesW cs a 18 Ls) sz)) (vx_X (fun (_ : Unit) => False) (fun _ _ _ => True) (va_A (w_Out cs o f ++ w_Xo cs x tq h a S ++ w_Text cs tq tx ++ w_Hist cs h a hs ++ linesW cs a 18 Ls) sz)) 1 6 (va_A (w_Out cs o f ++ w_Xo cs x tq h a S ++ w_Text cs tq tx ++ w_Hist cs h a hs ++ linesW cs a 18 Ls) sz) := by
  refine vx_ofWH (cc := cL_settled) (maxL := 4) (ret := (some .int)) (by decide) rfl ?_
  intro p e s m args below meth c s₁ B hml hv
  obtain ⟨rfl, ⟨hsz, hP, hKK, hD0⟩, hTW, hTZ⟩ := hv
  have hTab := vx_table (x := yL_settled) B (atoms_spec (ws := wsL_settled) B.pre _ List.mem_cons_self)
  have hC : MAt p s m _ meth c RL cL_settled 4 (some .int) wsL_settled D cs := ⟨B.exec, B.bytes, B.returns, hml, findClass_of_methodNamed B.named, atoms_spec (ws := wsL_settled) B.pre, B.notSynchronized, hKK⟩
  have hl := lv_entry ([.ref (x 0), .int x1, .ref o]) (n := 4) (Nat.le_of_ble_eq_true rfl)
  rw [lg_entry_eq]
  generalize (lg_sl ([.ref (x 0), .int x1, .ref o]) ++ List.replicate (4 - (lg_sl ([.ref (x 0), .int x1, .ref o])).length) Slot.unset).toArray = ls at hl ⊢
  subst hsz
  have hD := hD0.self (sz := s.heap.size)
  have hA : ∀ z : Nat, s.heap.size ≤ z → va_A (w_Out cs o f ++ w_Xo cs x tq h a S ++ w_Text cs tq tx ++ w_Hist cs h a hs ++ linesW cs a 18 Ls) s.heap.size z := fun z h => Or.inr h
  exact t_L_settled hC hfl hTab hTW hTZ o x tq h a f S tx hs Ls x1 Q hA hw s.heap [] hP hD va_S.rf ls hl
set_option maxHeartbeats 4000000 in
set_option maxRecDepth 100000 in
theorem t_L_shownAtLast {p : Program} {l : Launch} {e : Env} {s : State} {m : MethodId} {args : Array Value} {below : List Frame} {meth : Method} {c : Code} {D : va_G} {cs : Nat → ClassId} {A : Nat → Prop} (hC : MAt p s m args meth c RL cL_shownAtLast 4 (some .int) wsL_shownAtLast D cs) (hfl : l.stackTraces = false) (hTab : c.exceptionTable.toList = tableOf [(0, 9, 12, 27)]) {sa : Nat → Nat} (hTW : TW sa s) (hTZ : TZ A s s.heap) (o : Nat) (x : Nat → Nat) (tq : Nat → Nat) (h : Nat → Nat) (a : Nat → Nat → Nat) (f : (Nat → Int64)) (S : XO) (tx : TS) (hs : HS) (Ls : (Nat → LnS)) (x1 : Int32) (Q : Int32 → (Nat → Int64) → XO → TS → HS → (Nat → LnS) → Prop) (hA : ∀ q : Nat, s.heap.size ≤ q → A q) (hw : wp_L_shownAtLast f S tx hs Ls x1 Q) (H : Heap) (locs : List Loc) (hP : va_P D vwCl (w_Out cs o f ++ w_Xo cs x tq h a S ++ w_Text cs tq tx ++ w_Hist cs h a hs ++ linesW cs a 18 Ls) H) (hD : va_D A (w_Out cs o f ++ w_Xo cs x tq h a S ++ w_Text cs tq tx ++ w_Hist cs h a hs ++ linesW cs a 18 Ls)) (hS : va_S A s.heap H locs) (ls : Array Slot) (hl : lv_has ls 4 [(0, .ref (x 0)), (1, .int x1), (2, .ref o)]) : W p l e ({ frames := 8, cells := 1, slots := 6, locals := 137 } : Room) s m args below meth c H locs 0 0 (vx_MQ below (va_Qi (fun r (u : (Nat → Int64) × XO × TS × HS × (Nat → LnS)) => Q r u.1 u.2.1 u.2.2.1 u.2.2.2.1 u.2.2.2.2) (fun (u : (Nat → Int64) × XO × TS × HS × (Nat → LnS)) t => va_P D vwCl (w_Out cs o u.1 ++ w_Xo cs x tq h a u.2.1 ++ w_Text cs tq u.2.2.1 ++ w_Hist cs h a u.2.2.2.1 ++ linesW cs a 18 u.2.2.2.2) t.heap ∧ va_D A (w_Out cs o u.1 ++ w_Xo cs x tq h a u.2.1 ++ w_Text cs tq u.2.2.1 ++ w_Hist cs h a u.2.2.2.1 ++ linesW cs a 18 u.2.2.2.2)) A) (vx_X (fun (_ : Unit) => False) (fun _ _ _ => True) A) args s 1 6 A) (F0 m 0 ls []) := by
  obtain ⟨hx, hb, hr, hml, hown, hts, hlocks, hKK⟩ := id hC
  have hK := hKK.1
  refine lv_aload_n hx hb dL_shownAtLast_0 rfl (lv_at hl 2 rfl) ?_
  refine lv_iconst (v := (0 : Int32)) hx hb dL_shownAtLast_1 (by decide) ?_
  refine lv_aload_n hx hb dL_shownAtLast_2 rfl (lv_at hl 0 rfl) ?_
  refine lv_iload_n hx hb dL_shownAtLast_3 rfl (lv_at hl 1 rfl) ?_
  have hPx := z_perm_P z_out hP
  have hDx := z_perm_D z_out hD
  have hPc := (z_app_P hPx).1
  have hDc := (z_app_D hDx).1
  have hFc := z_free hDx hS hA
  refine vx_calli (vx_runV (As := [.int x1]) (rest := [.int (0 : Int32), .ref o]) ⟨hx, hb, hml, hown, hts⟩ (c_X3_shownAtLast l hfl D cs x tq h a H.size sa S tx hs Ls x1 _ _ hw) (cwV 1 hts gL_shownAtLast_X3_shownAtLast rfl rfl rfl (by decide +kernel) ⟨Nat.le_of_ble_eq_true rfl, Nat.le_of_ble_eq_true rfl⟩) (PX_V hPc hDc hKK hTW hTZ hS hFc 0 3 rfl rfl) rfl rfl hl.1 rfl (lv_room (Nat.le_of_ble_eq_true rfl)) dL_shownAtLast_4 ⟨Nat.le_of_ble_eq_true rfl, Nat.le_of_ble_eq_true rfl⟩) hS (fun q _ h => hFc q h) hFc (fun q _ h => hFc q h) ?_ (fun r1 u1 t H locs ht hvm hw hB hz1 hk1 hS => ?_)
  · intro E ce q9 u1 t H locs ht hvm hpx hB hz1 hk1 hS hq9 hce hcl
    obtain ⟨u1_0, u1_1, u1_2, u1_3⟩ := u1
    obtain ⟨hw, hP1, hD1⟩ := hB
    rw [ht] at hP1
    obtain ⟨hPx, hDx⟩ := z_join hPx hDx hk1 hFc hP1 hD1
    have hP : va_P D vwCl (w_Out cs o f ++ w_Xo cs x tq h a u1_0 ++ w_Text cs tq u1_1 ++ w_Hist cs h a u1_2 ++ linesW cs a 18 u1_3) H := z_perm_P z_outb hPx
    have hD : va_D A (w_Out cs o f ++ w_Xo cs x tq h a u1_0 ++ w_Text cs tq u1_1 ++ w_Hist cs h a u1_2 ++ linesW cs a 18 u1_3) := z_perm_D z_outb hDx
    obtain ⟨hor, hw⟩ := hw
    subst hor
    · have hw := hw rfl
      refine vx_catch (name := eIOB) hown [] ⟨0, 9, 12, 27⟩ [] (by rw [hTab]; rfl) (fun _ h => nomatch h) rfl (by decide) (z_w hts 1 rfl) (va_Nw.use rfl hTW.2.2.2.1) hq9 hce hcl ?_
      refine W.eq (g2 := F0 m 12 ls [.ref q9]) rfl ?_
      refine lv_astore_n (lv' := [(3, .ref q9), (0, .ref (x 0)), (1, .int x1), (2, .ref o)]) hx hb dL_shownAtLast_12 rfl hl (by decide) rfl (fun ls hl => ?_)
      refine lv_iconst (v := (1 : Int32)) hx hb dL_shownAtLast_13 (by decide) ?_
      refine W.widen (k := 1) (n := 6) (Nat.le_of_ble_eq_true rfl) (Nat.le_of_ble_eq_true rfl) (vx_ret ?_)
      exact W.iret (v := (1 : Int32)) hx hb hr (fun t ht hW => ⟨⟨(1 : Int32), (f, u1_0, u1_1, u1_2, u1_3), rfl, hw, by rw [ht]; exact hP, hD⟩, hS.F ht⟩) hS.2.2 dL_shownAtLast_14 hlocks
  obtain ⟨u1_0, u1_1, u1_2, u1_3⟩ := u1
  obtain ⟨hP1, hD1⟩ := hB
  rw [ht] at hP1
  obtain ⟨hPx, hDx⟩ := z_join hPx hDx hk1 hFc hP1 hD1
  have hP : va_P D vwCl (w_Out cs o f ++ w_Xo cs x tq h a u1_0 ++ w_Text cs tq u1_1 ++ w_Hist cs h a u1_2 ++ linesW cs a 18 u1_3) H := z_perm_P z_outb hPx
  have hD : va_D A (w_Out cs o f ++ w_Xo cs x tq h a u1_0 ++ w_Text cs tq u1_1 ++ w_Hist cs h a u1_2 ++ linesW cs a 18 u1_3) := z_perm_D z_outb hDx
  refine lv_i2l (v := r1.toInt64) hx hb dL_shownAtLast_7 rfl ?_
  refine va_last hx hb hK hP hD hS 0 3 rfl rfl (show vp_in (0 : Int32) 1 by unfold vp_in; decide) dL_shownAtLast_8 (fun H locs hP hD hS => ?_)
  have hP : va_P D vwCl (w_Out cs o (vp_updL f (0 : Int32).toNatClampNeg r1.toInt64) ++ w_Xo cs x tq h a u1_0 ++ w_Text cs tq u1_1 ++ w_Hist cs h a u1_2 ++ linesW cs a 18 u1_3) H := hP
  have hD : va_D A (w_Out cs o (vp_updL f (0 : Int32).toNatClampNeg r1.toInt64) ++ w_Xo cs x tq h a u1_0 ++ w_Text cs tq u1_1 ++ w_Hist cs h a u1_2 ++ linesW cs a 18 u1_3) := hD
  refine lv_goto (tgt := 15) hx hb dL_shownAtLast_9 (by decide) ?_
  refine lv_iconst (v := (0 : Int32)) hx hb dL_shownAtLast_15 (by decide) ?_
  refine W.widen (k := 1) (n := 6) (Nat.le_of_ble_eq_true rfl) (Nat.le_of_ble_eq_true rfl) (vx_ret ?_)
  exact W.iret (v := (0 : Int32)) hx hb hr (fun t ht hW => ⟨⟨(0 : Int32), (vp_updL f (0 : Int32).toNatClampNeg r1.toInt64, u1_0, u1_1, u1_2, u1_3), rfl, hw, by rw [ht]; exact hP, hD⟩, hS.F ht⟩) hS.2.2 dL_shownAtLast_16 hlocks
set_option maxHeartbeats 4000000 in
set_option maxRecDepth 100000 in
theorem c_L_shownAtLast (l : Launch) (hfl : l.stackTraces = false) (D : va_G) (cs : Nat → ClassId) (o : Nat) (x : Nat → Nat) (tq : Nat → Nat) (h : Nat → Nat) (a : Nat → Nat → Nat) (sz : Nat) (sa : Nat → Nat) (f : (Nat → Int64)) (S : XO) (tx : TS) (hs : HS) (Ls : (Nat → LnS)) (x1 : Int32) (Q : Int32 → (Nat → Int64) → XO → TS → HS → (Nat → LnS) → Prop) (hw : wp_L_shownAtLast f S tx hs Ls x1 Q) : vx_Met l yL_shownAtLast wsL_shownAtLast ({ frames := 8, cells := 1, slots := 6, locals := 137 } : Room) (va_Pc [.ref (x 0), .int x1, .ref o] (PX D cs (w_Out cs o f ++ w_Xo cs x tq h a S ++ w_Text cs tq tx ++ w_Hist cs h a hs ++ linesW cs a 18 Ls) sa sz)) (va_Qi (fun r (u : (Nat → Int64) × XO × TS × HS × (Nat → LnS)) => Q r u.1 u.2.1 u.2.2.1 u.2.2.2.1 u.2.2.2.2) (fun (u : (Nat → Int64) × XO × TS × HS × (Nat → LnS)) t => va_P D vwCl (w_Out cs o u.1 ++ w_Xo cs x tq h a u.2.1 ++ w_Text cs tq u.2.2.1 ++ w_Hist cs h a u.2.2.2.1 ++ linesW cs a 18 u.2.2.2.2) t.heap ∧ va_D (va_A (w_Out cs o f ++ w_Xo cs x tq h a S ++ w_Text cs tq tx ++ w_Hist cs h a hs ++ linesW cs a 18 Ls) sz) (w_Out cs o u.1 ++ w_Xo cs x tq h a u.2.1 ++ w_Text cs tq u.2.2.1 ++ w_Hist cs h a u.2.2.2.1 ++ linesW cs a 18 u.2.2.2.2)) (va_A (w_Out cs o f ++ w_Xo cs x tq h a S ++ w_Text cs tq tx ++ w_Hist cs h a hs ++ linesW cs a 18 Ls) sz)) (vx_X (fun (_ : Unit) => False) (fun _ _ _ => True) (va_A (w_Out cs o f ++ w_Xo cs x tq h a S ++ w_Text cs tq tx ++ w_Hist cs h a hs ++ linesW cs a 18 Ls) sz)) 1 6 (va_A (w_Out cs o f ++ w_Xo cs x tq h a S ++ w_Text cs tq tx ++ w_Hist cs h a hs ++ linesW cs a 18 Ls) sz) := by
  refine vx_ofWH (cc := cL_shownAtLast) (maxL := 4) (ret := (some .int)) (by decide) rfl ?_
  intro p e s m args below meth c s₁ B hml hv
  obtain ⟨rfl, ⟨hsz, hP, hKK, hD0⟩, hTW, hTZ⟩ := hv
  have hTab := vx_table (x := yL_shownAtLast) B (atoms_spec (ws := wsL_shownAtLast) B.pre _ List.mem_cons_self)
  have hC : MAt p s m _ meth c RL cL_shownAtLast 4 (some .int) wsL_shownAtLast D cs := ⟨B.exec, B.bytes, B.returns, hml, findClass_of_methodNamed B.named, atoms_spec (ws := wsL_shownAtLast) B.pre, B.notSynchronized, hKK⟩
  have hl := lv_entry ([.ref (x 0), .int x1, .ref o]) (n := 4) (Nat.le_of_ble_eq_true rfl)
  rw [lg_entry_eq]
  generalize (lg_sl ([.ref (x 0), .int x1, .ref o]) ++ List.replicate (4 - (lg_sl ([.ref (x 0), .int x1, .ref o])).length) Slot.unset).toArray = ls at hl ⊢
  subst hsz
  have hD := hD0.self (sz := s.heap.size)
  have hA : ∀ z : Nat, s.heap.size ≤ z → va_A (w_Out cs o f ++ w_Xo cs x tq h a S ++ w_Text cs tq tx ++ w_Hist cs h a hs ++ linesW cs a 18 Ls) s.heap.size z := fun z h => Or.inr h
  exact t_L_shownAtLast hC hfl hTab hTW hTZ o x tq h a f S tx hs Ls x1 Q hA hw s.heap [] hP hD va_S.rf ls hl
set_option maxHeartbeats 4000000 in
set_option maxRecDepth 100000 in
theorem t_L_whenShown {p : Program} {l : Launch} {e : Env} {s : State} {m : MethodId} {args : Array Value} {below : List Frame} {meth : Method} {c : Code} {D : va_G} {cs : Nat → ClassId} {A : Nat → Prop} (hC : MAt p s m args meth c RL cL_whenShown 5 (some .int) wsL_whenShown D cs) (hfl : l.stackTraces = false) (hTab : c.exceptionTable.toList = tableOf [(0, 10, 13, 27), (0, 10, 17, 13)]) {sa : Nat → Nat} (hTW : TW sa s) (hTZ : TZ A s s.heap) (o : Nat) (x : Nat → Nat) (tq : Nat → Nat) (h : Nat → Nat) (a : Nat → Nat → Nat) (f : (Nat → Int64)) (S : XO) (tx : TS) (hs : HS) (Ls : (Nat → LnS)) (x1 : Int32) (x2 : Int32) (Q : Int32 → (Nat → Int64) → XO → TS → HS → (Nat → LnS) → Prop) (hA : ∀ q : Nat, s.heap.size ≤ q → A q) (hw : wp_L_whenShown f S tx hs Ls x1 x2 Q) (H : Heap) (locs : List Loc) (hP : va_P D vwCl (w_Out cs o f ++ w_Xo cs x tq h a S ++ w_Text cs tq tx ++ w_Hist cs h a hs ++ linesW cs a 18 Ls) H) (hD : va_D A (w_Out cs o f ++ w_Xo cs x tq h a S ++ w_Text cs tq tx ++ w_Hist cs h a hs ++ linesW cs a 18 Ls)) (hS : va_S A s.heap H locs) (ls : Array Slot) (hl : lv_has ls 5 [(0, .ref (x 0)), (1, .int x1), (2, .int x2), (3, .ref o)]) : W p l e ({ frames := 8, cells := 2, slots := 12, locals := 139 } : Room) s m args below meth c H locs 0 0 (vx_MQ below (va_Qi (fun r (u : (Nat → Int64) × XO × TS × HS × (Nat → LnS)) => Q r u.1 u.2.1 u.2.2.1 u.2.2.2.1 u.2.2.2.2) (fun (u : (Nat → Int64) × XO × TS × HS × (Nat → LnS)) t => va_P D vwCl (w_Out cs o u.1 ++ w_Xo cs x tq h a u.2.1 ++ w_Text cs tq u.2.2.1 ++ w_Hist cs h a u.2.2.2.1 ++ linesW cs a 18 u.2.2.2.2) t.heap ∧ va_D A (w_Out cs o u.1 ++ w_Xo cs x tq h a u.2.1 ++ w_Text cs tq u.2.2.1 ++ w_Hist cs h a u.2.2.2.1 ++ linesW cs a 18 u.2.2.2.2)) A) (vx_X (fun (_ : Unit) => False) (fun _ _ _ => True) A) args s 2 12 A) (F0 m 0 ls []) := by
  obtain ⟨hx, hb, hr, hml, hown, hts, hlocks, hKK⟩ := id hC
  have hK := hKK.1
  refine lv_aload_n hx hb dL_whenShown_0 rfl (lv_at hl 3 rfl) ?_
  refine lv_iconst (v := (0 : Int32)) hx hb dL_whenShown_1 (by decide) ?_
  refine lv_aload_n hx hb dL_whenShown_2 rfl (lv_at hl 0 rfl) ?_
  refine lv_iload_n hx hb dL_whenShown_3 rfl (lv_at hl 1 rfl) ?_
  refine lv_iload_n hx hb dL_whenShown_4 rfl (lv_at hl 2 rfl) ?_
  have hPx := z_perm_P z_out hP
  have hDx := z_perm_D z_out hD
  have hPc := (z_app_P hPx).1
  have hDc := (z_app_D hDx).1
  have hFc := z_free hDx hS hA
  refine vx_calli (vx_runV (As := [.int x1, .int x2]) (rest := [.int (0 : Int32), .ref o]) ⟨hx, hb, hml, hown, hts⟩ (c_X3_whenShown l hfl D cs x tq h a H.size sa S tx hs Ls x1 x2 _ _ hw) (cwV 2 hts gL_whenShown_X3_whenShown rfl rfl rfl (by decide +kernel) ⟨Nat.le_of_ble_eq_true rfl, Nat.le_of_ble_eq_true rfl⟩) (PX_V hPc hDc hKK hTW hTZ hS hFc 0 3 rfl rfl) rfl rfl hl.1 rfl (lv_room (Nat.le_of_ble_eq_true rfl)) dL_whenShown_5 ⟨Nat.le_of_ble_eq_true rfl, Nat.le_of_ble_eq_true rfl⟩) hS (fun q _ h => hFc q h) hFc (fun q _ h => hFc q h) ?_ (fun r1 u1 t H locs ht hvm hw hB hz1 hk1 hS => ?_)
  · intro E ce q9 u1 t H locs ht hvm hpx hB hz1 hk1 hS hq9 hce hcl
    obtain ⟨u1_0, u1_1, u1_2, u1_3⟩ := u1
    obtain ⟨hw, hP1, hD1⟩ := hB
    rw [ht] at hP1
    obtain ⟨hPx, hDx⟩ := z_join hPx hDx hk1 hFc hP1 hD1
    have hP : va_P D vwCl (w_Out cs o f ++ w_Xo cs x tq h a u1_0 ++ w_Text cs tq u1_1 ++ w_Hist cs h a u1_2 ++ linesW cs a 18 u1_3) H := z_perm_P z_outb hPx
    have hD : va_D A (w_Out cs o f ++ w_Xo cs x tq h a u1_0 ++ w_Text cs tq u1_1 ++ w_Hist cs h a u1_2 ++ linesW cs a 18 u1_3) := z_perm_D z_outb hDx
    obtain ⟨hor, hw⟩ := hw
    rcases hor with rfl | rfl
    · have hw := hw.1 rfl
      refine vx_catch (name := eIOB) hown [] ⟨0, 10, 13, 27⟩ [⟨0, 10, 17, 13⟩] (by rw [hTab]; rfl) (fun _ h => nomatch h) rfl (by decide) (z_w hts 1 rfl) (va_Nw.use rfl hTW.2.2.2.1) hq9 hce hcl ?_
      refine W.eq (g2 := F0 m 13 ls [.ref q9]) rfl ?_
      refine lv_astore (lv' := [(4, .ref q9), (0, .ref (x 0)), (1, .int x1), (2, .int x2), (3, .ref o)]) hx hb dL_whenShown_13 hl (by decide) rfl (fun ls hl => ?_)
      refine lv_iconst (v := (1 : Int32)) hx hb dL_whenShown_15 (by decide) ?_
      refine W.widen (k := 2) (n := 12) (Nat.le_of_ble_eq_true rfl) (Nat.le_of_ble_eq_true rfl) (vx_ret ?_)
      exact W.iret (v := (1 : Int32)) hx hb hr (fun t ht hW => ⟨⟨(1 : Int32), (f, u1_0, u1_1, u1_2, u1_3), rfl, hw, by rw [ht]; exact hP, hD⟩, hS.F ht⟩) hS.2.2 dL_whenShown_16 hlocks
    · have hw := hw.2 rfl
      refine vx_catch (name := eIAE) hown [⟨0, 10, 13, 27⟩] ⟨0, 10, 17, 13⟩ [] (by rw [hTab]; rfl) (List.forall_mem_cons.mpr ⟨Or.inr ⟨by decide, _, z_w hts 1 rfl, hTW.2.2.2.2.2.2.2.1⟩, (fun _ h => nomatch h)⟩) rfl (by decide) (z_w hts 2 rfl) (va_Nw.use rfl hTW.2.2.1) hq9 hce hcl ?_
      refine W.eq (g2 := F0 m 17 ls [.ref q9]) rfl ?_
      refine lv_astore (lv' := [(4, .ref q9), (0, .ref (x 0)), (1, .int x1), (2, .int x2), (3, .ref o)]) hx hb dL_whenShown_17 hl (by decide) rfl (fun ls hl => ?_)
      refine lv_iconst (v := (2 : Int32)) hx hb dL_whenShown_19 (by decide) ?_
      refine W.widen (k := 2) (n := 12) (Nat.le_of_ble_eq_true rfl) (Nat.le_of_ble_eq_true rfl) (vx_ret ?_)
      exact W.iret (v := (2 : Int32)) hx hb hr (fun t ht hW => ⟨⟨(2 : Int32), (f, u1_0, u1_1, u1_2, u1_3), rfl, hw, by rw [ht]; exact hP, hD⟩, hS.F ht⟩) hS.2.2 dL_whenShown_20 hlocks
  obtain ⟨u1_0, u1_1, u1_2, u1_3⟩ := u1
  obtain ⟨hP1, hD1⟩ := hB
  rw [ht] at hP1
  obtain ⟨hPx, hDx⟩ := z_join hPx hDx hk1 hFc hP1 hD1
  have hP : va_P D vwCl (w_Out cs o f ++ w_Xo cs x tq h a u1_0 ++ w_Text cs tq u1_1 ++ w_Hist cs h a u1_2 ++ linesW cs a 18 u1_3) H := z_perm_P z_outb hPx
  have hD : va_D A (w_Out cs o f ++ w_Xo cs x tq h a u1_0 ++ w_Text cs tq u1_1 ++ w_Hist cs h a u1_2 ++ linesW cs a 18 u1_3) := z_perm_D z_outb hDx
  refine lv_i2l (v := r1.toInt64) hx hb dL_whenShown_8 rfl ?_
  refine va_last hx hb hK hP hD hS 0 3 rfl rfl (show vp_in (0 : Int32) 1 by unfold vp_in; decide) dL_whenShown_9 (fun H locs hP hD hS => ?_)
  have hP : va_P D vwCl (w_Out cs o (vp_updL f (0 : Int32).toNatClampNeg r1.toInt64) ++ w_Xo cs x tq h a u1_0 ++ w_Text cs tq u1_1 ++ w_Hist cs h a u1_2 ++ linesW cs a 18 u1_3) H := hP
  have hD : va_D A (w_Out cs o (vp_updL f (0 : Int32).toNatClampNeg r1.toInt64) ++ w_Xo cs x tq h a u1_0 ++ w_Text cs tq u1_1 ++ w_Hist cs h a u1_2 ++ linesW cs a 18 u1_3) := hD
  refine lv_goto (tgt := 21) hx hb dL_whenShown_10 (by decide) ?_
  refine lv_iconst (v := (0 : Int32)) hx hb dL_whenShown_21 (by decide) ?_
  refine W.widen (k := 2) (n := 12) (Nat.le_of_ble_eq_true rfl) (Nat.le_of_ble_eq_true rfl) (vx_ret ?_)
  exact W.iret (v := (0 : Int32)) hx hb hr (fun t ht hW => ⟨⟨(0 : Int32), (vp_updL f (0 : Int32).toNatClampNeg r1.toInt64, u1_0, u1_1, u1_2, u1_3), rfl, hw, by rw [ht]; exact hP, hD⟩, hS.F ht⟩) hS.2.2 dL_whenShown_22 hlocks
set_option maxHeartbeats 4000000 in
set_option maxRecDepth 100000 in
theorem c_L_whenShown (l : Launch) (hfl : l.stackTraces = false) (D : va_G) (cs : Nat → ClassId) (o : Nat) (x : Nat → Nat) (tq : Nat → Nat) (h : Nat → Nat) (a : Nat → Nat → Nat) (sz : Nat) (sa : Nat → Nat) (f : (Nat → Int64)) (S : XO) (tx : TS) (hs : HS) (Ls : (Nat → LnS)) (x1 : Int32) (x2 : Int32) (Q : Int32 → (Nat → Int64) → XO → TS → HS → (Nat → LnS) → Prop) (hw : wp_L_whenShown f S tx hs Ls x1 x2 Q) : vx_Met l yL_whenShown wsL_whenShown ({ frames := 8, cells := 2, slots := 12, locals := 139 } : Room) (va_Pc [.ref (x 0), .int x1, .int x2, .ref o] (PX D cs (w_Out cs o f ++ w_Xo cs x tq h a S ++ w_Text cs tq tx ++ w_Hist cs h a hs ++ linesW cs a 18 Ls) sa sz)) (va_Qi (fun r (u : (Nat → Int64) × XO × TS × HS × (Nat → LnS)) => Q r u.1 u.2.1 u.2.2.1 u.2.2.2.1 u.2.2.2.2) (fun (u : (Nat → Int64) × XO × TS × HS × (Nat → LnS)) t => va_P D vwCl (w_Out cs o u.1 ++ w_Xo cs x tq h a u.2.1 ++ w_Text cs tq u.2.2.1 ++ w_Hist cs h a u.2.2.2.1 ++ linesW cs a 18 u.2.2.2.2) t.heap ∧ va_D (va_A (w_Out cs o f ++ w_Xo cs x tq h a S ++ w_Text cs tq tx ++ w_Hist cs h a hs ++ linesW cs a 18 Ls) sz) (w_Out cs o u.1 ++ w_Xo cs x tq h a u.2.1 ++ w_Text cs tq u.2.2.1 ++ w_Hist cs h a u.2.2.2.1 ++ linesW cs a 18 u.2.2.2.2)) (va_A (w_Out cs o f ++ w_Xo cs x tq h a S ++ w_Text cs tq tx ++ w_Hist cs h a hs ++ linesW cs a 18 Ls) sz)) (vx_X (fun (_ : Unit) => False) (fun _ _ _ => True) (va_A (w_Out cs o f ++ w_Xo cs x tq h a S ++ w_Text cs tq tx ++ w_Hist cs h a hs ++ linesW cs a 18 Ls) sz)) 2 12 (va_A (w_Out cs o f ++ w_Xo cs x tq h a S ++ w_Text cs tq tx ++ w_Hist cs h a hs ++ linesW cs a 18 Ls) sz) := by
  refine vx_ofWH (cc := cL_whenShown) (maxL := 5) (ret := (some .int)) (by decide) rfl ?_
  intro p e s m args below meth c s₁ B hml hv
  obtain ⟨rfl, ⟨hsz, hP, hKK, hD0⟩, hTW, hTZ⟩ := hv
  have hTab := vx_table (x := yL_whenShown) B (atoms_spec (ws := wsL_whenShown) B.pre _ List.mem_cons_self)
  have hC : MAt p s m _ meth c RL cL_whenShown 5 (some .int) wsL_whenShown D cs := ⟨B.exec, B.bytes, B.returns, hml, findClass_of_methodNamed B.named, atoms_spec (ws := wsL_whenShown) B.pre, B.notSynchronized, hKK⟩
  have hl := lv_entry ([.ref (x 0), .int x1, .int x2, .ref o]) (n := 5) (Nat.le_of_ble_eq_true rfl)
  rw [lg_entry_eq]
  generalize (lg_sl ([.ref (x 0), .int x1, .int x2, .ref o]) ++ List.replicate (5 - (lg_sl ([.ref (x 0), .int x1, .int x2, .ref o])).length) Slot.unset).toArray = ls at hl ⊢
  subst hsz
  have hD := hD0.self (sz := s.heap.size)
  have hA : ∀ z : Nat, s.heap.size ≤ z → va_A (w_Out cs o f ++ w_Xo cs x tq h a S ++ w_Text cs tq tx ++ w_Hist cs h a hs ++ linesW cs a 18 Ls) s.heap.size z := fun z h => Or.inr h
  exact t_L_whenShown hC hfl hTab hTW hTZ o x tq h a f S tx hs Ls x1 x2 Q hA hw s.heap [] hP hD va_S.rf ls hl
set_option maxHeartbeats 4000000 in
set_option maxRecDepth 100000 in
theorem t_L_leastPace {p : Program} {l : Launch} {e : Env} {s : State} {m : MethodId} {args : Array Value} {below : List Frame} {meth : Method} {c : Code} {D : va_G} {cs : Nat → ClassId} {A : Nat → Prop} (hC : MAt p s m args meth c RL cL_leastPace 4 (some .int) wsL_leastPace D cs) (hfl : l.stackTraces = false) (hTab : c.exceptionTable.toList = tableOf [(0, 9, 12, 13)]) {sa : Nat → Nat} (hTW : TW sa s) (hTZ : TZ A s s.heap) (o : Nat) (x : Nat → Nat) (tq : Nat → Nat) (h : Nat → Nat) (a : Nat → Nat → Nat) (f : (Nat → Int64)) (S : XO) (tx : TS) (hs : HS) (Ls : (Nat → LnS)) (x1 : Int32) (Q : Int32 → (Nat → Int64) → XO → TS → HS → (Nat → LnS) → Prop) (hA : ∀ q : Nat, s.heap.size ≤ q → A q) (hw : wp_L_leastPace f S tx hs Ls x1 Q) (H : Heap) (locs : List Loc) (hP : va_P D vwCl (w_Out cs o f ++ w_Xo cs x tq h a S ++ w_Text cs tq tx ++ w_Hist cs h a hs ++ linesW cs a 18 Ls) H) (hD : va_D A (w_Out cs o f ++ w_Xo cs x tq h a S ++ w_Text cs tq tx ++ w_Hist cs h a hs ++ linesW cs a 18 Ls)) (hS : va_S A s.heap H locs) (ls : Array Slot) (hl : lv_has ls 4 [(0, .ref (x 0)), (1, .int x1), (2, .ref o)]) : W p l e ({ frames := 8, cells := 1, slots := 6, locals := 137 } : Room) s m args below meth c H locs 0 0 (vx_MQ below (va_Qi (fun r (u : (Nat → Int64) × XO × TS × HS × (Nat → LnS)) => Q r u.1 u.2.1 u.2.2.1 u.2.2.2.1 u.2.2.2.2) (fun (u : (Nat → Int64) × XO × TS × HS × (Nat → LnS)) t => va_P D vwCl (w_Out cs o u.1 ++ w_Xo cs x tq h a u.2.1 ++ w_Text cs tq u.2.2.1 ++ w_Hist cs h a u.2.2.2.1 ++ linesW cs a 18 u.2.2.2.2) t.heap ∧ va_D A (w_Out cs o u.1 ++ w_Xo cs x tq h a u.2.1 ++ w_Text cs tq u.2.2.1 ++ w_Hist cs h a u.2.2.2.1 ++ linesW cs a 18 u.2.2.2.2)) A) (vx_X (fun (_ : Unit) => False) (fun _ _ _ => True) A) args s 1 6 A) (F0 m 0 ls []) := by
  obtain ⟨hx, hb, hr, hml, hown, hts, hlocks, hKK⟩ := id hC
  have hK := hKK.1
  refine lv_aload_n hx hb dL_leastPace_0 rfl (lv_at hl 2 rfl) ?_
  refine lv_iconst (v := (0 : Int32)) hx hb dL_leastPace_1 (by decide) ?_
  refine lv_aload_n hx hb dL_leastPace_2 rfl (lv_at hl 0 rfl) ?_
  refine lv_iload_n hx hb dL_leastPace_3 rfl (lv_at hl 1 rfl) ?_
  have hPx := z_perm_P z_out hP
  have hDx := z_perm_D z_out hD
  have hPc := (z_app_P hPx).1
  have hDc := (z_app_D hDx).1
  have hFc := z_free hDx hS hA
  refine vx_calli (vx_runV (As := [.int x1]) (rest := [.int (0 : Int32), .ref o]) ⟨hx, hb, hml, hown, hts⟩ (c_X3_leastPace l hfl D cs x tq h a H.size sa S tx hs Ls x1 _ _ hw) (cwV 1 hts gL_leastPace_X3_leastPace rfl rfl rfl (by decide +kernel) ⟨Nat.le_of_ble_eq_true rfl, Nat.le_of_ble_eq_true rfl⟩) (PX_V hPc hDc hKK hTW hTZ hS hFc 0 3 rfl rfl) rfl rfl hl.1 rfl (lv_room (Nat.le_of_ble_eq_true rfl)) dL_leastPace_4 ⟨Nat.le_of_ble_eq_true rfl, Nat.le_of_ble_eq_true rfl⟩) hS (fun q _ h => hFc q h) hFc (fun q _ h => hFc q h) ?_ (fun r1 u1 t H locs ht hvm hw hB hz1 hk1 hS => ?_)
  · intro E ce q9 u1 t H locs ht hvm hpx hB hz1 hk1 hS hq9 hce hcl
    obtain ⟨u1_0, u1_1, u1_2, u1_3⟩ := u1
    obtain ⟨hw, hP1, hD1⟩ := hB
    rw [ht] at hP1
    obtain ⟨hPx, hDx⟩ := z_join hPx hDx hk1 hFc hP1 hD1
    have hP : va_P D vwCl (w_Out cs o f ++ w_Xo cs x tq h a u1_0 ++ w_Text cs tq u1_1 ++ w_Hist cs h a u1_2 ++ linesW cs a 18 u1_3) H := z_perm_P z_outb hPx
    have hD : va_D A (w_Out cs o f ++ w_Xo cs x tq h a u1_0 ++ w_Text cs tq u1_1 ++ w_Hist cs h a u1_2 ++ linesW cs a 18 u1_3) := z_perm_D z_outb hDx
    obtain ⟨hor, hw⟩ := hw
    subst hor
    · have hw := hw rfl
      refine vx_catch (name := eIAE) hown [] ⟨0, 9, 12, 13⟩ [] (by rw [hTab]; rfl) (fun _ h => nomatch h) rfl (by decide) (z_w hts 1 rfl) (va_Nw.use rfl hTW.2.2.1) hq9 hce hcl ?_
      refine W.eq (g2 := F0 m 12 ls [.ref q9]) rfl ?_
      refine lv_astore_n (lv' := [(3, .ref q9), (0, .ref (x 0)), (1, .int x1), (2, .ref o)]) hx hb dL_leastPace_12 rfl hl (by decide) rfl (fun ls hl => ?_)
      refine lv_iconst (v := (1 : Int32)) hx hb dL_leastPace_13 (by decide) ?_
      refine W.widen (k := 1) (n := 6) (Nat.le_of_ble_eq_true rfl) (Nat.le_of_ble_eq_true rfl) (vx_ret ?_)
      exact W.iret (v := (1 : Int32)) hx hb hr (fun t ht hW => ⟨⟨(1 : Int32), (f, u1_0, u1_1, u1_2, u1_3), rfl, hw, by rw [ht]; exact hP, hD⟩, hS.F ht⟩) hS.2.2 dL_leastPace_14 hlocks
  obtain ⟨u1_0, u1_1, u1_2, u1_3⟩ := u1
  obtain ⟨hP1, hD1⟩ := hB
  rw [ht] at hP1
  obtain ⟨hPx, hDx⟩ := z_join hPx hDx hk1 hFc hP1 hD1
  have hP : va_P D vwCl (w_Out cs o f ++ w_Xo cs x tq h a u1_0 ++ w_Text cs tq u1_1 ++ w_Hist cs h a u1_2 ++ linesW cs a 18 u1_3) H := z_perm_P z_outb hPx
  have hD : va_D A (w_Out cs o f ++ w_Xo cs x tq h a u1_0 ++ w_Text cs tq u1_1 ++ w_Hist cs h a u1_2 ++ linesW cs a 18 u1_3) := z_perm_D z_outb hDx
  refine lv_i2l (v := r1.toInt64) hx hb dL_leastPace_7 rfl ?_
  refine va_last hx hb hK hP hD hS 0 3 rfl rfl (show vp_in (0 : Int32) 1 by unfold vp_in; decide) dL_leastPace_8 (fun H locs hP hD hS => ?_)
  have hP : va_P D vwCl (w_Out cs o (vp_updL f (0 : Int32).toNatClampNeg r1.toInt64) ++ w_Xo cs x tq h a u1_0 ++ w_Text cs tq u1_1 ++ w_Hist cs h a u1_2 ++ linesW cs a 18 u1_3) H := hP
  have hD : va_D A (w_Out cs o (vp_updL f (0 : Int32).toNatClampNeg r1.toInt64) ++ w_Xo cs x tq h a u1_0 ++ w_Text cs tq u1_1 ++ w_Hist cs h a u1_2 ++ linesW cs a 18 u1_3) := hD
  refine lv_goto (tgt := 15) hx hb dL_leastPace_9 (by decide) ?_
  refine lv_iconst (v := (0 : Int32)) hx hb dL_leastPace_15 (by decide) ?_
  refine W.widen (k := 1) (n := 6) (Nat.le_of_ble_eq_true rfl) (Nat.le_of_ble_eq_true rfl) (vx_ret ?_)
  exact W.iret (v := (0 : Int32)) hx hb hr (fun t ht hW => ⟨⟨(0 : Int32), (vp_updL f (0 : Int32).toNatClampNeg r1.toInt64, u1_0, u1_1, u1_2, u1_3), rfl, hw, by rw [ht]; exact hP, hD⟩, hS.F ht⟩) hS.2.2 dL_leastPace_16 hlocks
set_option maxHeartbeats 4000000 in
set_option maxRecDepth 100000 in
theorem c_L_leastPace (l : Launch) (hfl : l.stackTraces = false) (D : va_G) (cs : Nat → ClassId) (o : Nat) (x : Nat → Nat) (tq : Nat → Nat) (h : Nat → Nat) (a : Nat → Nat → Nat) (sz : Nat) (sa : Nat → Nat) (f : (Nat → Int64)) (S : XO) (tx : TS) (hs : HS) (Ls : (Nat → LnS)) (x1 : Int32) (Q : Int32 → (Nat → Int64) → XO → TS → HS → (Nat → LnS) → Prop) (hw : wp_L_leastPace f S tx hs Ls x1 Q) : vx_Met l yL_leastPace wsL_leastPace ({ frames := 8, cells := 1, slots := 6, locals := 137 } : Room) (va_Pc [.ref (x 0), .int x1, .ref o] (PX D cs (w_Out cs o f ++ w_Xo cs x tq h a S ++ w_Text cs tq tx ++ w_Hist cs h a hs ++ linesW cs a 18 Ls) sa sz)) (va_Qi (fun r (u : (Nat → Int64) × XO × TS × HS × (Nat → LnS)) => Q r u.1 u.2.1 u.2.2.1 u.2.2.2.1 u.2.2.2.2) (fun (u : (Nat → Int64) × XO × TS × HS × (Nat → LnS)) t => va_P D vwCl (w_Out cs o u.1 ++ w_Xo cs x tq h a u.2.1 ++ w_Text cs tq u.2.2.1 ++ w_Hist cs h a u.2.2.2.1 ++ linesW cs a 18 u.2.2.2.2) t.heap ∧ va_D (va_A (w_Out cs o f ++ w_Xo cs x tq h a S ++ w_Text cs tq tx ++ w_Hist cs h a hs ++ linesW cs a 18 Ls) sz) (w_Out cs o u.1 ++ w_Xo cs x tq h a u.2.1 ++ w_Text cs tq u.2.2.1 ++ w_Hist cs h a u.2.2.2.1 ++ linesW cs a 18 u.2.2.2.2)) (va_A (w_Out cs o f ++ w_Xo cs x tq h a S ++ w_Text cs tq tx ++ w_Hist cs h a hs ++ linesW cs a 18 Ls) sz)) (vx_X (fun (_ : Unit) => False) (fun _ _ _ => True) (va_A (w_Out cs o f ++ w_Xo cs x tq h a S ++ w_Text cs tq tx ++ w_Hist cs h a hs ++ linesW cs a 18 Ls) sz)) 1 6 (va_A (w_Out cs o f ++ w_Xo cs x tq h a S ++ w_Text cs tq tx ++ w_Hist cs h a hs ++ linesW cs a 18 Ls) sz) := by
  refine vx_ofWH (cc := cL_leastPace) (maxL := 4) (ret := (some .int)) (by decide) rfl ?_
  intro p e s m args below meth c s₁ B hml hv
  obtain ⟨rfl, ⟨hsz, hP, hKK, hD0⟩, hTW, hTZ⟩ := hv
  have hTab := vx_table (x := yL_leastPace) B (atoms_spec (ws := wsL_leastPace) B.pre _ List.mem_cons_self)
  have hC : MAt p s m _ meth c RL cL_leastPace 4 (some .int) wsL_leastPace D cs := ⟨B.exec, B.bytes, B.returns, hml, findClass_of_methodNamed B.named, atoms_spec (ws := wsL_leastPace) B.pre, B.notSynchronized, hKK⟩
  have hl := lv_entry ([.ref (x 0), .int x1, .ref o]) (n := 4) (Nat.le_of_ble_eq_true rfl)
  rw [lg_entry_eq]
  generalize (lg_sl ([.ref (x 0), .int x1, .ref o]) ++ List.replicate (4 - (lg_sl ([.ref (x 0), .int x1, .ref o])).length) Slot.unset).toArray = ls at hl ⊢
  subst hsz
  have hD := hD0.self (sz := s.heap.size)
  have hA : ∀ z : Nat, s.heap.size ≤ z → va_A (w_Out cs o f ++ w_Xo cs x tq h a S ++ w_Text cs tq tx ++ w_Hist cs h a hs ++ linesW cs a 18 Ls) s.heap.size z := fun z h => Or.inr h
  exact t_L_leastPace hC hfl hTab hTW hTZ o x tq h a f S tx hs Ls x1 Q hA hw s.heap [] hP hD va_S.rf ls hl
set_option maxHeartbeats 4000000 in
set_option maxRecDepth 100000 in
theorem t_L_slowest {p : Program} {l : Launch} {e : Env} {s : State} {m : MethodId} {args : Array Value} {below : List Frame} {meth : Method} {c : Code} {D : va_G} {cs : Nat → ClassId} {A : Nat → Prop} (hC : MAt p s m args meth c RL cL_slowest 4 (some .int) wsL_slowest D cs) (hfl : l.stackTraces = false) (hTab : c.exceptionTable.toList = tableOf [(0, 9, 12, 27)]) {sa : Nat → Nat} (hTW : TW sa s) (hTZ : TZ A s s.heap) (o : Nat) (x : Nat → Nat) (tq : Nat → Nat) (h : Nat → Nat) (a : Nat → Nat → Nat) (f : (Nat → Int64)) (S : XO) (tx : TS) (hs : HS) (Ls : (Nat → LnS)) (x1 : Int32) (Q : Int32 → (Nat → Int64) → XO → TS → HS → (Nat → LnS) → Prop) (hA : ∀ q : Nat, s.heap.size ≤ q → A q) (hw : wp_L_slowest f S tx hs Ls x1 Q) (H : Heap) (locs : List Loc) (hP : va_P D vwCl (w_Out cs o f ++ w_Xo cs x tq h a S ++ w_Text cs tq tx ++ w_Hist cs h a hs ++ linesW cs a 18 Ls) H) (hD : va_D A (w_Out cs o f ++ w_Xo cs x tq h a S ++ w_Text cs tq tx ++ w_Hist cs h a hs ++ linesW cs a 18 Ls)) (hS : va_S A s.heap H locs) (ls : Array Slot) (hl : lv_has ls 4 [(0, .ref (x 0)), (1, .int x1), (2, .ref o)]) : W p l e ({ frames := 8, cells := 1, slots := 6, locals := 142 } : Room) s m args below meth c H locs 0 0 (vx_MQ below (va_Qi (fun r (u : (Nat → Int64) × XO × TS × HS × (Nat → LnS)) => Q r u.1 u.2.1 u.2.2.1 u.2.2.2.1 u.2.2.2.2) (fun (u : (Nat → Int64) × XO × TS × HS × (Nat → LnS)) t => va_P D vwCl (w_Out cs o u.1 ++ w_Xo cs x tq h a u.2.1 ++ w_Text cs tq u.2.2.1 ++ w_Hist cs h a u.2.2.2.1 ++ linesW cs a 18 u.2.2.2.2) t.heap ∧ va_D A (w_Out cs o u.1 ++ w_Xo cs x tq h a u.2.1 ++ w_Text cs tq u.2.2.1 ++ w_Hist cs h a u.2.2.2.1 ++ linesW cs a 18 u.2.2.2.2)) A) (vx_X (fun (_ : Unit) => False) (fun _ _ _ => True) A) args s 1 6 A) (F0 m 0 ls []) := by
  obtain ⟨hx, hb, hr, hml, hown, hts, hlocks, hKK⟩ := id hC
  have hK := hKK.1
  refine lv_aload_n hx hb dL_slowest_0 rfl (lv_at hl 2 rfl) ?_
  refine lv_iconst (v := (0 : Int32)) hx hb dL_slowest_1 (by decide) ?_
  refine lv_aload_n hx hb dL_slowest_2 rfl (lv_at hl 0 rfl) ?_
  refine lv_iload_n hx hb dL_slowest_3 rfl (lv_at hl 1 rfl) ?_
  have hPx := z_perm_P z_out hP
  have hDx := z_perm_D z_out hD
  have hPc := (z_app_P hPx).1
  have hDc := (z_app_D hDx).1
  have hFc := z_free hDx hS hA
  refine vx_calli (vx_runV (As := [.int x1]) (rest := [.int (0 : Int32), .ref o]) ⟨hx, hb, hml, hown, hts⟩ (c_X3_slowest l hfl D cs x tq h a H.size sa S tx hs Ls x1 _ _ hw) (cwV 1 hts gL_slowest_X3_slowest rfl rfl rfl (by decide +kernel) ⟨Nat.le_of_ble_eq_true rfl, Nat.le_of_ble_eq_true rfl⟩) (PX_V hPc hDc hKK hTW hTZ hS hFc 0 3 rfl rfl) rfl rfl hl.1 rfl (lv_room (Nat.le_of_ble_eq_true rfl)) dL_slowest_4 ⟨Nat.le_of_ble_eq_true rfl, Nat.le_of_ble_eq_true rfl⟩) hS (fun q _ h => hFc q h) hFc (fun q _ h => hFc q h) ?_ (fun r1 u1 t H locs ht hvm hw hB hz1 hk1 hS => ?_)
  · intro E ce q9 u1 t H locs ht hvm hpx hB hz1 hk1 hS hq9 hce hcl
    obtain ⟨u1_0, u1_1, u1_2, u1_3⟩ := u1
    obtain ⟨hw, hP1, hD1⟩ := hB
    rw [ht] at hP1
    obtain ⟨hPx, hDx⟩ := z_join hPx hDx hk1 hFc hP1 hD1
    have hP : va_P D vwCl (w_Out cs o f ++ w_Xo cs x tq h a u1_0 ++ w_Text cs tq u1_1 ++ w_Hist cs h a u1_2 ++ linesW cs a 18 u1_3) H := z_perm_P z_outb hPx
    have hD : va_D A (w_Out cs o f ++ w_Xo cs x tq h a u1_0 ++ w_Text cs tq u1_1 ++ w_Hist cs h a u1_2 ++ linesW cs a 18 u1_3) := z_perm_D z_outb hDx
    obtain ⟨hor, hw⟩ := hw
    subst hor
    · have hw := hw rfl
      refine vx_catch (name := eIOB) hown [] ⟨0, 9, 12, 27⟩ [] (by rw [hTab]; rfl) (fun _ h => nomatch h) rfl (by decide) (z_w hts 1 rfl) (va_Nw.use rfl hTW.2.2.2.1) hq9 hce hcl ?_
      refine W.eq (g2 := F0 m 12 ls [.ref q9]) rfl ?_
      refine lv_astore_n (lv' := [(3, .ref q9), (0, .ref (x 0)), (1, .int x1), (2, .ref o)]) hx hb dL_slowest_12 rfl hl (by decide) rfl (fun ls hl => ?_)
      refine lv_iconst (v := (1 : Int32)) hx hb dL_slowest_13 (by decide) ?_
      refine W.widen (k := 1) (n := 6) (Nat.le_of_ble_eq_true rfl) (Nat.le_of_ble_eq_true rfl) (vx_ret ?_)
      exact W.iret (v := (1 : Int32)) hx hb hr (fun t ht hW => ⟨⟨(1 : Int32), (f, u1_0, u1_1, u1_2, u1_3), rfl, hw, by rw [ht]; exact hP, hD⟩, hS.F ht⟩) hS.2.2 dL_slowest_14 hlocks
  obtain ⟨u1_0, u1_1, u1_2, u1_3⟩ := u1
  obtain ⟨hP1, hD1⟩ := hB
  rw [ht] at hP1
  obtain ⟨hPx, hDx⟩ := z_join hPx hDx hk1 hFc hP1 hD1
  have hP : va_P D vwCl (w_Out cs o f ++ w_Xo cs x tq h a u1_0 ++ w_Text cs tq u1_1 ++ w_Hist cs h a u1_2 ++ linesW cs a 18 u1_3) H := z_perm_P z_outb hPx
  have hD : va_D A (w_Out cs o f ++ w_Xo cs x tq h a u1_0 ++ w_Text cs tq u1_1 ++ w_Hist cs h a u1_2 ++ linesW cs a 18 u1_3) := z_perm_D z_outb hDx
  refine lv_i2l (v := r1.toInt64) hx hb dL_slowest_7 rfl ?_
  refine va_last hx hb hK hP hD hS 0 3 rfl rfl (show vp_in (0 : Int32) 1 by unfold vp_in; decide) dL_slowest_8 (fun H locs hP hD hS => ?_)
  have hP : va_P D vwCl (w_Out cs o (vp_updL f (0 : Int32).toNatClampNeg r1.toInt64) ++ w_Xo cs x tq h a u1_0 ++ w_Text cs tq u1_1 ++ w_Hist cs h a u1_2 ++ linesW cs a 18 u1_3) H := hP
  have hD : va_D A (w_Out cs o (vp_updL f (0 : Int32).toNatClampNeg r1.toInt64) ++ w_Xo cs x tq h a u1_0 ++ w_Text cs tq u1_1 ++ w_Hist cs h a u1_2 ++ linesW cs a 18 u1_3) := hD
  refine lv_goto (tgt := 15) hx hb dL_slowest_9 (by decide) ?_
  refine lv_iconst (v := (0 : Int32)) hx hb dL_slowest_15 (by decide) ?_
  refine W.widen (k := 1) (n := 6) (Nat.le_of_ble_eq_true rfl) (Nat.le_of_ble_eq_true rfl) (vx_ret ?_)
  exact W.iret (v := (0 : Int32)) hx hb hr (fun t ht hW => ⟨⟨(0 : Int32), (vp_updL f (0 : Int32).toNatClampNeg r1.toInt64, u1_0, u1_1, u1_2, u1_3), rfl, hw, by rw [ht]; exact hP, hD⟩, hS.F ht⟩) hS.2.2 dL_slowest_16 hlocks
set_option maxHeartbeats 4000000 in
set_option maxRecDepth 100000 in
theorem c_L_slowest (l : Launch) (hfl : l.stackTraces = false) (D : va_G) (cs : Nat → ClassId) (o : Nat) (x : Nat → Nat) (tq : Nat → Nat) (h : Nat → Nat) (a : Nat → Nat → Nat) (sz : Nat) (sa : Nat → Nat) (f : (Nat → Int64)) (S : XO) (tx : TS) (hs : HS) (Ls : (Nat → LnS)) (x1 : Int32) (Q : Int32 → (Nat → Int64) → XO → TS → HS → (Nat → LnS) → Prop) (hw : wp_L_slowest f S tx hs Ls x1 Q) : vx_Met l yL_slowest wsL_slowest ({ frames := 8, cells := 1, slots := 6, locals := 142 } : Room) (va_Pc [.ref (x 0), .int x1, .ref o] (PX D cs (w_Out cs o f ++ w_Xo cs x tq h a S ++ w_Text cs tq tx ++ w_Hist cs h a hs ++ linesW cs a 18 Ls) sa sz)) (va_Qi (fun r (u : (Nat → Int64) × XO × TS × HS × (Nat → LnS)) => Q r u.1 u.2.1 u.2.2.1 u.2.2.2.1 u.2.2.2.2) (fun (u : (Nat → Int64) × XO × TS × HS × (Nat → LnS)) t => va_P D vwCl (w_Out cs o u.1 ++ w_Xo cs x tq h a u.2.1 ++ w_Text cs tq u.2.2.1 ++ w_Hist cs h a u.2.2.2.1 ++ linesW cs a 18 u.2.2.2.2) t.heap ∧ va_D (va_A (w_Out cs o f ++ w_Xo cs x tq h a S ++ w_Text cs tq tx ++ w_Hist cs h a hs ++ linesW cs a 18 Ls) sz) (w_Out cs o u.1 ++ w_Xo cs x tq h a u.2.1 ++ w_Text cs tq u.2.2.1 ++ w_Hist cs h a u.2.2.2.1 ++ linesW cs a 18 u.2.2.2.2)) (va_A (w_Out cs o f ++ w_Xo cs x tq h a S ++ w_Text cs tq tx ++ w_Hist cs h a hs ++ linesW cs a 18 Ls) sz)) (vx_X (fun (_ : Unit) => False) (fun _ _ _ => True) (va_A (w_Out cs o f ++ w_Xo cs x tq h a S ++ w_Text cs tq tx ++ w_Hist cs h a hs ++ linesW cs a 18 Ls) sz)) 1 6 (va_A (w_Out cs o f ++ w_Xo cs x tq h a S ++ w_Text cs tq tx ++ w_Hist cs h a hs ++ linesW cs a 18 Ls) sz) := by
  refine vx_ofWH (cc := cL_slowest) (maxL := 4) (ret := (some .int)) (by decide) rfl ?_
  intro p e s m args below meth c s₁ B hml hv
  obtain ⟨rfl, ⟨hsz, hP, hKK, hD0⟩, hTW, hTZ⟩ := hv
  have hTab := vx_table (x := yL_slowest) B (atoms_spec (ws := wsL_slowest) B.pre _ List.mem_cons_self)
  have hC : MAt p s m _ meth c RL cL_slowest 4 (some .int) wsL_slowest D cs := ⟨B.exec, B.bytes, B.returns, hml, findClass_of_methodNamed B.named, atoms_spec (ws := wsL_slowest) B.pre, B.notSynchronized, hKK⟩
  have hl := lv_entry ([.ref (x 0), .int x1, .ref o]) (n := 4) (Nat.le_of_ble_eq_true rfl)
  rw [lg_entry_eq]
  generalize (lg_sl ([.ref (x 0), .int x1, .ref o]) ++ List.replicate (4 - (lg_sl ([.ref (x 0), .int x1, .ref o])).length) Slot.unset).toArray = ls at hl ⊢
  subst hsz
  have hD := hD0.self (sz := s.heap.size)
  have hA : ∀ z : Nat, s.heap.size ≤ z → va_A (w_Out cs o f ++ w_Xo cs x tq h a S ++ w_Text cs tq tx ++ w_Hist cs h a hs ++ linesW cs a 18 Ls) s.heap.size z := fun z h => Or.inr h
  exact t_L_slowest hC hfl hTab hTW hTZ o x tq h a f S tx hs Ls x1 Q hA hw s.heap [] hP hD va_S.rf ls hl
set_option maxHeartbeats 4000000 in
set_option maxRecDepth 100000 in
theorem t_L_doubles {p : Program} {l : Launch} {e : Env} {s : State} {m : MethodId} {args : Array Value} {below : List Frame} {meth : Method} {c : Code} {D : va_G} {cs : Nat → ClassId} {A : Nat → Prop} (hC : MAt p s m args meth c RL cL_doubles 5 (some .int) wsL_doubles D cs) (hfl : l.stackTraces = false) (hTab : c.exceptionTable.toList = tableOf [(0, 10, 13, 27), (0, 10, 17, 13)]) {sa : Nat → Nat} (hTW : TW sa s) (hTZ : TZ A s s.heap) (o : Nat) (x : Nat → Nat) (tq : Nat → Nat) (h : Nat → Nat) (a : Nat → Nat → Nat) (f : (Nat → Int64)) (S : XO) (tx : TS) (hs : HS) (Ls : (Nat → LnS)) (x1 : Int32) (x2 : Int32) (Q : Int32 → (Nat → Int64) → XO → TS → HS → (Nat → LnS) → Prop) (hA : ∀ q : Nat, s.heap.size ≤ q → A q) (hw : wp_L_doubles f S tx hs Ls x1 x2 Q) (H : Heap) (locs : List Loc) (hP : va_P D vwCl (w_Out cs o f ++ w_Xo cs x tq h a S ++ w_Text cs tq tx ++ w_Hist cs h a hs ++ linesW cs a 18 Ls) H) (hD : va_D A (w_Out cs o f ++ w_Xo cs x tq h a S ++ w_Text cs tq tx ++ w_Hist cs h a hs ++ linesW cs a 18 Ls)) (hS : va_S A s.heap H locs) (ls : Array Slot) (hl : lv_has ls 5 [(0, .ref (x 0)), (1, .int x1), (2, .int x2), (3, .ref o)]) : W p l e ({ frames := 8, cells := 2, slots := 12, locals := 138 } : Room) s m args below meth c H locs 0 0 (vx_MQ below (va_Qi (fun r (u : (Nat → Int64) × XO × TS × HS × (Nat → LnS)) => Q r u.1 u.2.1 u.2.2.1 u.2.2.2.1 u.2.2.2.2) (fun (u : (Nat → Int64) × XO × TS × HS × (Nat → LnS)) t => va_P D vwCl (w_Out cs o u.1 ++ w_Xo cs x tq h a u.2.1 ++ w_Text cs tq u.2.2.1 ++ w_Hist cs h a u.2.2.2.1 ++ linesW cs a 18 u.2.2.2.2) t.heap ∧ va_D A (w_Out cs o u.1 ++ w_Xo cs x tq h a u.2.1 ++ w_Text cs tq u.2.2.1 ++ w_Hist cs h a u.2.2.2.1 ++ linesW cs a 18 u.2.2.2.2)) A) (vx_X (fun (_ : Unit) => False) (fun _ _ _ => True) A) args s 2 12 A) (F0 m 0 ls []) := by
  obtain ⟨hx, hb, hr, hml, hown, hts, hlocks, hKK⟩ := id hC
  have hK := hKK.1
  refine lv_aload_n hx hb dL_doubles_0 rfl (lv_at hl 3 rfl) ?_
  refine lv_iconst (v := (0 : Int32)) hx hb dL_doubles_1 (by decide) ?_
  refine lv_aload_n hx hb dL_doubles_2 rfl (lv_at hl 0 rfl) ?_
  refine lv_iload_n hx hb dL_doubles_3 rfl (lv_at hl 1 rfl) ?_
  refine lv_iload_n hx hb dL_doubles_4 rfl (lv_at hl 2 rfl) ?_
  have hPx := z_perm_P z_out hP
  have hDx := z_perm_D z_out hD
  have hPc := (z_app_P hPx).1
  have hDc := (z_app_D hDx).1
  have hFc := z_free hDx hS hA
  refine vx_calli (vx_runV (As := [.int x1, .int x2]) (rest := [.int (0 : Int32), .ref o]) ⟨hx, hb, hml, hown, hts⟩ (c_X3_doubles l hfl D cs x tq h a H.size sa S tx hs Ls x1 x2 _ _ hw) (cwV 2 hts gL_doubles_X3_doubles rfl rfl rfl (by decide +kernel) ⟨Nat.le_of_ble_eq_true rfl, Nat.le_of_ble_eq_true rfl⟩) (PX_V hPc hDc hKK hTW hTZ hS hFc 0 3 rfl rfl) rfl rfl hl.1 rfl (lv_room (Nat.le_of_ble_eq_true rfl)) dL_doubles_5 ⟨Nat.le_of_ble_eq_true rfl, Nat.le_of_ble_eq_true rfl⟩) hS (fun q _ h => hFc q h) hFc (fun q _ h => hFc q h) ?_ (fun r1 u1 t H locs ht hvm hw hB hz1 hk1 hS => ?_)
  · intro E ce q9 u1 t H locs ht hvm hpx hB hz1 hk1 hS hq9 hce hcl
    obtain ⟨u1_0, u1_1, u1_2, u1_3⟩ := u1
    obtain ⟨hw, hP1, hD1⟩ := hB
    rw [ht] at hP1
    obtain ⟨hPx, hDx⟩ := z_join hPx hDx hk1 hFc hP1 hD1
    have hP : va_P D vwCl (w_Out cs o f ++ w_Xo cs x tq h a u1_0 ++ w_Text cs tq u1_1 ++ w_Hist cs h a u1_2 ++ linesW cs a 18 u1_3) H := z_perm_P z_outb hPx
    have hD : va_D A (w_Out cs o f ++ w_Xo cs x tq h a u1_0 ++ w_Text cs tq u1_1 ++ w_Hist cs h a u1_2 ++ linesW cs a 18 u1_3) := z_perm_D z_outb hDx
    obtain ⟨hor, hw⟩ := hw
    rcases hor with rfl | rfl
    · have hw := hw.1 rfl
      refine vx_catch (name := eIOB) hown [] ⟨0, 10, 13, 27⟩ [⟨0, 10, 17, 13⟩] (by rw [hTab]; rfl) (fun _ h => nomatch h) rfl (by decide) (z_w hts 1 rfl) (va_Nw.use rfl hTW.2.2.2.1) hq9 hce hcl ?_
      refine W.eq (g2 := F0 m 13 ls [.ref q9]) rfl ?_
      refine lv_astore (lv' := [(4, .ref q9), (0, .ref (x 0)), (1, .int x1), (2, .int x2), (3, .ref o)]) hx hb dL_doubles_13 hl (by decide) rfl (fun ls hl => ?_)
      refine lv_iconst (v := (1 : Int32)) hx hb dL_doubles_15 (by decide) ?_
      refine W.widen (k := 2) (n := 12) (Nat.le_of_ble_eq_true rfl) (Nat.le_of_ble_eq_true rfl) (vx_ret ?_)
      exact W.iret (v := (1 : Int32)) hx hb hr (fun t ht hW => ⟨⟨(1 : Int32), (f, u1_0, u1_1, u1_2, u1_3), rfl, hw, by rw [ht]; exact hP, hD⟩, hS.F ht⟩) hS.2.2 dL_doubles_16 hlocks
    · have hw := hw.2 rfl
      refine vx_catch (name := eIAE) hown [⟨0, 10, 13, 27⟩] ⟨0, 10, 17, 13⟩ [] (by rw [hTab]; rfl) (List.forall_mem_cons.mpr ⟨Or.inr ⟨by decide, _, z_w hts 1 rfl, hTW.2.2.2.2.2.2.2.1⟩, (fun _ h => nomatch h)⟩) rfl (by decide) (z_w hts 2 rfl) (va_Nw.use rfl hTW.2.2.1) hq9 hce hcl ?_
      refine W.eq (g2 := F0 m 17 ls [.ref q9]) rfl ?_
      refine lv_astore (lv' := [(4, .ref q9), (0, .ref (x 0)), (1, .int x1), (2, .int x2), (3, .ref o)]) hx hb dL_doubles_17 hl (by decide) rfl (fun ls hl => ?_)
      refine lv_iconst (v := (2 : Int32)) hx hb dL_doubles_19 (by decide) ?_
      refine W.widen (k := 2) (n := 12) (Nat.le_of_ble_eq_true rfl) (Nat.le_of_ble_eq_true rfl) (vx_ret ?_)
      exact W.iret (v := (2 : Int32)) hx hb hr (fun t ht hW => ⟨⟨(2 : Int32), (f, u1_0, u1_1, u1_2, u1_3), rfl, hw, by rw [ht]; exact hP, hD⟩, hS.F ht⟩) hS.2.2 dL_doubles_20 hlocks
  obtain ⟨u1_0, u1_1, u1_2, u1_3⟩ := u1
  obtain ⟨hP1, hD1⟩ := hB
  rw [ht] at hP1
  obtain ⟨hPx, hDx⟩ := z_join hPx hDx hk1 hFc hP1 hD1
  have hP : va_P D vwCl (w_Out cs o f ++ w_Xo cs x tq h a u1_0 ++ w_Text cs tq u1_1 ++ w_Hist cs h a u1_2 ++ linesW cs a 18 u1_3) H := z_perm_P z_outb hPx
  have hD : va_D A (w_Out cs o f ++ w_Xo cs x tq h a u1_0 ++ w_Text cs tq u1_1 ++ w_Hist cs h a u1_2 ++ linesW cs a 18 u1_3) := z_perm_D z_outb hDx
  refine lv_i2l (v := r1.toInt64) hx hb dL_doubles_8 rfl ?_
  refine va_last hx hb hK hP hD hS 0 3 rfl rfl (show vp_in (0 : Int32) 1 by unfold vp_in; decide) dL_doubles_9 (fun H locs hP hD hS => ?_)
  have hP : va_P D vwCl (w_Out cs o (vp_updL f (0 : Int32).toNatClampNeg r1.toInt64) ++ w_Xo cs x tq h a u1_0 ++ w_Text cs tq u1_1 ++ w_Hist cs h a u1_2 ++ linesW cs a 18 u1_3) H := hP
  have hD : va_D A (w_Out cs o (vp_updL f (0 : Int32).toNatClampNeg r1.toInt64) ++ w_Xo cs x tq h a u1_0 ++ w_Text cs tq u1_1 ++ w_Hist cs h a u1_2 ++ linesW cs a 18 u1_3) := hD
  refine lv_goto (tgt := 21) hx hb dL_doubles_10 (by decide) ?_
  refine lv_iconst (v := (0 : Int32)) hx hb dL_doubles_21 (by decide) ?_
  refine W.widen (k := 2) (n := 12) (Nat.le_of_ble_eq_true rfl) (Nat.le_of_ble_eq_true rfl) (vx_ret ?_)
  exact W.iret (v := (0 : Int32)) hx hb hr (fun t ht hW => ⟨⟨(0 : Int32), (vp_updL f (0 : Int32).toNatClampNeg r1.toInt64, u1_0, u1_1, u1_2, u1_3), rfl, hw, by rw [ht]; exact hP, hD⟩, hS.F ht⟩) hS.2.2 dL_doubles_22 hlocks
set_option maxHeartbeats 4000000 in
set_option maxRecDepth 100000 in
theorem c_L_doubles (l : Launch) (hfl : l.stackTraces = false) (D : va_G) (cs : Nat → ClassId) (o : Nat) (x : Nat → Nat) (tq : Nat → Nat) (h : Nat → Nat) (a : Nat → Nat → Nat) (sz : Nat) (sa : Nat → Nat) (f : (Nat → Int64)) (S : XO) (tx : TS) (hs : HS) (Ls : (Nat → LnS)) (x1 : Int32) (x2 : Int32) (Q : Int32 → (Nat → Int64) → XO → TS → HS → (Nat → LnS) → Prop) (hw : wp_L_doubles f S tx hs Ls x1 x2 Q) : vx_Met l yL_doubles wsL_doubles ({ frames := 8, cells := 2, slots := 12, locals := 138 } : Room) (va_Pc [.ref (x 0), .int x1, .int x2, .ref o] (PX D cs (w_Out cs o f ++ w_Xo cs x tq h a S ++ w_Text cs tq tx ++ w_Hist cs h a hs ++ linesW cs a 18 Ls) sa sz)) (va_Qi (fun r (u : (Nat → Int64) × XO × TS × HS × (Nat → LnS)) => Q r u.1 u.2.1 u.2.2.1 u.2.2.2.1 u.2.2.2.2) (fun (u : (Nat → Int64) × XO × TS × HS × (Nat → LnS)) t => va_P D vwCl (w_Out cs o u.1 ++ w_Xo cs x tq h a u.2.1 ++ w_Text cs tq u.2.2.1 ++ w_Hist cs h a u.2.2.2.1 ++ linesW cs a 18 u.2.2.2.2) t.heap ∧ va_D (va_A (w_Out cs o f ++ w_Xo cs x tq h a S ++ w_Text cs tq tx ++ w_Hist cs h a hs ++ linesW cs a 18 Ls) sz) (w_Out cs o u.1 ++ w_Xo cs x tq h a u.2.1 ++ w_Text cs tq u.2.2.1 ++ w_Hist cs h a u.2.2.2.1 ++ linesW cs a 18 u.2.2.2.2)) (va_A (w_Out cs o f ++ w_Xo cs x tq h a S ++ w_Text cs tq tx ++ w_Hist cs h a hs ++ linesW cs a 18 Ls) sz)) (vx_X (fun (_ : Unit) => False) (fun _ _ _ => True) (va_A (w_Out cs o f ++ w_Xo cs x tq h a S ++ w_Text cs tq tx ++ w_Hist cs h a hs ++ linesW cs a 18 Ls) sz)) 2 12 (va_A (w_Out cs o f ++ w_Xo cs x tq h a S ++ w_Text cs tq tx ++ w_Hist cs h a hs ++ linesW cs a 18 Ls) sz) := by
  refine vx_ofWH (cc := cL_doubles) (maxL := 5) (ret := (some .int)) (by decide) rfl ?_
  intro p e s m args below meth c s₁ B hml hv
  obtain ⟨rfl, ⟨hsz, hP, hKK, hD0⟩, hTW, hTZ⟩ := hv
  have hTab := vx_table (x := yL_doubles) B (atoms_spec (ws := wsL_doubles) B.pre _ List.mem_cons_self)
  have hC : MAt p s m _ meth c RL cL_doubles 5 (some .int) wsL_doubles D cs := ⟨B.exec, B.bytes, B.returns, hml, findClass_of_methodNamed B.named, atoms_spec (ws := wsL_doubles) B.pre, B.notSynchronized, hKK⟩
  have hl := lv_entry ([.ref (x 0), .int x1, .int x2, .ref o]) (n := 5) (Nat.le_of_ble_eq_true rfl)
  rw [lg_entry_eq]
  generalize (lg_sl ([.ref (x 0), .int x1, .int x2, .ref o]) ++ List.replicate (5 - (lg_sl ([.ref (x 0), .int x1, .int x2, .ref o])).length) Slot.unset).toArray = ls at hl ⊢
  subst hsz
  have hD := hD0.self (sz := s.heap.size)
  have hA : ∀ z : Nat, s.heap.size ≤ z → va_A (w_Out cs o f ++ w_Xo cs x tq h a S ++ w_Text cs tq tx ++ w_Hist cs h a hs ++ linesW cs a 18 Ls) s.heap.size z := fun z h => Or.inr h
  exact t_L_doubles hC hfl hTab hTW hTZ o x tq h a f S tx hs Ls x1 x2 Q hA hw s.heap [] hP hD va_S.rf ls hl
set_option maxHeartbeats 4000000 in
set_option maxRecDepth 100000 in
theorem t_L_runScript {p : Program} {l : Launch} {e : Env} {s : State} {m : MethodId} {args : Array Value} {below : List Frame} {meth : Method} {c : Code} {D : va_G} {cs : Nat → ClassId} {A : Nat → Prop} (hC : MAt p s m args meth c RL cL_runScript 6 (some .int) wsL_runScript D cs) (hfl : l.stackTraces = false) (hTab : c.exceptionTable.toList = tableOf [(0, 11, 14, 13)]) {sa : Nat → Nat} (hTW : TW sa s) (hTZ : TZ A s s.heap) (o : Nat) (x : Nat → Nat) (tq : Nat → Nat) (h : Nat → Nat) (a : Nat → Nat → Nat) (f : (Nat → Int64)) (S : XO) (tx : TS) (hs : HS) (Ls : (Nat → LnS)) (x1 : Int32) (x2 : Int64) (Q : Int32 → (Nat → Int64) → XO → TS → HS → (Nat → LnS) → Prop) (hA : ∀ q : Nat, s.heap.size ≤ q → A q) (hw : wp_L_runScript f S tx hs Ls x1 x2 Q) (H : Heap) (locs : List Loc) (hP : va_P D vwCl (w_Out cs o f ++ w_Xo cs x tq h a S ++ w_Text cs tq tx ++ w_Hist cs h a hs ++ linesW cs a 18 Ls) H) (hD : va_D A (w_Out cs o f ++ w_Xo cs x tq h a S ++ w_Text cs tq tx ++ w_Hist cs h a hs ++ linesW cs a 18 Ls)) (hS : va_S A s.heap H locs) (ls : Array Slot) (hl : lv_has ls 6 [(0, .ref (x 0)), (1, .int x1), (2, .long x2), (4, .ref o)]) : W p l e ({ frames := 8, cells := 2, slots := 12, locals := 184 } : Room) s m args below meth c H locs 0 0 (vx_MQ below (va_Qi (fun r (u : (Nat → Int64) × XO × TS × HS × (Nat → LnS)) => Q r u.1 u.2.1 u.2.2.1 u.2.2.2.1 u.2.2.2.2) (fun (u : (Nat → Int64) × XO × TS × HS × (Nat → LnS)) t => va_P D vwCl (w_Out cs o u.1 ++ w_Xo cs x tq h a u.2.1 ++ w_Text cs tq u.2.2.1 ++ w_Hist cs h a u.2.2.2.1 ++ linesW cs a 18 u.2.2.2.2) t.heap ∧ va_D A (w_Out cs o u.1 ++ w_Xo cs x tq h a u.2.1 ++ w_Text cs tq u.2.2.1 ++ w_Hist cs h a u.2.2.2.1 ++ linesW cs a 18 u.2.2.2.2)) A) (vx_X (fun (_ : Unit) => False) (fun _ _ _ => True) A) args s 2 12 A) (F0 m 0 ls []) := by
  obtain ⟨hx, hb, hr, hml, hown, hts, hlocks, hKK⟩ := id hC
  have hK := hKK.1
  refine lv_aload hx hb dL_runScript_0 (lv_at hl 3 rfl) ?_
  refine lv_iconst (v := (0 : Int32)) hx hb dL_runScript_2 (by decide) ?_
  refine lv_aload_n hx hb dL_runScript_3 rfl (lv_at hl 0 rfl) ?_
  refine lv_iload_n hx hb dL_runScript_4 rfl (lv_at hl 1 rfl) ?_
  refine lv_lload_n hx hb dL_runScript_5 rfl (lv_at hl 2 rfl) ?_
  have hPx := z_perm_P z_out hP
  have hDx := z_perm_D z_out hD
  have hPc := (z_app_P hPx).1
  have hDc := (z_app_D hDx).1
  have hFc := z_free hDx hS hA
  refine vx_calli (vx_runV (As := [.int x1, .long x2]) (rest := [.int (0 : Int32), .ref o]) ⟨hx, hb, hml, hown, hts⟩ (c_X3_runScript l hfl D cs x tq h a H.size sa S tx hs Ls x1 x2 _ _ hw) (cwV 2 hts gL_runScript_X3_runScript rfl rfl rfl (by decide +kernel) ⟨Nat.le_of_ble_eq_true rfl, Nat.le_of_ble_eq_true rfl⟩) (PX_V hPc hDc hKK hTW hTZ hS hFc 0 3 rfl rfl) rfl rfl hl.1 rfl (lv_room (Nat.le_of_ble_eq_true rfl)) dL_runScript_6 ⟨Nat.le_of_ble_eq_true rfl, Nat.le_of_ble_eq_true rfl⟩) hS (fun q _ h => hFc q h) hFc (fun q _ h => hFc q h) ?_ (fun r1 u1 t H locs ht hvm hw hB hz1 hk1 hS => ?_)
  · intro E ce q9 u1 t H locs ht hvm hpx hB hz1 hk1 hS hq9 hce hcl
    obtain ⟨u1_0, u1_1, u1_2, u1_3⟩ := u1
    obtain ⟨hw, hP1, hD1⟩ := hB
    rw [ht] at hP1
    obtain ⟨hPx, hDx⟩ := z_join hPx hDx hk1 hFc hP1 hD1
    have hP : va_P D vwCl (w_Out cs o f ++ w_Xo cs x tq h a u1_0 ++ w_Text cs tq u1_1 ++ w_Hist cs h a u1_2 ++ linesW cs a 18 u1_3) H := z_perm_P z_outb hPx
    have hD : va_D A (w_Out cs o f ++ w_Xo cs x tq h a u1_0 ++ w_Text cs tq u1_1 ++ w_Hist cs h a u1_2 ++ linesW cs a 18 u1_3) := z_perm_D z_outb hDx
    obtain ⟨hor, hw⟩ := hw
    subst hor
    · have hw := hw rfl
      refine vx_catch (name := eIAE) hown [] ⟨0, 11, 14, 13⟩ [] (by rw [hTab]; rfl) (fun _ h => nomatch h) rfl (by decide) (z_w hts 1 rfl) (va_Nw.use rfl hTW.2.2.1) hq9 hce hcl ?_
      refine W.eq (g2 := F0 m 14 ls [.ref q9]) rfl ?_
      refine lv_astore (lv' := [(5, .ref q9), (0, .ref (x 0)), (1, .int x1), (2, .long x2), (4, .ref o)]) hx hb dL_runScript_14 hl (by decide) rfl (fun ls hl => ?_)
      refine lv_iconst (v := (1 : Int32)) hx hb dL_runScript_16 (by decide) ?_
      refine W.widen (k := 2) (n := 12) (Nat.le_of_ble_eq_true rfl) (Nat.le_of_ble_eq_true rfl) (vx_ret ?_)
      exact W.iret (v := (1 : Int32)) hx hb hr (fun t ht hW => ⟨⟨(1 : Int32), (f, u1_0, u1_1, u1_2, u1_3), rfl, hw, by rw [ht]; exact hP, hD⟩, hS.F ht⟩) hS.2.2 dL_runScript_17 hlocks
  obtain ⟨u1_0, u1_1, u1_2, u1_3⟩ := u1
  obtain ⟨hP1, hD1⟩ := hB
  rw [ht] at hP1
  obtain ⟨hPx, hDx⟩ := z_join hPx hDx hk1 hFc hP1 hD1
  have hP : va_P D vwCl (w_Out cs o f ++ w_Xo cs x tq h a u1_0 ++ w_Text cs tq u1_1 ++ w_Hist cs h a u1_2 ++ linesW cs a 18 u1_3) H := z_perm_P z_outb hPx
  have hD : va_D A (w_Out cs o f ++ w_Xo cs x tq h a u1_0 ++ w_Text cs tq u1_1 ++ w_Hist cs h a u1_2 ++ linesW cs a 18 u1_3) := z_perm_D z_outb hDx
  refine lv_i2l (v := r1.toInt64) hx hb dL_runScript_9 rfl ?_
  refine va_last hx hb hK hP hD hS 0 3 rfl rfl (show vp_in (0 : Int32) 1 by unfold vp_in; decide) dL_runScript_10 (fun H locs hP hD hS => ?_)
  have hP : va_P D vwCl (w_Out cs o (vp_updL f (0 : Int32).toNatClampNeg r1.toInt64) ++ w_Xo cs x tq h a u1_0 ++ w_Text cs tq u1_1 ++ w_Hist cs h a u1_2 ++ linesW cs a 18 u1_3) H := hP
  have hD : va_D A (w_Out cs o (vp_updL f (0 : Int32).toNatClampNeg r1.toInt64) ++ w_Xo cs x tq h a u1_0 ++ w_Text cs tq u1_1 ++ w_Hist cs h a u1_2 ++ linesW cs a 18 u1_3) := hD
  refine lv_goto (tgt := 18) hx hb dL_runScript_11 (by decide) ?_
  refine lv_iconst (v := (0 : Int32)) hx hb dL_runScript_18 (by decide) ?_
  refine W.widen (k := 2) (n := 12) (Nat.le_of_ble_eq_true rfl) (Nat.le_of_ble_eq_true rfl) (vx_ret ?_)
  exact W.iret (v := (0 : Int32)) hx hb hr (fun t ht hW => ⟨⟨(0 : Int32), (vp_updL f (0 : Int32).toNatClampNeg r1.toInt64, u1_0, u1_1, u1_2, u1_3), rfl, hw, by rw [ht]; exact hP, hD⟩, hS.F ht⟩) hS.2.2 dL_runScript_19 hlocks
set_option maxHeartbeats 4000000 in
set_option maxRecDepth 100000 in
theorem c_L_runScript (l : Launch) (hfl : l.stackTraces = false) (D : va_G) (cs : Nat → ClassId) (o : Nat) (x : Nat → Nat) (tq : Nat → Nat) (h : Nat → Nat) (a : Nat → Nat → Nat) (sz : Nat) (sa : Nat → Nat) (f : (Nat → Int64)) (S : XO) (tx : TS) (hs : HS) (Ls : (Nat → LnS)) (x1 : Int32) (x2 : Int64) (Q : Int32 → (Nat → Int64) → XO → TS → HS → (Nat → LnS) → Prop) (hw : wp_L_runScript f S tx hs Ls x1 x2 Q) : vx_Met l yL_runScript wsL_runScript ({ frames := 8, cells := 2, slots := 12, locals := 184 } : Room) (va_Pc [.ref (x 0), .int x1, .long x2, .ref o] (PX D cs (w_Out cs o f ++ w_Xo cs x tq h a S ++ w_Text cs tq tx ++ w_Hist cs h a hs ++ linesW cs a 18 Ls) sa sz)) (va_Qi (fun r (u : (Nat → Int64) × XO × TS × HS × (Nat → LnS)) => Q r u.1 u.2.1 u.2.2.1 u.2.2.2.1 u.2.2.2.2) (fun (u : (Nat → Int64) × XO × TS × HS × (Nat → LnS)) t => va_P D vwCl (w_Out cs o u.1 ++ w_Xo cs x tq h a u.2.1 ++ w_Text cs tq u.2.2.1 ++ w_Hist cs h a u.2.2.2.1 ++ linesW cs a 18 u.2.2.2.2) t.heap ∧ va_D (va_A (w_Out cs o f ++ w_Xo cs x tq h a S ++ w_Text cs tq tx ++ w_Hist cs h a hs ++ linesW cs a 18 Ls) sz) (w_Out cs o u.1 ++ w_Xo cs x tq h a u.2.1 ++ w_Text cs tq u.2.2.1 ++ w_Hist cs h a u.2.2.2.1 ++ linesW cs a 18 u.2.2.2.2)) (va_A (w_Out cs o f ++ w_Xo cs x tq h a S ++ w_Text cs tq tx ++ w_Hist cs h a hs ++ linesW cs a 18 Ls) sz)) (vx_X (fun (_ : Unit) => False) (fun _ _ _ => True) (va_A (w_Out cs o f ++ w_Xo cs x tq h a S ++ w_Text cs tq tx ++ w_Hist cs h a hs ++ linesW cs a 18 Ls) sz)) 2 12 (va_A (w_Out cs o f ++ w_Xo cs x tq h a S ++ w_Text cs tq tx ++ w_Hist cs h a hs ++ linesW cs a 18 Ls) sz) := by
  refine vx_ofWH (cc := cL_runScript) (maxL := 6) (ret := (some .int)) (by decide) rfl ?_
  intro p e s m args below meth c s₁ B hml hv
  obtain ⟨rfl, ⟨hsz, hP, hKK, hD0⟩, hTW, hTZ⟩ := hv
  have hTab := vx_table (x := yL_runScript) B (atoms_spec (ws := wsL_runScript) B.pre _ List.mem_cons_self)
  have hC : MAt p s m _ meth c RL cL_runScript 6 (some .int) wsL_runScript D cs := ⟨B.exec, B.bytes, B.returns, hml, findClass_of_methodNamed B.named, atoms_spec (ws := wsL_runScript) B.pre, B.notSynchronized, hKK⟩
  have hl := lv_entry ([.ref (x 0), .int x1, .long x2, .ref o]) (n := 6) (Nat.le_of_ble_eq_true rfl)
  rw [lg_entry_eq]
  generalize (lg_sl ([.ref (x 0), .int x1, .long x2, .ref o]) ++ List.replicate (6 - (lg_sl ([.ref (x 0), .int x1, .long x2, .ref o])).length) Slot.unset).toArray = ls at hl ⊢
  subst hsz
  have hD := hD0.self (sz := s.heap.size)
  have hA : ∀ z : Nat, s.heap.size ≤ z → va_A (w_Out cs o f ++ w_Xo cs x tq h a S ++ w_Text cs tq tx ++ w_Hist cs h a hs ++ linesW cs a 18 Ls) s.heap.size z := fun z h => Or.inr h
  exact t_L_runScript hC hfl hTab hTW hTZ o x tq h a f S tx hs Ls x1 x2 Q hA hw s.heap [] hP hD va_S.rf ls hl
set_option maxHeartbeats 4000000 in
set_option maxRecDepth 100000 in
theorem t_L_simulate {p : Program} {l : Launch} {e : Env} {s : State} {m : MethodId} {args : Array Value} {below : List Frame} {meth : Method} {c : Code} {D : va_G} {cs : Nat → ClassId} {A : Nat → Prop} (hC : MAt p s m args meth c RL cL_simulate 6 (some .int) wsL_simulate D cs) (hfl : l.stackTraces = false) (hTab : c.exceptionTable.toList = tableOf [(0, 11, 14, 13)]) {sa : Nat → Nat} (hTW : TW sa s) (hTZ : TZ A s s.heap) (o : Nat) (x : Nat → Nat) (tq : Nat → Nat) (h : Nat → Nat) (a : Nat → Nat → Nat) (f : (Nat → Int64)) (S : XO) (tx : TS) (hs : HS) (Ls : (Nat → LnS)) (x1 : Int64) (x3 : Int32) (Q : Int32 → (Nat → Int64) → XO → TS → HS → (Nat → LnS) → Prop) (hA : ∀ q : Nat, s.heap.size ≤ q → A q) (hw : wp_L_simulate f S tx hs Ls x1 x3 Q) (H : Heap) (locs : List Loc) (hP : va_P D vwCl (w_Out cs o f ++ w_Xo cs x tq h a S ++ w_Text cs tq tx ++ w_Hist cs h a hs ++ linesW cs a 18 Ls) H) (hD : va_D A (w_Out cs o f ++ w_Xo cs x tq h a S ++ w_Text cs tq tx ++ w_Hist cs h a hs ++ linesW cs a 18 Ls)) (hS : va_S A s.heap H locs) (ls : Array Slot) (hl : lv_has ls 6 [(0, .ref (x 0)), (1, .long x1), (3, .int x3), (4, .ref o)]) : W p l e ({ frames := 8, cells := 1, slots := 6, locals := 142 } : Room) s m args below meth c H locs 0 0 (vx_MQ below (va_Qi (fun r (u : (Nat → Int64) × XO × TS × HS × (Nat → LnS)) => Q r u.1 u.2.1 u.2.2.1 u.2.2.2.1 u.2.2.2.2) (fun (u : (Nat → Int64) × XO × TS × HS × (Nat → LnS)) t => va_P D vwCl (w_Out cs o u.1 ++ w_Xo cs x tq h a u.2.1 ++ w_Text cs tq u.2.2.1 ++ w_Hist cs h a u.2.2.2.1 ++ linesW cs a 18 u.2.2.2.2) t.heap ∧ va_D A (w_Out cs o u.1 ++ w_Xo cs x tq h a u.2.1 ++ w_Text cs tq u.2.2.1 ++ w_Hist cs h a u.2.2.2.1 ++ linesW cs a 18 u.2.2.2.2)) A) (vx_X (fun (_ : Unit) => False) (fun _ _ _ => True) A) args s 1 6 A) (F0 m 0 ls []) := by
  obtain ⟨hx, hb, hr, hml, hown, hts, hlocks, hKK⟩ := id hC
  have hK := hKK.1
  refine lv_aload hx hb dL_simulate_0 (lv_at hl 3 rfl) ?_
  refine lv_iconst (v := (0 : Int32)) hx hb dL_simulate_2 (by decide) ?_
  refine lv_aload_n hx hb dL_simulate_3 rfl (lv_at hl 0 rfl) ?_
  refine lv_lload_n hx hb dL_simulate_4 rfl (lv_at hl 1 rfl) ?_
  refine lv_iload_n hx hb dL_simulate_5 rfl (lv_at hl 2 rfl) ?_
  have hPx := z_perm_P z_out hP
  have hDx := z_perm_D z_out hD
  have hPc := (z_app_P hPx).1
  have hDc := (z_app_D hDx).1
  have hFc := z_free hDx hS hA
  refine vx_calli (vx_runV (As := [.long x1, .int x3]) (rest := [.int (0 : Int32), .ref o]) ⟨hx, hb, hml, hown, hts⟩ (c_X3_simulate l hfl D cs x tq h a H.size sa S tx hs Ls x1 x3 _ _ hw) (cwV 2 hts gL_simulate_X3_simulate rfl rfl rfl (by decide +kernel) ⟨Nat.le_of_ble_eq_true rfl, Nat.le_of_ble_eq_true rfl⟩) (PX_V hPc hDc hKK hTW hTZ hS hFc 0 3 rfl rfl) rfl rfl hl.1 rfl (lv_room (Nat.le_of_ble_eq_true rfl)) dL_simulate_6 ⟨Nat.le_of_ble_eq_true rfl, Nat.le_of_ble_eq_true rfl⟩) hS (fun q _ h => hFc q h) hFc (fun q _ h => hFc q h) ?_ (fun r1 u1 t H locs ht hvm hw hB hz1 hk1 hS => ?_)
  · intro E ce q9 u1 t H locs ht hvm hpx hB hz1 hk1 hS hq9 hce hcl
    obtain ⟨u1_0, u1_1, u1_2, u1_3⟩ := u1
    obtain ⟨hw, hP1, hD1⟩ := hB
    rw [ht] at hP1
    obtain ⟨hPx, hDx⟩ := z_join hPx hDx hk1 hFc hP1 hD1
    have hP : va_P D vwCl (w_Out cs o f ++ w_Xo cs x tq h a u1_0 ++ w_Text cs tq u1_1 ++ w_Hist cs h a u1_2 ++ linesW cs a 18 u1_3) H := z_perm_P z_outb hPx
    have hD : va_D A (w_Out cs o f ++ w_Xo cs x tq h a u1_0 ++ w_Text cs tq u1_1 ++ w_Hist cs h a u1_2 ++ linesW cs a 18 u1_3) := z_perm_D z_outb hDx
    obtain ⟨hor, hw⟩ := hw
    subst hor
    · have hw := hw rfl
      refine vx_catch (name := eIAE) hown [] ⟨0, 11, 14, 13⟩ [] (by rw [hTab]; rfl) (fun _ h => nomatch h) rfl (by decide) (z_w hts 1 rfl) (va_Nw.use rfl hTW.2.2.1) hq9 hce hcl ?_
      refine W.eq (g2 := F0 m 14 ls [.ref q9]) rfl ?_
      refine lv_astore (lv' := [(5, .ref q9), (0, .ref (x 0)), (1, .long x1), (3, .int x3), (4, .ref o)]) hx hb dL_simulate_14 hl (by decide) rfl (fun ls hl => ?_)
      refine lv_iconst (v := (1 : Int32)) hx hb dL_simulate_16 (by decide) ?_
      refine W.widen (k := 1) (n := 6) (Nat.le_of_ble_eq_true rfl) (Nat.le_of_ble_eq_true rfl) (vx_ret ?_)
      exact W.iret (v := (1 : Int32)) hx hb hr (fun t ht hW => ⟨⟨(1 : Int32), (f, u1_0, u1_1, u1_2, u1_3), rfl, hw, by rw [ht]; exact hP, hD⟩, hS.F ht⟩) hS.2.2 dL_simulate_17 hlocks
  obtain ⟨u1_0, u1_1, u1_2, u1_3⟩ := u1
  obtain ⟨hP1, hD1⟩ := hB
  rw [ht] at hP1
  obtain ⟨hPx, hDx⟩ := z_join hPx hDx hk1 hFc hP1 hD1
  have hP : va_P D vwCl (w_Out cs o f ++ w_Xo cs x tq h a u1_0 ++ w_Text cs tq u1_1 ++ w_Hist cs h a u1_2 ++ linesW cs a 18 u1_3) H := z_perm_P z_outb hPx
  have hD : va_D A (w_Out cs o f ++ w_Xo cs x tq h a u1_0 ++ w_Text cs tq u1_1 ++ w_Hist cs h a u1_2 ++ linesW cs a 18 u1_3) := z_perm_D z_outb hDx
  refine lv_i2l (v := r1.toInt64) hx hb dL_simulate_9 rfl ?_
  refine va_last hx hb hK hP hD hS 0 3 rfl rfl (show vp_in (0 : Int32) 1 by unfold vp_in; decide) dL_simulate_10 (fun H locs hP hD hS => ?_)
  have hP : va_P D vwCl (w_Out cs o (vp_updL f (0 : Int32).toNatClampNeg r1.toInt64) ++ w_Xo cs x tq h a u1_0 ++ w_Text cs tq u1_1 ++ w_Hist cs h a u1_2 ++ linesW cs a 18 u1_3) H := hP
  have hD : va_D A (w_Out cs o (vp_updL f (0 : Int32).toNatClampNeg r1.toInt64) ++ w_Xo cs x tq h a u1_0 ++ w_Text cs tq u1_1 ++ w_Hist cs h a u1_2 ++ linesW cs a 18 u1_3) := hD
  refine lv_goto (tgt := 18) hx hb dL_simulate_11 (by decide) ?_
  refine lv_iconst (v := (0 : Int32)) hx hb dL_simulate_18 (by decide) ?_
  refine W.widen (k := 1) (n := 6) (Nat.le_of_ble_eq_true rfl) (Nat.le_of_ble_eq_true rfl) (vx_ret ?_)
  exact W.iret (v := (0 : Int32)) hx hb hr (fun t ht hW => ⟨⟨(0 : Int32), (vp_updL f (0 : Int32).toNatClampNeg r1.toInt64, u1_0, u1_1, u1_2, u1_3), rfl, hw, by rw [ht]; exact hP, hD⟩, hS.F ht⟩) hS.2.2 dL_simulate_19 hlocks
set_option maxHeartbeats 4000000 in
set_option maxRecDepth 100000 in
theorem c_L_simulate (l : Launch) (hfl : l.stackTraces = false) (D : va_G) (cs : Nat → ClassId) (o : Nat) (x : Nat → Nat) (tq : Nat → Nat) (h : Nat → Nat) (a : Nat → Nat → Nat) (sz : Nat) (sa : Nat → Nat) (f : (Nat → Int64)) (S : XO) (tx : TS) (hs : HS) (Ls : (Nat → LnS)) (x1 : Int64) (x3 : Int32) (Q : Int32 → (Nat → Int64) → XO → TS → HS → (Nat → LnS) → Prop) (hw : wp_L_simulate f S tx hs Ls x1 x3 Q) : vx_Met l yL_simulate wsL_simulate ({ frames := 8, cells := 1, slots := 6, locals := 142 } : Room) (va_Pc [.ref (x 0), .long x1, .int x3, .ref o] (PX D cs (w_Out cs o f ++ w_Xo cs x tq h a S ++ w_Text cs tq tx ++ w_Hist cs h a hs ++ linesW cs a 18 Ls) sa sz)) (va_Qi (fun r (u : (Nat → Int64) × XO × TS × HS × (Nat → LnS)) => Q r u.1 u.2.1 u.2.2.1 u.2.2.2.1 u.2.2.2.2) (fun (u : (Nat → Int64) × XO × TS × HS × (Nat → LnS)) t => va_P D vwCl (w_Out cs o u.1 ++ w_Xo cs x tq h a u.2.1 ++ w_Text cs tq u.2.2.1 ++ w_Hist cs h a u.2.2.2.1 ++ linesW cs a 18 u.2.2.2.2) t.heap ∧ va_D (va_A (w_Out cs o f ++ w_Xo cs x tq h a S ++ w_Text cs tq tx ++ w_Hist cs h a hs ++ linesW cs a 18 Ls) sz) (w_Out cs o u.1 ++ w_Xo cs x tq h a u.2.1 ++ w_Text cs tq u.2.2.1 ++ w_Hist cs h a u.2.2.2.1 ++ linesW cs a 18 u.2.2.2.2)) (va_A (w_Out cs o f ++ w_Xo cs x tq h a S ++ w_Text cs tq tx ++ w_Hist cs h a hs ++ linesW cs a 18 Ls) sz)) (vx_X (fun (_ : Unit) => False) (fun _ _ _ => True) (va_A (w_Out cs o f ++ w_Xo cs x tq h a S ++ w_Text cs tq tx ++ w_Hist cs h a hs ++ linesW cs a 18 Ls) sz)) 1 6 (va_A (w_Out cs o f ++ w_Xo cs x tq h a S ++ w_Text cs tq tx ++ w_Hist cs h a hs ++ linesW cs a 18 Ls) sz) := by
  refine vx_ofWH (cc := cL_simulate) (maxL := 6) (ret := (some .int)) (by decide) rfl ?_
  intro p e s m args below meth c s₁ B hml hv
  obtain ⟨rfl, ⟨hsz, hP, hKK, hD0⟩, hTW, hTZ⟩ := hv
  have hTab := vx_table (x := yL_simulate) B (atoms_spec (ws := wsL_simulate) B.pre _ List.mem_cons_self)
  have hC : MAt p s m _ meth c RL cL_simulate 6 (some .int) wsL_simulate D cs := ⟨B.exec, B.bytes, B.returns, hml, findClass_of_methodNamed B.named, atoms_spec (ws := wsL_simulate) B.pre, B.notSynchronized, hKK⟩
  have hl := lv_entry ([.ref (x 0), .long x1, .int x3, .ref o]) (n := 6) (Nat.le_of_ble_eq_true rfl)
  rw [lg_entry_eq]
  generalize (lg_sl ([.ref (x 0), .long x1, .int x3, .ref o]) ++ List.replicate (6 - (lg_sl ([.ref (x 0), .long x1, .int x3, .ref o])).length) Slot.unset).toArray = ls at hl ⊢
  subst hsz
  have hD := hD0.self (sz := s.heap.size)
  have hA : ∀ z : Nat, s.heap.size ≤ z → va_A (w_Out cs o f ++ w_Xo cs x tq h a S ++ w_Text cs tq tx ++ w_Hist cs h a hs ++ linesW cs a 18 Ls) s.heap.size z := fun z h => Or.inr h
  exact t_L_simulate hC hfl hTab hTW hTZ o x tq h a f S tx hs Ls x1 x3 Q hA hw s.heap [] hP hD va_S.rf ls hl
set_option maxHeartbeats 4000000 in
set_option maxRecDepth 100000 in
theorem t_L_save {p : Program} {l : Launch} {e : Env} {s : State} {m : MethodId} {args : Array Value} {below : List Frame} {meth : Method} {c : Code} {D : va_G} {cs : Nat → ClassId} {A : Nat → Prop} (hC : MAt p s m args meth c RL cL_save 4 (some .int) wsL_save D cs) (hfl : l.stackTraces = false) (hTab : c.exceptionTable.toList = tableOf [(0, 9, 12, 27)]) {sa : Nat → Nat} (hTW : TW sa s) (hTZ : TZ A s s.heap) (o : Nat) (x : Nat → Nat) (tq : Nat → Nat) (h : Nat → Nat) (a : Nat → Nat → Nat) (f : (Nat → Int64)) (S : XO) (tx : TS) (hs : HS) (Ls : (Nat → LnS)) (x1 : Int32) (Q : Int32 → (Nat → Int64) → XO → TS → HS → (Nat → LnS) → Prop) (hA : ∀ q : Nat, s.heap.size ≤ q → A q) (hw : wp_L_save f S tx hs Ls x1 Q) (H : Heap) (locs : List Loc) (hP : va_P D vwCl (w_Out cs o f ++ w_Xo cs x tq h a S ++ w_Text cs tq tx ++ w_Hist cs h a hs ++ linesW cs a 18 Ls) H) (hD : va_D A (w_Out cs o f ++ w_Xo cs x tq h a S ++ w_Text cs tq tx ++ w_Hist cs h a hs ++ linesW cs a 18 Ls)) (hS : va_S A s.heap H locs) (ls : Array Slot) (hl : lv_has ls 4 [(0, .ref (x 0)), (1, .int x1), (2, .ref o)]) : W p l e ({ frames := 8, cells := 1, slots := 6, locals := 123 } : Room) s m args below meth c H locs 0 0 (vx_MQ below (va_Qi (fun r (u : (Nat → Int64) × XO × TS × HS × (Nat → LnS)) => Q r u.1 u.2.1 u.2.2.1 u.2.2.2.1 u.2.2.2.2) (fun (u : (Nat → Int64) × XO × TS × HS × (Nat → LnS)) t => va_P D vwCl (w_Out cs o u.1 ++ w_Xo cs x tq h a u.2.1 ++ w_Text cs tq u.2.2.1 ++ w_Hist cs h a u.2.2.2.1 ++ linesW cs a 18 u.2.2.2.2) t.heap ∧ va_D A (w_Out cs o u.1 ++ w_Xo cs x tq h a u.2.1 ++ w_Text cs tq u.2.2.1 ++ w_Hist cs h a u.2.2.2.1 ++ linesW cs a 18 u.2.2.2.2)) A) (vx_X (fun (_ : Unit) => False) (fun _ _ _ => True) A) args s 1 6 A) (F0 m 0 ls []) := by
  obtain ⟨hx, hb, hr, hml, hown, hts, hlocks, hKK⟩ := id hC
  have hK := hKK.1
  refine lv_aload_n hx hb dL_save_0 rfl (lv_at hl 2 rfl) ?_
  refine lv_iconst (v := (0 : Int32)) hx hb dL_save_1 (by decide) ?_
  refine lv_aload_n hx hb dL_save_2 rfl (lv_at hl 0 rfl) ?_
  refine lv_iload_n hx hb dL_save_3 rfl (lv_at hl 1 rfl) ?_
  have hPx := z_perm_P z_out hP
  have hDx := z_perm_D z_out hD
  have hPc := (z_app_P hPx).1
  have hDc := (z_app_D hDx).1
  have hFc := z_free hDx hS hA
  refine vx_calli (vx_runV (As := [.int x1]) (rest := [.int (0 : Int32), .ref o]) ⟨hx, hb, hml, hown, hts⟩ (c_X3_save l hfl D cs x tq h a H.size sa S tx hs Ls x1 _ _ hw) (cwV 1 hts gL_save_X3_save rfl rfl rfl (by decide +kernel) ⟨Nat.le_of_ble_eq_true rfl, Nat.le_of_ble_eq_true rfl⟩) (PX_V hPc hDc hKK hTW hTZ hS hFc 0 3 rfl rfl) rfl rfl hl.1 rfl (lv_room (Nat.le_of_ble_eq_true rfl)) dL_save_4 ⟨Nat.le_of_ble_eq_true rfl, Nat.le_of_ble_eq_true rfl⟩) hS (fun q _ h => hFc q h) hFc (fun q _ h => hFc q h) ?_ (fun r1 u1 t H locs ht hvm hw hB hz1 hk1 hS => ?_)
  · intro E ce q9 u1 t H locs ht hvm hpx hB hz1 hk1 hS hq9 hce hcl
    obtain ⟨u1_0, u1_1, u1_2, u1_3⟩ := u1
    obtain ⟨hw, hP1, hD1⟩ := hB
    rw [ht] at hP1
    obtain ⟨hPx, hDx⟩ := z_join hPx hDx hk1 hFc hP1 hD1
    have hP : va_P D vwCl (w_Out cs o f ++ w_Xo cs x tq h a u1_0 ++ w_Text cs tq u1_1 ++ w_Hist cs h a u1_2 ++ linesW cs a 18 u1_3) H := z_perm_P z_outb hPx
    have hD : va_D A (w_Out cs o f ++ w_Xo cs x tq h a u1_0 ++ w_Text cs tq u1_1 ++ w_Hist cs h a u1_2 ++ linesW cs a 18 u1_3) := z_perm_D z_outb hDx
    obtain ⟨hor, hw⟩ := hw
    subst hor
    · have hw := hw rfl
      refine vx_catch (name := eIOB) hown [] ⟨0, 9, 12, 27⟩ [] (by rw [hTab]; rfl) (fun _ h => nomatch h) rfl (by decide) (z_w hts 1 rfl) (va_Nw.use rfl hTW.2.2.2.1) hq9 hce hcl ?_
      refine W.eq (g2 := F0 m 12 ls [.ref q9]) rfl ?_
      refine lv_astore_n (lv' := [(3, .ref q9), (0, .ref (x 0)), (1, .int x1), (2, .ref o)]) hx hb dL_save_12 rfl hl (by decide) rfl (fun ls hl => ?_)
      refine lv_iconst (v := (1 : Int32)) hx hb dL_save_13 (by decide) ?_
      refine W.widen (k := 1) (n := 6) (Nat.le_of_ble_eq_true rfl) (Nat.le_of_ble_eq_true rfl) (vx_ret ?_)
      exact W.iret (v := (1 : Int32)) hx hb hr (fun t ht hW => ⟨⟨(1 : Int32), (f, u1_0, u1_1, u1_2, u1_3), rfl, hw, by rw [ht]; exact hP, hD⟩, hS.F ht⟩) hS.2.2 dL_save_14 hlocks
  obtain ⟨u1_0, u1_1, u1_2, u1_3⟩ := u1
  obtain ⟨hP1, hD1⟩ := hB
  rw [ht] at hP1
  obtain ⟨hPx, hDx⟩ := z_join hPx hDx hk1 hFc hP1 hD1
  have hP : va_P D vwCl (w_Out cs o f ++ w_Xo cs x tq h a u1_0 ++ w_Text cs tq u1_1 ++ w_Hist cs h a u1_2 ++ linesW cs a 18 u1_3) H := z_perm_P z_outb hPx
  have hD : va_D A (w_Out cs o f ++ w_Xo cs x tq h a u1_0 ++ w_Text cs tq u1_1 ++ w_Hist cs h a u1_2 ++ linesW cs a 18 u1_3) := z_perm_D z_outb hDx
  refine lv_i2l (v := r1.toInt64) hx hb dL_save_7 rfl ?_
  refine va_last hx hb hK hP hD hS 0 3 rfl rfl (show vp_in (0 : Int32) 1 by unfold vp_in; decide) dL_save_8 (fun H locs hP hD hS => ?_)
  have hP : va_P D vwCl (w_Out cs o (vp_updL f (0 : Int32).toNatClampNeg r1.toInt64) ++ w_Xo cs x tq h a u1_0 ++ w_Text cs tq u1_1 ++ w_Hist cs h a u1_2 ++ linesW cs a 18 u1_3) H := hP
  have hD : va_D A (w_Out cs o (vp_updL f (0 : Int32).toNatClampNeg r1.toInt64) ++ w_Xo cs x tq h a u1_0 ++ w_Text cs tq u1_1 ++ w_Hist cs h a u1_2 ++ linesW cs a 18 u1_3) := hD
  refine lv_goto (tgt := 15) hx hb dL_save_9 (by decide) ?_
  refine lv_iconst (v := (0 : Int32)) hx hb dL_save_15 (by decide) ?_
  refine W.widen (k := 1) (n := 6) (Nat.le_of_ble_eq_true rfl) (Nat.le_of_ble_eq_true rfl) (vx_ret ?_)
  exact W.iret (v := (0 : Int32)) hx hb hr (fun t ht hW => ⟨⟨(0 : Int32), (vp_updL f (0 : Int32).toNatClampNeg r1.toInt64, u1_0, u1_1, u1_2, u1_3), rfl, hw, by rw [ht]; exact hP, hD⟩, hS.F ht⟩) hS.2.2 dL_save_16 hlocks
set_option maxHeartbeats 4000000 in
set_option maxRecDepth 100000 in
theorem c_L_save (l : Launch) (hfl : l.stackTraces = false) (D : va_G) (cs : Nat → ClassId) (o : Nat) (x : Nat → Nat) (tq : Nat → Nat) (h : Nat → Nat) (a : Nat → Nat → Nat) (sz : Nat) (sa : Nat → Nat) (f : (Nat → Int64)) (S : XO) (tx : TS) (hs : HS) (Ls : (Nat → LnS)) (x1 : Int32) (Q : Int32 → (Nat → Int64) → XO → TS → HS → (Nat → LnS) → Prop) (hw : wp_L_save f S tx hs Ls x1 Q) : vx_Met l yL_save wsL_save ({ frames := 8, cells := 1, slots := 6, locals := 123 } : Room) (va_Pc [.ref (x 0), .int x1, .ref o] (PX D cs (w_Out cs o f ++ w_Xo cs x tq h a S ++ w_Text cs tq tx ++ w_Hist cs h a hs ++ linesW cs a 18 Ls) sa sz)) (va_Qi (fun r (u : (Nat → Int64) × XO × TS × HS × (Nat → LnS)) => Q r u.1 u.2.1 u.2.2.1 u.2.2.2.1 u.2.2.2.2) (fun (u : (Nat → Int64) × XO × TS × HS × (Nat → LnS)) t => va_P D vwCl (w_Out cs o u.1 ++ w_Xo cs x tq h a u.2.1 ++ w_Text cs tq u.2.2.1 ++ w_Hist cs h a u.2.2.2.1 ++ linesW cs a 18 u.2.2.2.2) t.heap ∧ va_D (va_A (w_Out cs o f ++ w_Xo cs x tq h a S ++ w_Text cs tq tx ++ w_Hist cs h a hs ++ linesW cs a 18 Ls) sz) (w_Out cs o u.1 ++ w_Xo cs x tq h a u.2.1 ++ w_Text cs tq u.2.2.1 ++ w_Hist cs h a u.2.2.2.1 ++ linesW cs a 18 u.2.2.2.2)) (va_A (w_Out cs o f ++ w_Xo cs x tq h a S ++ w_Text cs tq tx ++ w_Hist cs h a hs ++ linesW cs a 18 Ls) sz)) (vx_X (fun (_ : Unit) => False) (fun _ _ _ => True) (va_A (w_Out cs o f ++ w_Xo cs x tq h a S ++ w_Text cs tq tx ++ w_Hist cs h a hs ++ linesW cs a 18 Ls) sz)) 1 6 (va_A (w_Out cs o f ++ w_Xo cs x tq h a S ++ w_Text cs tq tx ++ w_Hist cs h a hs ++ linesW cs a 18 Ls) sz) := by
  refine vx_ofWH (cc := cL_save) (maxL := 4) (ret := (some .int)) (by decide) rfl ?_
  intro p e s m args below meth c s₁ B hml hv
  obtain ⟨rfl, ⟨hsz, hP, hKK, hD0⟩, hTW, hTZ⟩ := hv
  have hTab := vx_table (x := yL_save) B (atoms_spec (ws := wsL_save) B.pre _ List.mem_cons_self)
  have hC : MAt p s m _ meth c RL cL_save 4 (some .int) wsL_save D cs := ⟨B.exec, B.bytes, B.returns, hml, findClass_of_methodNamed B.named, atoms_spec (ws := wsL_save) B.pre, B.notSynchronized, hKK⟩
  have hl := lv_entry ([.ref (x 0), .int x1, .ref o]) (n := 4) (Nat.le_of_ble_eq_true rfl)
  rw [lg_entry_eq]
  generalize (lg_sl ([.ref (x 0), .int x1, .ref o]) ++ List.replicate (4 - (lg_sl ([.ref (x 0), .int x1, .ref o])).length) Slot.unset).toArray = ls at hl ⊢
  subst hsz
  have hD := hD0.self (sz := s.heap.size)
  have hA : ∀ z : Nat, s.heap.size ≤ z → va_A (w_Out cs o f ++ w_Xo cs x tq h a S ++ w_Text cs tq tx ++ w_Hist cs h a hs ++ linesW cs a 18 Ls) s.heap.size z := fun z h => Or.inr h
  exact t_L_save hC hfl hTab hTW hTZ o x tq h a f S tx hs Ls x1 Q hA hw s.heap [] hP hD va_S.rf ls hl
set_option maxHeartbeats 4000000 in
set_option maxRecDepth 100000 in
theorem t_L_restore {p : Program} {l : Launch} {e : Env} {s : State} {m : MethodId} {args : Array Value} {below : List Frame} {meth : Method} {c : Code} {D : va_G} {cs : Nat → ClassId} {A : Nat → Prop} (hC : MAt p s m args meth c RL cL_restore 4 (some .int) wsL_restore D cs) (hfl : l.stackTraces = false) (hTab : c.exceptionTable.toList = tableOf [(0, 9, 12, 27), (0, 9, 15, 15)]) {sa : Nat → Nat} (hTW : TW sa s) (hTZ : TZ A s s.heap) (o : Nat) (x : Nat → Nat) (tq : Nat → Nat) (h : Nat → Nat) (a : Nat → Nat → Nat) (f : (Nat → Int64)) (S : XO) (tx : TS) (hs : HS) (Ls : (Nat → LnS)) (x1 : Int32) (Q : Int32 → (Nat → Int64) → XO → TS → HS → (Nat → LnS) → Prop) (hA : ∀ q : Nat, s.heap.size ≤ q → A q) (hw : wp_L_restore f S tx hs Ls x1 Q) (H : Heap) (locs : List Loc) (hP : va_P D vwCl (w_Out cs o f ++ w_Xo cs x tq h a S ++ w_Text cs tq tx ++ w_Hist cs h a hs ++ linesW cs a 18 Ls) H) (hD : va_D A (w_Out cs o f ++ w_Xo cs x tq h a S ++ w_Text cs tq tx ++ w_Hist cs h a hs ++ linesW cs a 18 Ls)) (hS : va_S A s.heap H locs) (ls : Array Slot) (hl : lv_has ls 4 [(0, .ref (x 0)), (1, .int x1), (2, .ref o)]) : W p l e ({ frames := 8, cells := 2, slots := 12, locals := 123 } : Room) s m args below meth c H locs 0 0 (vx_MQ below (va_Qi (fun r (u : (Nat → Int64) × XO × TS × HS × (Nat → LnS)) => Q r u.1 u.2.1 u.2.2.1 u.2.2.2.1 u.2.2.2.2) (fun (u : (Nat → Int64) × XO × TS × HS × (Nat → LnS)) t => va_P D vwCl (w_Out cs o u.1 ++ w_Xo cs x tq h a u.2.1 ++ w_Text cs tq u.2.2.1 ++ w_Hist cs h a u.2.2.2.1 ++ linesW cs a 18 u.2.2.2.2) t.heap ∧ va_D A (w_Out cs o u.1 ++ w_Xo cs x tq h a u.2.1 ++ w_Text cs tq u.2.2.1 ++ w_Hist cs h a u.2.2.2.1 ++ linesW cs a 18 u.2.2.2.2)) A) (vx_X (fun (_ : Unit) => False) (fun _ _ _ => True) A) args s 2 12 A) (F0 m 0 ls []) := by
  obtain ⟨hx, hb, hr, hml, hown, hts, hlocks, hKK⟩ := id hC
  have hK := hKK.1
  refine lv_aload_n hx hb dL_restore_0 rfl (lv_at hl 2 rfl) ?_
  refine lv_iconst (v := (0 : Int32)) hx hb dL_restore_1 (by decide) ?_
  refine lv_aload_n hx hb dL_restore_2 rfl (lv_at hl 0 rfl) ?_
  refine lv_iload_n hx hb dL_restore_3 rfl (lv_at hl 1 rfl) ?_
  have hPx := z_perm_P z_out hP
  have hDx := z_perm_D z_out hD
  have hPc := (z_app_P hPx).1
  have hDc := (z_app_D hDx).1
  have hFc := z_free hDx hS hA
  refine vx_calli (vx_runV (As := [.int x1]) (rest := [.int (0 : Int32), .ref o]) ⟨hx, hb, hml, hown, hts⟩ (c_X3_restore l hfl D cs x tq h a H.size sa S tx hs Ls x1 _ _ hw) (cwV 1 hts gL_restore_X3_restore rfl rfl rfl (by decide +kernel) ⟨Nat.le_of_ble_eq_true rfl, Nat.le_of_ble_eq_true rfl⟩) (PX_V hPc hDc hKK hTW hTZ hS hFc 0 3 rfl rfl) rfl rfl hl.1 rfl (lv_room (Nat.le_of_ble_eq_true rfl)) dL_restore_4 ⟨Nat.le_of_ble_eq_true rfl, Nat.le_of_ble_eq_true rfl⟩) hS (fun q _ h => hFc q h) hFc (fun q _ h => hFc q h) ?_ (fun r1 u1 t H locs ht hvm hw hB hz1 hk1 hS => ?_)
  · intro E ce q9 u1 t H locs ht hvm hpx hB hz1 hk1 hS hq9 hce hcl
    obtain ⟨u1_0, u1_1, u1_2, u1_3⟩ := u1
    obtain ⟨hw, hP1, hD1⟩ := hB
    rw [ht] at hP1
    obtain ⟨hPx, hDx⟩ := z_join hPx hDx hk1 hFc hP1 hD1
    have hP : va_P D vwCl (w_Out cs o f ++ w_Xo cs x tq h a u1_0 ++ w_Text cs tq u1_1 ++ w_Hist cs h a u1_2 ++ linesW cs a 18 u1_3) H := z_perm_P z_outb hPx
    have hD : va_D A (w_Out cs o f ++ w_Xo cs x tq h a u1_0 ++ w_Text cs tq u1_1 ++ w_Hist cs h a u1_2 ++ linesW cs a 18 u1_3) := z_perm_D z_outb hDx
    obtain ⟨hor, hw⟩ := hw
    rcases hor with rfl | rfl
    · have hw := hw.1 rfl
      refine vx_catch (name := eIOB) hown [] ⟨0, 9, 12, 27⟩ [⟨0, 9, 15, 15⟩] (by rw [hTab]; rfl) (fun _ h => nomatch h) rfl (by decide) (z_w hts 1 rfl) (va_Nw.use rfl hTW.2.2.2.1) hq9 hce hcl ?_
      refine W.eq (g2 := F0 m 12 ls [.ref q9]) rfl ?_
      refine lv_astore_n (lv' := [(3, .ref q9), (0, .ref (x 0)), (1, .int x1), (2, .ref o)]) hx hb dL_restore_12 rfl hl (by decide) rfl (fun ls hl => ?_)
      refine lv_iconst (v := (1 : Int32)) hx hb dL_restore_13 (by decide) ?_
      refine W.widen (k := 2) (n := 12) (Nat.le_of_ble_eq_true rfl) (Nat.le_of_ble_eq_true rfl) (vx_ret ?_)
      exact W.iret (v := (1 : Int32)) hx hb hr (fun t ht hW => ⟨⟨(1 : Int32), (f, u1_0, u1_1, u1_2, u1_3), rfl, hw, by rw [ht]; exact hP, hD⟩, hS.F ht⟩) hS.2.2 dL_restore_14 hlocks
    · have hw := hw.2 rfl
      refine vx_catch (name := eISE) hown [⟨0, 9, 12, 27⟩] ⟨0, 9, 15, 15⟩ [] (by rw [hTab]; rfl) (List.forall_mem_cons.mpr ⟨Or.inr ⟨by decide, _, z_w hts 1 rfl, hTW.2.2.2.2.2.1⟩, (fun _ h => nomatch h)⟩) rfl (by decide) (z_w hts 2 rfl) (va_Nw.use rfl hTW.2.1) hq9 hce hcl ?_
      refine W.eq (g2 := F0 m 15 ls [.ref q9]) rfl ?_
      refine lv_astore_n (lv' := [(3, .ref q9), (0, .ref (x 0)), (1, .int x1), (2, .ref o)]) hx hb dL_restore_15 rfl hl (by decide) rfl (fun ls hl => ?_)
      refine lv_iconst (v := (2 : Int32)) hx hb dL_restore_16 (by decide) ?_
      refine W.widen (k := 2) (n := 12) (Nat.le_of_ble_eq_true rfl) (Nat.le_of_ble_eq_true rfl) (vx_ret ?_)
      exact W.iret (v := (2 : Int32)) hx hb hr (fun t ht hW => ⟨⟨(2 : Int32), (f, u1_0, u1_1, u1_2, u1_3), rfl, hw, by rw [ht]; exact hP, hD⟩, hS.F ht⟩) hS.2.2 dL_restore_17 hlocks
  obtain ⟨u1_0, u1_1, u1_2, u1_3⟩ := u1
  obtain ⟨hP1, hD1⟩ := hB
  rw [ht] at hP1
  obtain ⟨hPx, hDx⟩ := z_join hPx hDx hk1 hFc hP1 hD1
  have hP : va_P D vwCl (w_Out cs o f ++ w_Xo cs x tq h a u1_0 ++ w_Text cs tq u1_1 ++ w_Hist cs h a u1_2 ++ linesW cs a 18 u1_3) H := z_perm_P z_outb hPx
  have hD : va_D A (w_Out cs o f ++ w_Xo cs x tq h a u1_0 ++ w_Text cs tq u1_1 ++ w_Hist cs h a u1_2 ++ linesW cs a 18 u1_3) := z_perm_D z_outb hDx
  refine lv_i2l (v := r1.toInt64) hx hb dL_restore_7 rfl ?_
  refine va_last hx hb hK hP hD hS 0 3 rfl rfl (show vp_in (0 : Int32) 1 by unfold vp_in; decide) dL_restore_8 (fun H locs hP hD hS => ?_)
  have hP : va_P D vwCl (w_Out cs o (vp_updL f (0 : Int32).toNatClampNeg r1.toInt64) ++ w_Xo cs x tq h a u1_0 ++ w_Text cs tq u1_1 ++ w_Hist cs h a u1_2 ++ linesW cs a 18 u1_3) H := hP
  have hD : va_D A (w_Out cs o (vp_updL f (0 : Int32).toNatClampNeg r1.toInt64) ++ w_Xo cs x tq h a u1_0 ++ w_Text cs tq u1_1 ++ w_Hist cs h a u1_2 ++ linesW cs a 18 u1_3) := hD
  refine lv_goto (tgt := 18) hx hb dL_restore_9 (by decide) ?_
  refine lv_iconst (v := (0 : Int32)) hx hb dL_restore_18 (by decide) ?_
  refine W.widen (k := 2) (n := 12) (Nat.le_of_ble_eq_true rfl) (Nat.le_of_ble_eq_true rfl) (vx_ret ?_)
  exact W.iret (v := (0 : Int32)) hx hb hr (fun t ht hW => ⟨⟨(0 : Int32), (vp_updL f (0 : Int32).toNatClampNeg r1.toInt64, u1_0, u1_1, u1_2, u1_3), rfl, hw, by rw [ht]; exact hP, hD⟩, hS.F ht⟩) hS.2.2 dL_restore_19 hlocks
set_option maxHeartbeats 4000000 in
set_option maxRecDepth 100000 in
theorem c_L_restore (l : Launch) (hfl : l.stackTraces = false) (D : va_G) (cs : Nat → ClassId) (o : Nat) (x : Nat → Nat) (tq : Nat → Nat) (h : Nat → Nat) (a : Nat → Nat → Nat) (sz : Nat) (sa : Nat → Nat) (f : (Nat → Int64)) (S : XO) (tx : TS) (hs : HS) (Ls : (Nat → LnS)) (x1 : Int32) (Q : Int32 → (Nat → Int64) → XO → TS → HS → (Nat → LnS) → Prop) (hw : wp_L_restore f S tx hs Ls x1 Q) : vx_Met l yL_restore wsL_restore ({ frames := 8, cells := 2, slots := 12, locals := 123 } : Room) (va_Pc [.ref (x 0), .int x1, .ref o] (PX D cs (w_Out cs o f ++ w_Xo cs x tq h a S ++ w_Text cs tq tx ++ w_Hist cs h a hs ++ linesW cs a 18 Ls) sa sz)) (va_Qi (fun r (u : (Nat → Int64) × XO × TS × HS × (Nat → LnS)) => Q r u.1 u.2.1 u.2.2.1 u.2.2.2.1 u.2.2.2.2) (fun (u : (Nat → Int64) × XO × TS × HS × (Nat → LnS)) t => va_P D vwCl (w_Out cs o u.1 ++ w_Xo cs x tq h a u.2.1 ++ w_Text cs tq u.2.2.1 ++ w_Hist cs h a u.2.2.2.1 ++ linesW cs a 18 u.2.2.2.2) t.heap ∧ va_D (va_A (w_Out cs o f ++ w_Xo cs x tq h a S ++ w_Text cs tq tx ++ w_Hist cs h a hs ++ linesW cs a 18 Ls) sz) (w_Out cs o u.1 ++ w_Xo cs x tq h a u.2.1 ++ w_Text cs tq u.2.2.1 ++ w_Hist cs h a u.2.2.2.1 ++ linesW cs a 18 u.2.2.2.2)) (va_A (w_Out cs o f ++ w_Xo cs x tq h a S ++ w_Text cs tq tx ++ w_Hist cs h a hs ++ linesW cs a 18 Ls) sz)) (vx_X (fun (_ : Unit) => False) (fun _ _ _ => True) (va_A (w_Out cs o f ++ w_Xo cs x tq h a S ++ w_Text cs tq tx ++ w_Hist cs h a hs ++ linesW cs a 18 Ls) sz)) 2 12 (va_A (w_Out cs o f ++ w_Xo cs x tq h a S ++ w_Text cs tq tx ++ w_Hist cs h a hs ++ linesW cs a 18 Ls) sz) := by
  refine vx_ofWH (cc := cL_restore) (maxL := 4) (ret := (some .int)) (by decide) rfl ?_
  intro p e s m args below meth c s₁ B hml hv
  obtain ⟨rfl, ⟨hsz, hP, hKK, hD0⟩, hTW, hTZ⟩ := hv
  have hTab := vx_table (x := yL_restore) B (atoms_spec (ws := wsL_restore) B.pre _ List.mem_cons_self)
  have hC : MAt p s m _ meth c RL cL_restore 4 (some .int) wsL_restore D cs := ⟨B.exec, B.bytes, B.returns, hml, findClass_of_methodNamed B.named, atoms_spec (ws := wsL_restore) B.pre, B.notSynchronized, hKK⟩
  have hl := lv_entry ([.ref (x 0), .int x1, .ref o]) (n := 4) (Nat.le_of_ble_eq_true rfl)
  rw [lg_entry_eq]
  generalize (lg_sl ([.ref (x 0), .int x1, .ref o]) ++ List.replicate (4 - (lg_sl ([.ref (x 0), .int x1, .ref o])).length) Slot.unset).toArray = ls at hl ⊢
  subst hsz
  have hD := hD0.self (sz := s.heap.size)
  have hA : ∀ z : Nat, s.heap.size ≤ z → va_A (w_Out cs o f ++ w_Xo cs x tq h a S ++ w_Text cs tq tx ++ w_Hist cs h a hs ++ linesW cs a 18 Ls) s.heap.size z := fun z h => Or.inr h
  exact t_L_restore hC hfl hTab hTW hTZ o x tq h a f S tx hs Ls x1 Q hA hw s.heap [] hP hD va_S.rf ls hl

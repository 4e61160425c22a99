/-! From the law's entry to its loop. -/
theorem st_arr {args : Array Value} {s : State} {ty : FieldType} (h : (Cond.arrayClass ty).before args s = true) : ∃ cA : ClassId, ArrOfT s cA ty ∧ s.vm.findClass ("[" ++ ty.toString) = some cA := by
  obtain ⟨cA, kA, comp, hfind, hk, hkind⟩ := Cond.arrayClass_spec h
  exact ⟨cA, fun n z => ⟨fun k h => (by cases h), kA, hk, comp, hkind⟩, hfind⟩
theorem st_over {args : Array Value} {s : State} {C : String} (h : (Cond.arrayOver (.object C)).before args s = true) : ∃ cA : ClassId, ArrOfT s cA (.object C) ∧ va_RA s cA (.object C) := by
  obtain ⟨comp, c, k, h1, h2, h3, h4, h5⟩ := Cond.arrayOver_spec h
  exact ⟨c, fun N z => ⟨(fun k h => by cases h), k, h3, comp, h4⟩, k, comp, h3, h4, h1, h5⟩
theorem st_str {args : Array Value} {s : State} {own tx : String} {k : Nat} (h1 : (Cond.stringRef own k tx).before args s = true) (h2 : (Cond.exactly (.string own k) "java/lang/String").before args s = true) : ∃ a : Nat, vk_R own k tx a s := by
  obtain ⟨a, c, cell, kk, q1, -⟩ := Cond.exactly_spec (args := args) (first := s) (o := none) (s := s) (idx := []) (t := .string own k) (cls := "java/lang/String") h2
  exact ⟨a, vk_R.of h1 q1⟩
set_option maxHeartbeats 4000000 in
set_option maxRecDepth 100000 in
theorem st_TW {s : State} {b : Nat} (hts : ∀ w ∈ lw_tbl, w.before #[Value.ref b] s = true) (hq : ∀ c ∈ flatC (Jvm.Cond.and given_1 narrow_1), c.before #[Value.ref b] s = true) : ∃ sa : Nat → Nat, TW sa s := by
  have hs : ∀ n : Nat, n < 14 → ∃ a : Nat, vk_R RX3 (sx n).1 (sx n).2 a s := by
    intro n hn
    match n, hn with
    | 0, _ => exact st_str (hts (.stringRef RX3 55 "the text is full") (by decide +kernel)) (hq (.exactly (.string RX3 55) "java/lang/String") (by decide +kernel))
    | 1, _ => exact st_str (hts (.stringRef RX3 68 "the text is not a line") (by decide +kernel)) (hq (.exactly (.string RX3 68) "java/lang/String") (by decide +kernel))
    | 2, _ => exact st_str (hts (.stringRef RX3 133 "no such place") (by decide +kernel)) (hq (.exactly (.string RX3 133) "java/lang/String") (by decide +kernel))
    | 3, _ => exact st_str (hts (.stringRef RX3 176 "more digits than places") (by decide +kernel)) (hq (.exactly (.string RX3 176) "java/lang/String") (by decide +kernel))
    | 4, _ => exact st_str (hts (.stringRef RX3 184 "all tickets were drawn") (by decide +kernel)) (hq (.exactly (.string RX3 184) "java/lang/String") (by decide +kernel))
    | 5, _ => exact st_str (hts (.stringRef RX3 196 "no such counter, or none behind it") (by decide +kernel)) (hq (.exactly (.string RX3 196) "java/lang/String") (by decide +kernel))
    | 6, _ => exact st_str (hts (.stringRef RX3 207 "a counter can't be poured into itself") (by decide +kernel)) (hq (.exactly (.string RX3 207) "java/lang/String") (by decide +kernel))
    | 7, _ => exact st_str (hts (.stringRef RX3 216 "no state is remembered") (by decide +kernel)) (hq (.exactly (.string RX3 216) "java/lang/String") (by decide +kernel))
    | 8, _ => exact st_str (hts (.stringRef RX3 237 "not a script of so many commands") (by decide +kernel)) (hq (.exactly (.string RX3 237) "java/lang/String") (by decide +kernel))
    | 9, _ => exact st_str (hts (.stringRef RX3 254 "nothing has been saved there") (by decide +kernel)) (hq (.exactly (.string RX3 254) "java/lang/String") (by decide +kernel))
    | 10, _ => exact st_str (hts (.stringRef RX3 256 "an argument is out of its range") (by decide +kernel)) (hq (.exactly (.string RX3 256) "java/lang/String") (by decide +kernel))
    | 11, _ => exact st_str (hts (.stringRef RX3 261 "no such counter") (by decide +kernel)) (hq (.exactly (.string RX3 261) "java/lang/String") (by decide +kernel))
    | 12, _ => exact st_str (hts (.stringRef RX3 263 "no such ticket") (by decide +kernel)) (hq (.exactly (.string RX3 263) "java/lang/String") (by decide +kernel))
    | 13, _ => exact st_str (hts (.stringRef RX3 265 "no such save slot") (by decide +kernel)) (hq (.exactly (.string RX3 265) "java/lang/String") (by decide +kernel))
   
  have hs2 : ∀ n : Nat, ∃ a : Nat, n < 14 → vk_R RX3 (sx n).1 (sx n).2 a s := by
    intro n
    by_cases hn : n < 14
    · obtain ⟨a, ha⟩ := hs n hn
      exact ⟨a, fun _ => ha⟩
    · exact ⟨0, fun h => absurd h hn⟩
  obtain ⟨sa, hsa⟩ := Classical.axiomOfChoice hs2
  refine ⟨sa, hsa, va_Nw.of rfl (hts (.castable eISE eISE) (by decide +kernel)), va_Nw.of rfl (hts (.castable eIAE eIAE) (by decide +kernel)), va_Nw.of rfl (hts (.castable eIOB eIOB) (by decide +kernel)), ?_⟩
  exact ⟨va_Nc.of (hq (.not (.castable eISE eIAE)) (by decide +kernel)), va_Nc.of (hq (.not (.castable eISE eIOB)) (by decide +kernel)), va_Nc.of (hq (.not (.castable eIAE eISE)) (by decide +kernel)), va_Nc.of (hq (.not (.castable eIAE eIOB)) (by decide +kernel)), va_Nc.of (hq (.not (.castable eIOB eISE)) (by decide +kernel)), va_Nc.of (hq (.not (.castable eIOB eIAE)) (by decide +kernel)),
    va_Nw.of rfl (hts dcR (by decide +kernel)), va_Nw.of rfl (hts dcE (by decide +kernel)), va_Nw.of rfl (hts dcT (by decide +kernel))⟩
set_option maxHeartbeats 4000000 in
set_option maxRecDepth 100000 in
theorem st_TZ {s : State} {b : Nat} (hts : ∀ w ∈ lw_tbl, w.before #[Value.ref b] s = true) (hq : ∀ c ∈ flatC (Jvm.Cond.and given_1 narrow_1), c.before #[Value.ref b] s = true) : TZ (fun q : Nat => s.heap.size ≤ q) s s.heap := by
  have hi := hts (.initialized Bundle.tN) (by decide +kernel)
  exact ⟨vx_Zqof (hts (.laysStatic Bundle.tN "UNASSIGNED_STACK" Bundle.steD) (by decide +kernel)) hi (hq (.isRef (.static Bundle.tN "UNASSIGNED_STACK" Bundle.steD)) (by decide +kernel)) (fun a h => Nat.not_le.mpr h),
    vx_Zqof (hts (.laysStatic Bundle.tN "SUPPRESSED_SENTINEL" Bundle.listD) (by decide +kernel)) hi (hq (.isRef (.static Bundle.tN "SUPPRESSED_SENTINEL" Bundle.listD)) (by decide +kernel)) (fun a h => Nat.not_le.mpr h)⟩
set_option maxHeartbeats 4000000 in
set_option maxRecDepth 100000 in
theorem st_KK {s : State} {b : Nat} (hts : ∀ w ∈ lw_tbl, w.before #[Value.ref b] s = true) : ∃ (D : va_G) (cs : Nat → ClassId), KK D cs s := by
  obtain ⟨c0, iS0, hKn0⟩ := u_known (C := RX0) (T := TX0) (N := 3) (n := 3) hts inX0 (hts (.instantiable RX0 3) (by decide +kernel))
  obtain ⟨c1, iS1, hKn1⟩ := u_known (C := RX1) (T := TX1) (N := 13) (n := 13) hts inX1 (hts (.instantiable RX1 13) (by decide +kernel))
  obtain ⟨c2, iS2, hKn2⟩ := u_known (C := RX2) (T := TX2) (N := 2) (n := 2) hts inX2 (hts (.instantiable RX2 2) (by decide +kernel))
  obtain ⟨c3, iS3, hKn3⟩ := u_known (C := RX3) (T := TX3) (N := 7) (n := 7) hts inX3 (hts (.instantiable RX3 7) (by decide +kernel))
  obtain ⟨c4, iS4, hKn4⟩ := u_known (C := RX4) (T := TX4) (N := 11) (n := 11) hts inX4 (hts (.instantiable RX4 11) (by decide +kernel))
  have hover := hts (.arrayOver (.object RX1)) (by decide +kernel)
  obtain ⟨k0, a0, b0⟩ := st_arr (hts (.arrayClass .int) (by decide +kernel))
  obtain ⟨k1, a1, b1⟩ := st_arr (hts (.arrayClass .boolean) (by decide +kernel))
  obtain ⟨k2, a2, b2⟩ := st_arr (hts (.arrayClass .char) (by decide +kernel))
  obtain ⟨k3, a3, b3⟩ := st_arr (hts (.arrayClass .long) (by decide +kernel))
  obtain ⟨k4, a4, b4⟩ := st_over hover
  refine ⟨(fun k => match k with | 0 => c0 | 1 => c1 | 2 => c2 | 3 => c3 | _ => c4, fun k => match k with | 0 => iS0 | 1 => iS1 | 2 => iS2 | 3 => iS3 | _ => iS4), fun k => match k with | 0 => k0 | 1 => k1 | 2 => k2 | 3 => k3 | _ => k4, ⟨?_, ?_⟩, ?_⟩
  · intro k q hq
    match k, hq with
    | 0, hq => cases hq; exact hKn0
    | 1, hq => cases hq; exact hKn1
    | 2, hq => cases hq; exact hKn2
    | 3, hq => cases hq; exact hKn3
    | 4, hq => cases hq; exact hKn4
    | k + 5, hq => simp [vwCl] at hq
  · intro k q hq
    match k, hq with
    | 0, hq => cases hq; exact ⟨a0, b0⟩
    | 1, hq => cases hq; exact ⟨a1, b1⟩
    | 2, hq => cases hq; exact ⟨a2, b2⟩
    | 3, hq => cases hq; exact ⟨a3, b3⟩
    | 4, hq => cases hq; exact ⟨a4, b4⟩
    | k + 5, hq => simp [tyC] at hq
  · exact ⟨va_Nw.of rfl (hts (.methodLinkNest RX3 11 yX2_init RX3) (by decide +kernel)), va_Nw.of rfl (hts (.methodLinkNest RX1 66 yX3_cellOf RX3) (by decide +kernel)), va_Nw.of rfl (hts (.methodLinkNest RX2 53 yX3_cellOf RX3) (by decide +kernel)), va_AO.of hover⟩
set_option maxHeartbeats 8000000 in
set_option maxRecDepth 100000 in
theorem start_of (hG : GOAL) {p : Program} {e : Env} {s : State} {m : MethodId} {below : List Frame} {meth : Method} {c : Code} (l : Launch) (hfl : l.stackTraces = false) {b L : Nat} {xs : Nat → Int32} (hL : L ≤ 2048) (hx : p.tables.exec = Jvm.exec) (hb : c.code = code) (hr : meth.sig.returnType = ret) (hml : c.maxLocals = 8) (hown : s.vm.findClass RL = some m.cls) (hts : ∀ w ∈ lw_tbl, w.before #[Value.ref b] s = true) (hX : va_X b L xs s s.heap) (hbl : b < s.heap.size) (hlocks : meth.locks = false) (hgv : (Jvm.Cond.and given_1 narrow_1).before #[Value.ref b] s = true) : W p l e room_1 s m #[Value.ref b] below meth c s.heap [] 0 0 (lw_Z below #[Value.ref b] s) (entryFrame m ([Value.ref b] : List Value).toArray 8) := by
  have hq := flat_of_before _ hgv
  obtain ⟨sa, hTW⟩ := st_TW hts hq
  have hTZ := st_TZ hts hq
  obtain ⟨D, cs, hKK⟩ := st_KK hts
  have hts' : ∀ w ∈ wsL_law, w.before #[Value.ref b] s = true := fun w h => hts w (wsL_law_in w h)
  have hC : MAt p s m #[Value.ref b] meth c RL cL_law 8 ret wsL_law D cs := ⟨hx, hb, hr, hml, hown, hts', hlocks, hKK⟩
  have hK := hKK.1
  have hA : ∀ q : Nat, s.heap.size ≤ q → (fun q : Nat => s.heap.size ≤ q) q := fun _ h => h
  have hS : va_S (fun q : Nat => s.heap.size ≤ q) s.heap s.heap [] := va_S.rf
  have hP : va_P D vwCl [] s.heap := z_nilP
  have hD : va_D (fun q : Nat => s.heap.size ≤ q) [] := z_nilD
  have hl := lv_entry ([.ref b]) (n := 8) (Nat.le_of_ble_eq_true rfl)
  rw [lg_entry_eq]
  generalize (lg_sl ([.ref b]) ++ List.replicate (8 - (lg_sl ([.ref b])).length) Slot.unset).toArray = ls at hl ⊢
  have hl : lv_has ls 8 [(0, .ref b)] := hl
  refine va_new (ci := 3) (fs := [.null, .null, .null, .null, .null, .null, .null]) (C := RX3) (T := TX3) (N := 7) hx hb hts' inlX3 tyX3 tyX3_ok hown (hts (.classLink RL 8 RX3) (by decide +kernel)) (hts (.instantiable RX3 7) (by decide +kernel)) (hts (.initialized RX3) (by decide +kernel)) hK hP hD hS hA rfl (fun j hj => by match j, hj with | 0, _ => rfl | 1, _ => rfl | 2, _ => rfl | 3, _ => rfl | 4, _ => rfl | 5, _ => rfl | 6, _ => rfl) (Nat.le_of_ble_eq_true rfl) (Nat.le_of_ble_eq_true rfl) dL_law_0 (fun qx H hP hD hS => ?_)
  have hPx : va_P D vwCl ([(qx, .inr (3, [.null, .null, .null, .null, .null, .null, .null]))] ++ []) H := hP
  have hDx : va_D (fun q : Nat => s.heap.size ≤ q) ([(qx, .inr (3, [.null, .null, .null, .null, .null, .null, .null]))] ++ []) := hD
  refine lv_dup hx hb dL_law_3 rfl ?_
  have hPc := (z_app_P hPx).1
  have hDc := (z_app_D hDx).1
  have hFc := z_free hDx hS hA
  refine va_callv (va_runI (As := []) (rest := [.ref qx]) ⟨hx, hb, hml, hown, hts'⟩ (c_X3_init l D cs qx H.size) (cwI 0 hts' gL_law_X3_init rfl rfl rfl (hts (.initialized RX3) (by decide +kernel)) (hts (.methodLink RL 108 yX3_init) (by decide +kernel)) (hts (.instanceMethod yX3_init) (by decide +kernel)) rfl (by decide +kernel) ⟨Nat.le_of_ble_eq_true rfl, Nat.le_of_ble_eq_true rfl⟩) (PC_S hPc hDc hKK) rfl rfl hl.1 rfl (lv_room (Nat.le_of_ble_eq_true rfl)) dL_law_4 ⟨Nat.le_of_ble_eq_true rfl, Nat.le_of_ble_eq_true rfl⟩) hS (fun q _ h => hFc q h) hFc (fun u t9 H locs ht hvm hw hB hz1 hk1 hS => ?_)
  obtain ⟨x, tq, h, a⟩ := u
  obtain ⟨hP1, hD1, hq0⟩ := hB
  rw [ht] at hP1
  have hq0 : x 0 = qx := hq0
  subst hq0
  obtain ⟨hP, hD⟩ := z_join hPx hDx hk1 hFc hP1 hD1
  rw [List.append_nil] at hP hD
  refine lv_astore_n (lv' := [(1, .ref (x 0)), (0, .ref b)]) hx hb dL_law_7 rfl hl (by decide) rfl (fun ls hl => ?_)
  refine va_new (ci := 4) (fs := [.int 0, .null, .int 0, .null, .null, .null, .int 0, .null, .null, .null, .null]) (C := RX4) (T := TX4) (N := 11) hx hb hts' inlX4 tyX4 tyX4_ok hown (hts (.classLink RL 109 RX4) (by decide +kernel)) (hts (.instantiable RX4 11) (by decide +kernel)) (hts (.initialized RX4) (by decide +kernel)) hK hP hD hS hA rfl (fun j hj => by match j, hj with | 0, _ => rfl | 1, _ => rfl | 2, _ => rfl | 3, _ => rfl | 4, _ => rfl | 5, _ => rfl | 6, _ => rfl | 7, _ => rfl | 8, _ => rfl | 9, _ => rfl | 10, _ => rfl) (Nat.le_of_ble_eq_true rfl) (Nat.le_of_ble_eq_true rfl) dL_law_8 (fun qm H hP hD hS => ?_)
  have hPx := z_perm_P List.perm_append_comm hP
  have hDx := z_perm_D List.perm_append_comm hD
  refine lv_dup hx hb dL_law_11 rfl ?_
  have hPc := (z_app_P hPx).1
  have hDc := (z_app_D hDx).1
  have hFc := z_free hDx hS hA
  refine va_callv (va_runI (As := []) (rest := [.ref qm]) ⟨hx, hb, hml, hown, hts'⟩ (c_X4_init l D cs qm H.size _ hG) (cwI 0 hts' gL_law_X4_init rfl rfl rfl (hts (.initialized RX4) (by decide +kernel)) (hts (.methodLink RL 111 yX4_init) (by decide +kernel)) (hts (.instanceMethod yX4_init) (by decide +kernel)) rfl (by decide +kernel) ⟨Nat.le_of_ble_eq_true rfl, Nat.le_of_ble_eq_true rfl⟩) (PC_S hPc hDc hKK) rfl rfl hl.1 rfl (lv_room (Nat.le_of_ble_eq_true rfl)) dL_law_12 ⟨Nat.le_of_ble_eq_true rfl, Nat.le_of_ble_eq_true rfl⟩) hS (fun q _ h => hFc q h) hFc (fun u t9 H locs ht hvm hw hB hz1 hk1 hS => ?_)
  obtain ⟨mq, M⟩ := u
  obtain ⟨hP1, hD1, hq0⟩ := hB
  rw [ht] at hP1
  have hq0 : mq 0 = qm := hq0
  subst hq0
  obtain ⟨hP, hD⟩ := z_join hPx hDx hk1 hFc hP1 hD1
  refine lv_astore_n (lv' := [(2, .ref (mq 0)), (1, .ref (x 0)), (0, .ref b)]) hx hb dL_law_15 rfl hl (by decide) rfl (fun ls hl => ?_)
  refine lv_iconst (v := (1 : Int32)) hx hb dL_law_16 (by decide) ?_
  refine va_newa (atype := .long) (N' := 1) (a0 := (1, .inr (.inl (fun _ => (0 : Int64))))) hx hb (hts (.arrayClass .long) (by decide +kernel)) rfl hK hP hD hS hA (fun cA => rfl) (by decide) (by decide) (Nat.le_of_ble_eq_true rfl) (Nat.le_of_ble_eq_true rfl) (Nat.le_of_ble_eq_true rfl) dL_law_17 (fun o cA H hK1 hP hD hS => ?_)
  obtain rfl := z_c3 hK1
  have hperm : ((w_Mod cs mq M ++ (w_Xo cs x tq h a zX0 ++ w_Text cs tq zT0 ++ w_Hist cs h a (0, 0) ++ linesW cs a 18 (fun _ => zL1))) ++ [(o, .inl (cs 3, 1, .inr (.inl (fun _ => (0 : Int64)))))] : va_W).Perm (w_Mod cs mq M ++ w_Out cs o (fun _ => 0) ++ w_Xo cs x tq h a zX0 ++ w_Text cs tq zT0 ++ w_Hist cs h a (0, 0) ++ linesW cs a 18 (fun _ => zL1)) := by
    have h1 : ((w_Mod cs mq M ++ (w_Xo cs x tq h a zX0 ++ w_Text cs tq zT0 ++ w_Hist cs h a (0, 0) ++ linesW cs a 18 (fun _ => zL1))) ++ w_Out cs o (fun _ => 0) : va_W).Perm (w_Mod cs mq M ++ (w_Out cs o (fun _ => 0) ++ (w_Xo cs x tq h a zX0 ++ w_Text cs tq zT0 ++ w_Hist cs h a (0, 0) ++ linesW cs a 18 (fun _ => zL1)))) := by
      rw [List.append_assoc]
      exact List.Perm.append_left _ List.perm_append_comm
    refine h1.trans (List.Perm.of_eq ?_)
    simp only [List.append_assoc]
  have hP := z_perm_P hperm hP
  have hD := z_perm_D hperm hD
  refine lv_astore_n (lv' := [(3, .ref o), (2, .ref (mq 0)), (1, .ref (x 0)), (0, .ref b)]) hx hb dL_law_19 rfl hl (by decide) rfl (fun ls hl => ?_)
  refine lv_iconst (v := (0 : Int32)) hx hb dL_law_20 (by decide) ?_
  refine lv_istore (lv' := [(4, .int (0 : Int32)), (3, .ref o), (2, .ref (mq 0)), (1, .ref (x 0)), (0, .ref b)]) hx hb dL_law_21 hl (by decide) rfl (fun ls hl => ?_)
  refine W.widen (k := 1000 + 3 * 0) (n := 20000 + 18 * 0) (by decide) (by decide) ?_
  exact t_L_law hC hfl hTW hTZ hX hbl mq o x tq h a 600 M (fun _ => 0) zX0 zT0 (0, 0) (fun _ => zL1) 0 0 (by decide) (hw L xs hL) H _ hP hD hS ls (lv_sub hl [4, 3, 2, 1, 0] rfl)

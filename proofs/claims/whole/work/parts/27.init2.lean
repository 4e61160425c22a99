/-! History() -/
theorem zL1_ok : wp_X1_init zL0 (fun L => L = zL1) := by
  refine ⟨4, ?_⟩
  refine ⟨fun h => absurd h (by decide), fun _ => ⟨by unfold vp_in; decide, ?_⟩⟩
  refine ⟨fun h => absurd h (by decide), fun _ => ⟨by unfold vp_in; decide, ?_⟩⟩
  refine ⟨fun h => absurd h (by decide), fun _ => ⟨by unfold vp_in; decide, ?_⟩⟩
  exact ⟨fun _ => rfl, fun h => absurd (by decide) h⟩
abbrev w_HistI (cs : Nat → ClassId) (h : Nat → Nat) (a : Nat → Nat → Nat) (S : HS) : va_W :=
  [(h 0, .inr (0, [.ref (h 1), .int S.1, .int S.2])), (h 1, .inl (cs 4, 14, .inr (.inr (.inr (.inr (fun k => some (a k 0)))))))]
theorem vp_in_i14 {i : Nat} {x : Int32} (h : i < 14) (e : x = nI i) : vp_in x 14 := by rw [e]; exact vp_in_nI h (by decide)
theorem vp_in_i2 {i : Nat} {x : Int32} (h : i < 2) (e : x = nI i) : vp_in x 2 := by rw [e]; exact vp_in_nI h (by decide)
theorem linesW_succ {cs : Nat → ClassId} {a : Nat → Nat → Nat} {n : Nat} {Ls : Nat → LnS} : linesW cs a (n + 1) Ls = linesW cs a n Ls ++ w_Line cs (a n) (Ls n) := by
  unfold linesW
  rw [List.range_succ, List.flatMap_append, List.flatMap_singleton]
theorem linesW_congr {cs : Nat → ClassId} {a a' : Nat → Nat → Nat} {n : Nat} {Ls Ls' : Nat → LnS} (h : ∀ k, k < n → a k = a' k ∧ Ls k = Ls' k) : linesW cs a n Ls = linesW cs a' n Ls' := by
  unfold linesW
  rw [List.flatMap_def, List.flatMap_def]
  refine congrArg List.flatten (List.map_congr_left fun k hk => ?_)
  obtain ⟨h1, h2⟩ := h k (List.mem_range.mp hk)
  rw [h1, h2]
theorem h_X0_X0_init : ∀ w ∈ u_ws RX0 TX0 3, w ∈ wsX0_init := fun _ h => List.mem_cons_of_mem _ (List.mem_append_left _ (List.mem_append_right _ h))
theorem h_X1_X0_init : ∀ w ∈ u_ws RX1 TX1 13, w ∈ wsX0_init := fun _ h => List.mem_cons_of_mem _ (List.mem_append_right _ h)
set_option maxHeartbeats 4000000 in
set_option maxRecDepth 100000 in
theorem t_X0_init_15 {p : Program} {l : Launch} {e : Env} {s : State} {m : MethodId} {args : Array Value} {below : List Frame} {meth : Method} {c : Code} {D : va_G} {cs : Nat → ClassId} {A : Nat → Prop} (hC : MAt p s m args meth c RX0 cX0_init 2 none wsX0_init D cs) (h0 q1 : Nat) (hA : ∀ z : Nat, s.heap.size ≤ z → A z) : ∀ (n i : Nat) (x1 : Int32) (a : Nat → Nat → Nat), i + n = 14 → x1 = nI i → ∀ (H : Heap) (locs : List Loc), va_P D vwCl ([(h0, .inr (0, [.ref q1, .int 0, .int 0])), (q1, .inl (cs 4, 14, .inr (.inr (.inr (.inr (fun k => if k < i then some (a k 0) else none))))))] ++ linesW cs a i (fun _ => zL1)) H → va_D A ([(h0, .inr (0, [.ref q1, .int 0, .int 0])), (q1, .inl (cs 4, 14, .inr (.inr (.inr (.inr (fun k => if k < i then some (a k 0) else none))))))] ++ linesW cs a i (fun _ => zL1)) → va_S A s.heap H locs → ∀ ls : Array Slot, lv_has ls 2 [(0, .ref h0), (1, .int x1)] → W p l e ({ frames := 2, cells := 141, slots := 4704, locals := 34 } : Room) s m args below meth c H locs (1 + 10 * i) (14 + 335 * i) (MQ below (va_Qv (fun (u : (Nat → Nat) × (Nat → Nat → Nat)) => True) (fun (u : (Nat → Nat) × (Nat → Nat → Nat)) t => va_P D vwCl (w_HistI cs u.1 u.2 (0, 0) ++ linesW cs u.2 14 (fun _ => zL1)) t.heap ∧ va_D A (w_HistI cs u.1 u.2 (0, 0) ++ linesW cs u.2 14 (fun _ => zL1)) ∧ u.1 0 = h0) A) args s 141 4704 A) (F0 m 15 ls []) := by
  obtain ⟨hx, hb, hr, hml, hown, hts, hlocks, hKK⟩ := id hC
  have hK := hKK.1
  intro n
  induction n with
  | zero =>
    intro i x1 a hin ex1 H locs hP hD hS ls hl
    obtain rfl : i = 14 := by omega
    subst ex1
    refine lv_iload_n hx hb dX0_init_15 rfl (lv_at hl 1 rfl) ?_
    refine lv_bipush (v := (14 : Int32)) hx hb dX0_init_16 (by decide) ?_
    refine lv_icmp_ge (tgt := 40) hx hb dX0_init_18 (by decide) (fun _ => ?_) (fun c1 => absurd (by decide) c1)
    have e9 : va_at D vwCl (q1, .inl (cs 4, 14, .inr (.inr (.inr (.inr (fun k => some (a k 0))))))) H := by
      have h9 : H[q1]? = some (vp_cell (cs 4) (14, .inr (.inr (.inr (.inr (fun k => if k < 14 then some (a k 0) else none)))))) := hP 1 _ rfl
      have h8 : vp_cell (cs 4) (14, .inr (.inr (.inr (.inr (fun k => if k < 14 then some (a k 0) else none))))) = vp_cell (cs 4) (14, .inr (.inr (.inr (.inr (fun k => some (a k 0)))))) := by
        rw [vp_cell_q, vp_cell_q]
        unfold arrV
        congr 2
        funext j
        simp only [j.isLt, if_true]
      exact h9.trans (congrArg some h8)
    have hP : va_P D vwCl (w_HistI cs (z_q2 h0 q1) a (0, 0) ++ linesW cs a 14 (fun _ => zL1)) H := hP.set hD (p := 1) rfl e9 (fun _ _ => rfl)
    have hD : va_D A (w_HistI cs (z_q2 h0 q1) a (0, 0) ++ linesW cs a 14 (fun _ => zL1)) := hD.set (p := 1) rfl
    exact W.vret hx hb hr (fun t ht hW => ⟨⟨(z_q2 h0 q1, a), rfl, trivial, by rw [ht]; exact hP, hD, rfl⟩, hS.F ht⟩) hS.2.2 dX0_init_40 hlocks
  | succ n ih =>
    intro i x1 a hin ex1 H locs hP hD hS ls hl
    have hi : i < 14 := by omega
    refine lv_iload_n hx hb dX0_init_15 rfl (lv_at hl 1 rfl) ?_
    refine lv_bipush (v := (14 : Int32)) hx hb dX0_init_16 (by decide) ?_
    refine lv_icmp_ge (tgt := 40) hx hb dX0_init_18 (by decide) (fun c1 => absurd (show nI 14 ≤ nI i by rw [← ex1]; exact c1) (nI_ge hi (by decide))) (fun _ => ?_)
    refine lv_aload_n hx hb dX0_init_21 rfl (lv_at hl 0 rfl) ?_
    refine va_get (D := D) (ci := 0) (v := .ref q1) (C := RX0) (T := TX0) (N := 3) hx hb hts h_X0_X0_init hown hK hP 0 rfl rfl 0 (by decide) (z_w hts 5 rfl) (fun _ h9 => h9) rfl dX0_init_22 ?_
    refine lv_iload_n hx hb dX0_init_25 rfl (lv_at hl 1 rfl) ?_
    refine va_new (ci := 1) (fs := [.int 0, .int 0, .int 0, .int 0, .null, .null, .null, .null, .null, .null, .null, .null, .null]) (C := RX1) (T := TX1) (N := 13) hx hb hts h_X1_X0_init tyX1 tyX1_ok hown (z_w hts 4 rfl) (z_w hts 6 rfl) (z_w hts 7 rfl) hK hP hD hS hA rfl (fun j hj => by match j, hj with | 0, _ => rfl | 1, _ => rfl | 2, _ => rfl | 3, _ => rfl | 4, _ => rfl | 5, _ => rfl | 6, _ => rfl | 7, _ => rfl | 8, _ => rfl | 9, _ => rfl | 10, _ => rfl | 11, _ => rfl | 12, _ => rfl) (by show _ ≤ 141; omega) (by show _ ≤ 4704; omega) dX0_init_26 (fun qv H hP hD hS => ?_)
    refine lv_dup hx hb dX0_init_29 rfl ?_
    have hPx := z_perm_P List.perm_append_comm hP
    have hDx := z_perm_D List.perm_append_comm hD
    have hPc := (z_app_P hPx).1
    have hDc := (z_app_D hDx).1
    have hFc := z_free hDx hS hA
    refine va_callv (va_runI (As := []) (rest := [.ref qv, .int x1, .ref q1, ]) ⟨hx, hb, hml, hown, hts⟩ (c_X1_init l D cs qv H.size (fun L => L = zL1) zL1_ok) (cwI 0 hts gX0_init_X1_init rfl rfl rfl (z_w hts 7 rfl) (z_w hts 8 rfl) (z_w hts 9 rfl) rfl (by decide +kernel) ⟨Nat.le_of_ble_eq_true rfl, Nat.le_of_ble_eq_true rfl⟩) (PC_S hPc hDc hKK) rfl rfl hl.1 rfl (lv_room (Nat.le_of_ble_eq_true rfl)) dX0_init_30 ⟨by show _ ≤ 141; omega, by show _ ≤ 4704; omega⟩) hS (fun q _ h => hFc q h) hFc (fun u t H locs ht hvm hw hB hz1 hk1 hS => ?_)
    obtain ⟨q, L⟩ := u
    obtain rfl : L = zL1 := hw
    obtain ⟨hP1, hD1, hq0⟩ := hB
    rw [ht] at hP1
    have hq0 : q 0 = qv := hq0
    subst hq0
    obtain ⟨hP, hD⟩ := z_join hPx hDx hk1 hFc hP1 hD1
    refine va_astq hx hb hK hP hD hS 11 4 0 1 rfl rfl rfl rfl (vp_in_i14 hi ex1) dX0_init_33 (fun H locs hP hD hS => ?_)
    obtain ⟨x2, ex2⟩ : ∃ y : Int32, y = x1 + 1 := ⟨_, rfl⟩
    refine lv_iinc (v := x2) (lv' := [(1, .int x2), (0, .ref h0)]) hx hb dX0_init_34 hl (k := 1) rfl (by rw [ex2]; rfl) (by decide) rfl (fun ls hl => ?_)
    refine lv_goto (tgt := 15) hx hb dX0_init_37 (by decide) ?_
    have ei : x1.toNatClampNeg = i := by rw [ex1]; exact nI_clamp (by omega)
    rw [ei] at hP hD
    obtain ⟨a', ea'⟩ : ∃ z : Nat → Nat → Nat, z = va_up a i q := ⟨_, rfl⟩
    have ef : va_up (fun k => if k < i then some (a k 0) else none) i (some (q 0)) = (fun k => if k < i + 1 then some (a' k 0) else none) := by
      funext k
      rw [ea']
      unfold va_up
      by_cases hk : k = i
      · subst hk
        simp
      · simp only [if_neg hk]
        by_cases hk2 : k < i
        · rw [if_pos hk2, if_pos (by omega)]
        · rw [if_neg hk2, if_neg (by omega)]
    have hlast : linesW cs a' (i + 1) (fun _ => zL1) = linesW cs a i (fun _ => zL1) ++ w_Line cs q zL1 := by
      rw [linesW_succ, linesW_congr (a' := a) (Ls' := fun _ => zL1) (fun k hk => ⟨by rw [ea']; exact if_neg (by omega), rfl⟩)]
      rw [show a' i = q by rw [ea']; exact if_pos rfl]
    have hperm : ((w_Line cs q zL1 ++ ([(h0, .inr (0, [.ref q1, .int 0, .int 0])), (q1, .inl (cs 4, 14, .inr (.inr (.inr (.inr (va_up (fun k => if k < i then some (a k 0) else none) i (some (q 0))))))))] ++ linesW cs a i (fun _ => zL1))) : va_W).Perm ([(h0, .inr (0, [.ref q1, .int 0, .int 0])), (q1, .inl (cs 4, 14, .inr (.inr (.inr (.inr (fun k => if k < (i + 1) then some (a' k 0) else none))))))] ++ linesW cs a' (i + 1) (fun _ => zL1)) := by
      rw [hlast, ef]
      exact List.perm_append_comm.trans (List.Perm.of_eq (List.append_assoc _ _ _))
    have hP := z_perm_P hperm hP
    have hD := z_perm_D hperm hD
    exact ih (i + 1) x2 a' (by omega) (by rw [ex2, ex1]; exact nI_1 i) _ _ hP hD hS ls (lv_sub hl [1, 0] rfl)
set_option maxHeartbeats 4000000 in
set_option maxRecDepth 100000 in
theorem c_X0_init (l : Launch) (D : va_G) (cs : Nat → ClassId) (h0 : Nat) (sz : Nat) : Met l yX0_init wsX0_init ({ frames := 2, cells := 141, slots := 4704, locals := 34 } : Room) (va_Pc [.ref h0] (PC D cs ([(h0, .inr (0, [.null, .int 0, .int 0]))]) sz)) (va_Qv (fun (u : (Nat → Nat) × (Nat → Nat → Nat)) => True) (fun (u : (Nat → Nat) × (Nat → Nat → Nat)) t => va_P D vwCl (w_HistI cs u.1 u.2 (0, 0) ++ linesW cs u.2 14 (fun _ => zL1)) t.heap ∧ va_D (va_A ([(h0, .inr (0, [.null, .int 0, .int 0]))]) sz) (w_HistI cs u.1 u.2 (0, 0) ++ linesW cs u.2 14 (fun _ => zL1)) ∧ u.1 0 = h0) (va_A ([(h0, .inr (0, [.null, .int 0, .int 0]))]) sz)) 141 4704 (va_A ([(h0, .inr (0, [.null, .int 0, .int 0]))]) sz) := by
  refine Met.ofW (cc := cX0_init) (maxL := 2) (ret := none) (by decide) rfl ?_
  intro p e s m args below meth c s₁ B hml hv
  obtain ⟨rfl, hsz, hP, hKK, hD0⟩ := hv
  have hC : MAt p s m _ meth c RX0 cX0_init 2 none wsX0_init D cs := ⟨B.exec, B.bytes, B.returns, hml, findClass_of_methodNamed B.named, atoms_spec (ws := wsX0_init) B.pre, B.notSynchronized, hKK⟩
  have hin : meth.name = "<init>" := (name_of_methodNamed B.named B.method).1
  obtain ⟨hx, hb, hr, hml, hown, hts, hlocks, -⟩ := id hC
  have hK := hKK.1
  have hl := lv_entry ([.ref h0]) (n := 2) (Nat.le_of_ble_eq_true rfl)
  rw [lg_entry_eq]
  generalize (lg_sl ([.ref h0]) ++ List.replicate (2 - (lg_sl ([.ref h0])).length) Slot.unset).toArray = ls at hl ⊢
  have hl : lv_has ls 2 [(0, .ref h0)] := hl
  subst hsz
  have hD := hD0.self (sz := s.heap.size)
  generalize hAe : va_A ([(h0, .inr (0, [.null, .int 0, .int 0]))]) s.heap.size = A at hD ⊢
  have hA : ∀ z : Nat, s.heap.size ≤ z → A z := fun z h => by rw [← hAe]; exact Or.inr h
  have hS : va_S A s.heap s.heap [] := va_S.rf
  have hP : va_P D vwCl ([(h0, .inr (0, [.null, .int 0, .int 0]))]) s.heap := hP
  refine lv_aload_n hx hb dX0_init_0 rfl (lv_at hl 0 rfl) ?_
  refine W.objInit hx hb hown (z_w hts 1 rfl) (z_w hts 2 rfl) (z_w hts 3 rfl) rfl (by rw [hml]; exact hl.1) rfl dX0_init_1 (Nat.le_of_ble_eq_true rfl) (Nat.le_of_ble_eq_true rfl) ?_
  refine W.eq (g2 := F0 m 4 ls []) rfl ?_
  refine lv_aload_n hx hb dX0_init_4 rfl (lv_at hl 0 rfl) ?_
  refine lv_bipush (v := (14 : Int32)) hx hb dX0_init_5 (by decide) ?_
  refine va_newq (N' := 14) hx hb hown (z_w hts 4 rfl) hKK.2.2.2.2 hK hP hD hS hA (by decide) (by decide) (Nat.le_of_ble_eq_true rfl) (Nat.le_of_ble_eq_true rfl) (Nat.le_of_ble_eq_true rfl) dX0_init_7 (fun q1 cA H hK1 hP hD hS => ?_)
  obtain rfl := z_c4 hK1
  have hP : va_P D vwCl ([(h0, .inr (0, [.null, .int 0, .int 0])), (q1, .inl (cs 4, 14, .inr (.inr (.inr (.inr (fun _ => none))))))]) H := hP
  have hD : va_D A ([(h0, .inr (0, [.null, .int 0, .int 0])), (q1, .inl (cs 4, 14, .inr (.inr (.inr (.inr (fun _ => none))))))]) := hD
  refine va_putF (D := D) (ci := 0) (v := .ref q1) (ty := .array (.object "LateCarries$Line")) (C := RX0) (T := TX0) (N := 3) hx hb hts h_X0_X0_init tyX0 tyX0_ok nmX0 hown hK hP hD hS 0 rfl rfl 0 (by decide) (z_w hts 5 rfl) (fun _ h9 => h9) rfl hin rfl (by decide +kernel) rfl rfl (Nat.le_of_ble_eq_true rfl) dX0_init_10 (fun H locs hP hD hS => ?_)
  refine lv_iconst (v := (0 : Int32)) hx hb dX0_init_13 (by decide) ?_
  refine lv_istore_n (lv' := [(1, .int (0 : Int32)), (0, .ref h0)]) hx hb dX0_init_14 rfl hl (by decide) rfl (fun ls hl => ?_)
  have e0 : (fun k : Nat => if k < 0 then some ((fun _ _ => 0 : Nat → Nat → Nat) k 0) else none) = (fun _ => none) := by
    funext k
    exact if_neg (Nat.not_lt_zero k)
  have hP : va_P D vwCl ([(h0, .inr (0, [.ref q1, .int 0, .int 0])), (q1, .inl (cs 4, 14, .inr (.inr (.inr (.inr (fun _ => none))))))] ++ linesW cs (fun _ _ => 0) 0 (fun _ => zL1)) H := hP
  have hD : va_D A ([(h0, .inr (0, [.ref q1, .int 0, .int 0])), (q1, .inl (cs 4, 14, .inr (.inr (.inr (.inr (fun _ => none))))))] ++ linesW cs (fun _ _ => 0) 0 (fun _ => zL1)) := hD
  rw [← e0] at hP hD
  exact t_X0_init_15 hC h0 q1 hA 14 0 0 (fun _ _ => 0) rfl rfl H _ hP hD hS ls (lv_sub hl [1, 0] rfl)


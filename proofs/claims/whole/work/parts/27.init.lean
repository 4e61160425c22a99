/-! What constructors make. -/
def z_q2 (a b : Nat) : Nat → Nat := fun k => match k with | 0 => a | _ => b
def z_q9 (a b c d e f g h i : Nat) : Nat → Nat := fun k => match k with | 0 => a | 1 => b | 2 => c | 3 => d | 4 => e | 5 => f | 6 => g | 7 => h | _ => i
def z_q10 (a b c d e f g h i j : Nat) : Nat → Nat := fun k => match k with | 0 => a | 1 => b | 2 => c | 3 => d | 4 => e | 5 => f | 6 => g | 7 => h | 8 => i | _ => j
section ZCL
variable {D : va_G} {cl : List vw_C} {cs : Nat → ClassId} {cA : ClassId} {U : State}
theorem z_c0 (h : va_K D cl (tyC cs ++ [(cA, .int)]) U) : cA = cs 0 := Option.some.inj ((h.2 5 (cA, .int) rfl).2.symm.trans (h.2 0 (cs 0, .int) rfl).2)
theorem z_c1 (h : va_K D cl (tyC cs ++ [(cA, .boolean)]) U) : cA = cs 1 := Option.some.inj ((h.2 5 (cA, .boolean) rfl).2.symm.trans (h.2 1 (cs 1, .boolean) rfl).2)
theorem z_c2 (h : va_K D cl (tyC cs ++ [(cA, .char)]) U) : cA = cs 2 := Option.some.inj ((h.2 5 (cA, .char) rfl).2.symm.trans (h.2 2 (cs 2, .char) rfl).2)
theorem z_c3 (h : va_K D cl (tyC cs ++ [(cA, .long)]) U) : cA = cs 3 := Option.some.inj ((h.2 5 (cA, .long) rfl).2.symm.trans (h.2 3 (cs 3, .long) rfl).2)
theorem z_c4 (h : va_K D cl (tyC cs ++ [(cA, .object RX1)]) U) : cA = cs 4 := by
  obtain ⟨-, kA, comp, -, -, -, h1⟩ := h.2 5 (cA, .object RX1) rfl
  obtain ⟨-, kB, comp', -, -, -, h2⟩ := h.2 4 (cs 4, .object RX1) rfl
  exact Option.some.inj (h1.symm.trans h2)
end ZCL
theorem h_X2_X2_init : ∀ w ∈ u_ws RX2 TX2 2, w ∈ wsX2_init := fun _ h => List.mem_cons_of_mem _ (List.mem_append_right _ h)
set_option maxHeartbeats 4000000 in
set_option maxRecDepth 100000 in
theorem t_X2_init {p : Program} {l : Launch} {e : Env} {s : State} {m : MethodId} {args : Array Value} {below : List Frame} {meth : Method} {c : Code} {D : va_G} {cs : Nat → ClassId} {A : Nat → Prop} (hC : MAt p s m args meth c RX2 cX2_init 1 none wsX2_init D cs) (q : Nat → Nat) {h0 : Nat} (hq0 : q 0 = h0) (tx : TS) (Q : TS → Prop) (hA : ∀ z : Nat, s.heap.size ≤ z → A z) (hw : wp_X2_init tx Q) (H : Heap) (locs : List Loc) (hP : va_P D vwCl (w_Text cs q tx) H) (hD : va_D A (w_Text cs q tx)) (hS : va_S A s.heap H locs) (ls : Array Slot) (hl : lv_has ls 1 [(0, .ref (q 0))]) : W p l e ({ frames := 1, cells := 1, slots := 100, locals := 13 } : Room) s m args below meth c H locs 1 100 (MQ below (va_Qv (fun (u : (Nat → Nat) × TS) => Q u.2) (fun (u : (Nat → Nat) × TS) t => va_P D vwCl (w_Text cs u.1 u.2) t.heap ∧ va_D A (w_Text cs u.1 u.2) ∧ u.1 0 = h0) A) args s 1 100 A) (F0 m 12 ls []) := by
  obtain ⟨hx, hb, hr, hml, hown, hts, hlocks, hKK⟩ := id hC
  have hK := hKK.1
  exact W.vret hx hb hr (fun t ht hW => ⟨⟨(q, tx), rfl, hw, by rw [ht]; exact hP, hD, hq0⟩, hS.F ht⟩) hS.2.2 dX2_init_12 hlocks
set_option maxHeartbeats 4000000 in
set_option maxRecDepth 100000 in
theorem c_X2_init (l : Launch) (D : va_G) (cs : Nat → ClassId) (h0 : Nat) (sz : Nat) (Q : TS → Prop) (hw : wp_X2_init zT0 Q) : Met l yX2_init wsX2_init ({ frames := 1, cells := 1, slots := 100, locals := 13 } : Room) (va_Pc [.ref h0] (PC D cs ([(h0, .inr (2, [.null, .int 0]))]) sz)) (va_Qv (fun (u : (Nat → Nat) × TS) => Q u.2) (fun (u : (Nat → Nat) × TS) t => va_P D vwCl (w_Text cs u.1 u.2) t.heap ∧ va_D (va_A ([(h0, .inr (2, [.null, .int 0]))]) sz) (w_Text cs u.1 u.2) ∧ u.1 0 = h0) (va_A ([(h0, .inr (2, [.null, .int 0]))]) sz)) 1 100 (va_A ([(h0, .inr (2, [.null, .int 0]))]) sz) := by
  refine Met.ofW (cc := cX2_init) (maxL := 1) (ret := none) (by decide) rfl ?_
  intro p e s m args below meth c s₁ B hml hv
  obtain ⟨rfl, hsz, hP, hKK, hD0⟩ := hv
  have hC : MAt p s m _ meth c RX2 cX2_init 1 none wsX2_init D cs := ⟨B.exec, B.bytes, B.returns, hml, findClass_of_methodNamed B.named, atoms_spec (ws := wsX2_init) B.pre, B.notSynchronized, hKK⟩
  have hin : meth.name = "<init>" := (name_of_methodNamed B.named B.method).1
  obtain ⟨hx, hb, hr, hml, hown, hts, hlocks, -⟩ := id hC
  have hK := hKK.1
  have hl := lv_entry ([.ref h0]) (n := 1) (Nat.le_of_ble_eq_true rfl)
  rw [lg_entry_eq]
  generalize (lg_sl ([.ref h0]) ++ List.replicate (1 - (lg_sl ([.ref h0])).length) Slot.unset).toArray = ls at hl ⊢
  have hl : lv_has ls 1 [(0, .ref h0)] := hl
  subst hsz
  have hD := hD0.self (sz := s.heap.size)
  generalize hAe : va_A ([(h0, .inr (2, [.null, .int 0]))]) s.heap.size = A at hD ⊢
  have hA : ∀ z : Nat, s.heap.size ≤ z → A z := fun z h => by rw [← hAe]; exact Or.inr h
  have hS : va_S A s.heap s.heap [] := va_S.rf
  have hP : va_P D vwCl ([(h0, .inr (2, [.null, .int 0]))]) s.heap := hP
  refine lv_aload_n hx hb dX2_init_0 rfl (lv_at hl 0 rfl) ?_
  refine W.objInit hx hb hown (z_w hts 1 rfl) (z_w hts 2 rfl) (z_w hts 3 rfl) rfl (by rw [hml]; exact hl.1) rfl dX2_init_1 (Nat.le_of_ble_eq_true rfl) (Nat.le_of_ble_eq_true rfl) ?_
  refine W.eq (g2 := F0 m 4 ls []) rfl ?_
  refine lv_aload_n hx hb dX2_init_4 rfl (lv_at hl 0 rfl) ?_
  refine lv_bipush (v := (100 : Int32)) hx hb dX2_init_5 (by decide) ?_
  refine va_newa (atype := .char) (N' := 100) (a0 := (100, .inl (fun _ => (0 : Int32)))) hx hb (z_w hts 4 rfl) rfl hK hP hD hS hA (fun cA => rfl) (by decide) (by decide) (Nat.le_of_ble_eq_true rfl) (Nat.le_of_ble_eq_true rfl) (Nat.le_of_ble_eq_true rfl) dX2_init_7 (fun q1 cA H hK1 hP hD hS => ?_)
  obtain rfl := z_c2 hK1
  have hP : va_P D vwCl ([(h0, .inr (2, [.null, .int 0])), (q1, .inl (cs 2, 100, .inl (fun _ => (0 : Int32))))]) H := hP
  have hD : va_D A ([(h0, .inr (2, [.null, .int 0])), (q1, .inl (cs 2, 100, .inl (fun _ => (0 : Int32))))]) := hD
  refine va_putF (D := D) (ci := 2) (v := .ref q1) (ty := .array .char) (C := RX2) (T := TX2) (N := 2) hx hb hts (h_X2_X2_init) tyX2 tyX2_ok nmX2 hown hK hP hD hS 0 rfl rfl 0 (by decide) (z_w hts 5 rfl) (fun _ h9 => h9) rfl hin rfl (by decide +kernel) rfl rfl (Nat.le_of_ble_eq_true rfl) dX2_init_9 (fun H locs hP hD hS => ?_)
  have hP : va_P D vwCl ([(h0, .inr (2, [.ref q1, .int 0])), (q1, .inl (cs 2, 100, .inl (fun _ => (0 : Int32))))]) H := hP
  have hD : va_D A ([(h0, .inr (2, [.ref q1, .int 0])), (q1, .inl (cs 2, 100, .inl (fun _ => (0 : Int32))))]) := hD
  have hP : va_P D vwCl (w_Text cs (z_q2 h0 q1) zT0) H := hP
  have hD : va_D A (w_Text cs (z_q2 h0 q1) zT0) := hD
  exact t_X2_init hC (z_q2 h0 q1) rfl zT0 Q hA hw H _ hP hD hS ls hl
theorem h_X1_X1_init : ∀ w ∈ u_ws RX1 TX1 13, w ∈ wsX1_init := fun _ h => List.mem_cons_of_mem _ (List.mem_append_right _ h)
set_option maxHeartbeats 4000000 in
set_option maxRecDepth 100000 in
theorem t_X1_init_88 {p : Program} {l : Launch} {e : Env} {s : State} {m : MethodId} {args : Array Value} {below : List Frame} {meth : Method} {c : Code} {D : va_G} {cs : Nat → ClassId} {A : Nat → Prop} (hC : MAt p s m args meth c RX1 cX1_init 2 none wsX1_init D cs) (q : Nat → Nat) {h0 : Nat} (hq0 : q 0 = h0) (Q : LnS → Prop) (hA : ∀ q : Nat, s.heap.size ≤ q → A q) : ∀ (n : Nat) (L : LnS) (x1 : Int32), wl_X1_init_88 Q n L x1 → ∀ (H : Heap) (locs : List Loc), va_P D vwCl (w_Line cs q L) H → va_D A (w_Line cs q L) → va_S A s.heap H locs → ∀ ls : Array Slot, lv_has ls 2 [(0, .ref (q 0)), (1, .int x1)] → W p l e ({ frames := 1, cells := 9, slots := 322, locals := 13 } : Room) s m args below meth c H locs 9 322 (MQ below (va_Qv (fun (u : (Nat → Nat) × LnS) => Q u.2) (fun (u : (Nat → Nat) × LnS) t => va_P D vwCl (w_Line cs u.1 u.2) t.heap ∧ va_D A (w_Line cs u.1 u.2) ∧ u.1 0 = h0) A) args s 9 322 A) (F0 m 88 ls []) := by
  obtain ⟨hx, hb, hr, hml, hown, hts, hlocks, hKK⟩ := id hC
  have hK := hKK.1
  intro n
  induction n with
  | zero =>
    intro L x1 hw
    exact False.elim hw
  | succ n ih =>
    intro L x1 hw H locs hP hD hS ls hl
    refine lv_iload_n hx hb dX1_init_88 rfl (lv_at hl 1 rfl) ?_
    refine lv_iconst (v := (3 : Int32)) hx hb dX1_init_89 (by decide) ?_
    refine lv_icmp_ge (tgt := 106) hx hb dX1_init_90 (by decide) (fun c1 => ?_) (fun c1 => ?_)
    · have hw := hw.1 c1
      exact W.vret hx hb hr (fun t ht hW => ⟨⟨(q, L), rfl, hw, by rw [ht]; exact hP, hD, hq0⟩, hS.F ht⟩) hS.2.2 dX1_init_106 hlocks
    · have hw := hw.2 c1
      refine lv_aload_n hx hb dX1_init_93 rfl (lv_at hl 0 rfl) ?_
      refine va_get (D := D) (ci := 1) (v := .ref (q 1)) (C := RX1) (T := TX1) (N := 13) hx hb hts (h_X1_X1_init) hown hK hP 0 rfl rfl 4 (by decide) (z_w hts 5 rfl) (fun _ h9 => h9) rfl dX1_init_94 ?_
      refine lv_iload_n hx hb dX1_init_97 rfl (lv_at hl 1 rfl) ?_
      refine lv_iconst (v := (4 : Int32)) hx hb dX1_init_98 (by decide) ?_
      obtain ⟨h2, hw⟩ := hw
      refine va_iast hx hb hK hP hD hS 1 0 rfl rfl h2 dX1_init_99 (fun H locs hP hD hS => ?_)
      have hP : va_P D vwCl (w_Line cs q (lsR L 1 (upd (L.1 1) x1.toNatClampNeg (4 : Int32)))) H := hP
      have hD : va_D A (w_Line cs q (lsR L 1 (upd (L.1 1) x1.toNatClampNeg (4 : Int32)))) := hD
      refine lv_iinc (v := x1 + 1) (lv' := [(1, .int (x1 + 1)), (0, .ref (q 0))]) hx hb dX1_init_100 hl (k := 1) rfl rfl (by decide) rfl (fun ls hl => ?_)
      refine lv_goto (tgt := 88) hx hb dX1_init_103 (by decide) ?_
      exact ih _ _ hw _ _ hP hD hS ls (lv_sub hl [1, 0] rfl)
set_option maxHeartbeats 4000000 in
set_option maxRecDepth 100000 in
theorem t_X1_init {p : Program} {l : Launch} {e : Env} {s : State} {m : MethodId} {args : Array Value} {below : List Frame} {meth : Method} {c : Code} {D : va_G} {cs : Nat → ClassId} {A : Nat → Prop} (hC : MAt p s m args meth c RX1 cX1_init 2 none wsX1_init D cs) (q : Nat → Nat) {h0 : Nat} (hq0 : q 0 = h0) (L : LnS) (Q : LnS → Prop) (hA : ∀ z : Nat, s.heap.size ≤ z → A z) (hw : wp_X1_init L Q) (H : Heap) (locs : List Loc) (hP : va_P D vwCl (w_Line cs q L) H) (hD : va_D A (w_Line cs q L)) (hS : va_S A s.heap H locs) (ls : Array Slot) (hl : lv_has ls 2 [(0, .ref (q 0))]) : W p l e ({ frames := 1, cells := 9, slots := 322, locals := 13 } : Room) s m args below meth c H locs 9 322 (MQ below (va_Qv (fun (u : (Nat → Nat) × LnS) => Q u.2) (fun (u : (Nat → Nat) × LnS) t => va_P D vwCl (w_Line cs u.1 u.2) t.heap ∧ va_D A (w_Line cs u.1 u.2) ∧ u.1 0 = h0) A) args s 9 322 A) (F0 m 76 ls []) := by
  obtain ⟨hx, hb, hr, hml, hown, hts, hlocks, hKK⟩ := id hC
  have hK := hKK.1
  refine lv_aload_n hx hb dX1_init_76 rfl (lv_at hl 0 rfl) ?_
  refine lv_iconst (v := (3 : Int32)) hx hb dX1_init_77 (by decide) ?_
  refine va_put (D := D) (ci := 1) (v := .int (3 : Int32)) (ty := .int) (C := RX1) (T := TX1) (N := 13) hx hb hts (h_X1_X1_init) tyX1 tyX1_ok nmX1 hown hK hP hD hS 0 rfl rfl 0 (by decide) (z_w hts 16 rfl) (fun _ h9 => h9) rfl (by decide +kernel) rfl rfl (Nat.le_of_ble_eq_true rfl) dX1_init_78 (fun H locs hP hD hS => ?_)
  have hP : va_P D vwCl (w_Line cs q (lsS L 0 0 (3 : Int32))) H := hP
  have hD : va_D A (w_Line cs q (lsS L 0 0 (3 : Int32))) := hD
  refine lv_aload_n hx hb dX1_init_81 rfl (lv_at hl 0 rfl) ?_
  refine lv_iconst (v := (1 : Int32)) hx hb dX1_init_82 (by decide) ?_
  refine va_put (D := D) (ci := 1) (v := .int (1 : Int32)) (ty := .int) (C := RX1) (T := TX1) (N := 13) hx hb hts (h_X1_X1_init) tyX1 tyX1_ok nmX1 hown hK hP hD hS 0 rfl rfl 1 (by decide) (z_w hts 17 rfl) (fun _ h9 => h9) rfl (by decide +kernel) rfl rfl (Nat.le_of_ble_eq_true rfl) dX1_init_83 (fun H locs hP hD hS => ?_)
  have hP : va_P D vwCl (w_Line cs q (lsS (lsS L 0 0 (3 : Int32)) 0 1 (1 : Int32))) H := hP
  have hD : va_D A (w_Line cs q (lsS (lsS L 0 0 (3 : Int32)) 0 1 (1 : Int32))) := hD
  refine lv_iconst (v := (0 : Int32)) hx hb dX1_init_86 (by decide) ?_
  refine lv_istore_n (lv' := [(1, .int (0 : Int32)), (0, .ref (q 0))]) hx hb dX1_init_87 rfl hl (by decide) rfl (fun ls hl => ?_)
  obtain ⟨n3, hw⟩ := hw
  exact t_X1_init_88 hC q hq0 _ hA n3 _ _ hw H locs hP hD hS ls (lv_sub hl [1, 0] rfl)
set_option maxHeartbeats 4000000 in
set_option maxRecDepth 100000 in
theorem c_X1_init (l : Launch) (D : va_G) (cs : Nat → ClassId) (h0 : Nat) (sz : Nat) (Q : LnS → Prop) (hw : wp_X1_init zL0 Q) : Met l yX1_init wsX1_init ({ frames := 1, cells := 9, slots := 322, locals := 13 } : Room) (va_Pc [.ref h0] (PC D cs ([(h0, .inr (1, [.int 0, .int 0, .int 0, .int 0, .null, .null, .null, .null, .null, .null, .null, .null, .null]))]) sz)) (va_Qv (fun (u : (Nat → Nat) × LnS) => Q u.2) (fun (u : (Nat → Nat) × LnS) t => va_P D vwCl (w_Line cs u.1 u.2) t.heap ∧ va_D (va_A ([(h0, .inr (1, [.int 0, .int 0, .int 0, .int 0, .null, .null, .null, .null, .null, .null, .null, .null, .null]))]) sz) (w_Line cs u.1 u.2) ∧ u.1 0 = h0) (va_A ([(h0, .inr (1, [.int 0, .int 0, .int 0, .int 0, .null, .null, .null, .null, .null, .null, .null, .null, .null]))]) sz)) 9 322 (va_A ([(h0, .inr (1, [.int 0, .int 0, .int 0, .int 0, .null, .null, .null, .null, .null, .null, .null, .null, .null]))]) sz) := by
  refine Met.ofW (cc := cX1_init) (maxL := 2) (ret := none) (by decide) rfl ?_
  intro p e s m args below meth c s₁ B hml hv
  obtain ⟨rfl, hsz, hP, hKK, hD0⟩ := hv
  have hC : MAt p s m _ meth c RX1 cX1_init 2 none wsX1_init D cs := ⟨B.exec, B.bytes, B.returns, hml, findClass_of_methodNamed B.named, atoms_spec (ws := wsX1_init) B.pre, B.notSynchronized, hKK⟩
  have hin : meth.name = "<init>" := (name_of_methodNamed B.named B.method).1
  obtain ⟨hx, hb, hr, hml, hown, hts, hlocks, -⟩ := id hC
  have hK := hKK.1
  have hl := lv_entry ([.ref h0]) (n := 2) (Nat.le_of_ble_eq_true rfl)
  rw [lg_entry_eq]
  generalize (lg_sl ([.ref h0]) ++ List.replicate (2 - (lg_sl ([.ref h0])).length) Slot.unset).toArray = ls at hl ⊢
  have hl : lv_has ls 2 [(0, .ref h0)] := hl
  subst hsz
  have hD := hD0.self (sz := s.heap.size)
  generalize hAe : va_A ([(h0, .inr (1, [.int 0, .int 0, .int 0, .int 0, .null, .null, .null, .null, .null, .null, .null, .null, .null]))]) s.heap.size = A at hD ⊢
  have hA : ∀ z : Nat, s.heap.size ≤ z → A z := fun z h => by rw [← hAe]; exact Or.inr h
  have hS : va_S A s.heap s.heap [] := va_S.rf
  have hP : va_P D vwCl ([(h0, .inr (1, [.int 0, .int 0, .int 0, .int 0, .null, .null, .null, .null, .null, .null, .null, .null, .null]))]) s.heap := hP
  refine lv_aload_n hx hb dX1_init_0 rfl (lv_at hl 0 rfl) ?_
  refine W.objInit hx hb hown (z_w hts 1 rfl) (z_w hts 2 rfl) (z_w hts 3 rfl) rfl (by rw [hml]; exact hl.1) rfl dX1_init_1 (Nat.le_of_ble_eq_true rfl) (Nat.le_of_ble_eq_true rfl) ?_
  refine W.eq (g2 := F0 m 4 ls []) rfl ?_
  refine lv_aload_n hx hb dX1_init_4 rfl (lv_at hl 0 rfl) ?_
  refine lv_bipush (v := (6 : Int32)) hx hb dX1_init_5 (by decide) ?_
  refine va_newa (atype := .int) (N' := 6) (a0 := (6, .inl (fun _ => (0 : Int32)))) hx hb (z_w hts 4 rfl) rfl hK hP hD hS hA (fun cA => rfl) (by decide) (by decide) (Nat.le_of_ble_eq_true rfl) (Nat.le_of_ble_eq_true rfl) (Nat.le_of_ble_eq_true rfl) dX1_init_7 (fun q1 cA H hK1 hP hD hS => ?_)
  obtain rfl := z_c0 hK1
  have hP : va_P D vwCl ([(h0, .inr (1, [.int 0, .int 0, .int 0, .int 0, .null, .null, .null, .null, .null, .null, .null, .null, .null])), (q1, .inl (cs 0, 6, .inl (fun _ => (0 : Int32))))]) H := hP
  have hD : va_D A ([(h0, .inr (1, [.int 0, .int 0, .int 0, .int 0, .null, .null, .null, .null, .null, .null, .null, .null, .null])), (q1, .inl (cs 0, 6, .inl (fun _ => (0 : Int32))))]) := hD
  refine va_putF (D := D) (ci := 1) (v := .ref q1) (ty := .array .int) (C := RX1) (T := TX1) (N := 13) hx hb hts (h_X1_X1_init) tyX1 tyX1_ok nmX1 hown hK hP hD hS 0 rfl rfl 4 (by decide) (z_w hts 5 rfl) (fun _ h9 => h9) rfl hin rfl (by decide +kernel) rfl rfl (Nat.le_of_ble_eq_true rfl) dX1_init_9 (fun H locs hP hD hS => ?_)
  have hP : va_P D vwCl ([(h0, .inr (1, [.int 0, .int 0, .int 0, .int 0, .ref q1, .null, .null, .null, .null, .null, .null, .null, .null])), (q1, .inl (cs 0, 6, .inl (fun _ => (0 : Int32))))]) H := hP
  have hD : va_D A ([(h0, .inr (1, [.int 0, .int 0, .int 0, .int 0, .ref q1, .null, .null, .null, .null, .null, .null, .null, .null])), (q1, .inl (cs 0, 6, .inl (fun _ => (0 : Int32))))]) := hD
  refine lv_aload_n hx hb dX1_init_12 rfl (lv_at hl 0 rfl) ?_
  refine lv_bipush (v := (6 : Int32)) hx hb dX1_init_13 (by decide) ?_
  refine va_newa (atype := .boolean) (N' := 6) (a0 := (6, .inl (fun _ => (0 : Int32)))) hx hb (z_w hts 6 rfl) rfl hK hP hD hS hA (fun cA => rfl) (by decide) (by decide) (Nat.le_of_ble_eq_true rfl) (Nat.le_of_ble_eq_true rfl) (Nat.le_of_ble_eq_true rfl) dX1_init_15 (fun q2 cA H hK1 hP hD hS => ?_)
  obtain rfl := z_c1 hK1
  have hP : va_P D vwCl ([(h0, .inr (1, [.int 0, .int 0, .int 0, .int 0, .ref q1, .null, .null, .null, .null, .null, .null, .null, .null])), (q1, .inl (cs 0, 6, .inl (fun _ => (0 : Int32)))), (q2, .inl (cs 1, 6, .inl (fun _ => (0 : Int32))))]) H := hP
  have hD : va_D A ([(h0, .inr (1, [.int 0, .int 0, .int 0, .int 0, .ref q1, .null, .null, .null, .null, .null, .null, .null, .null])), (q1, .inl (cs 0, 6, .inl (fun _ => (0 : Int32)))), (q2, .inl (cs 1, 6, .inl (fun _ => (0 : Int32))))]) := hD
  refine va_putF (D := D) (ci := 1) (v := .ref q2) (ty := .array .boolean) (C := RX1) (T := TX1) (N := 13) hx hb hts (h_X1_X1_init) tyX1 tyX1_ok nmX1 hown hK hP hD hS 0 rfl rfl 5 (by decide) (z_w hts 7 rfl) (fun _ h9 => h9) rfl hin rfl (by decide +kernel) rfl rfl (Nat.le_of_ble_eq_true rfl) dX1_init_17 (fun H locs hP hD hS => ?_)
  have hP : va_P D vwCl ([(h0, .inr (1, [.int 0, .int 0, .int 0, .int 0, .ref q1, .ref q2, .null, .null, .null, .null, .null, .null, .null])), (q1, .inl (cs 0, 6, .inl (fun _ => (0 : Int32)))), (q2, .inl (cs 1, 6, .inl (fun _ => (0 : Int32))))]) H := hP
  have hD : va_D A ([(h0, .inr (1, [.int 0, .int 0, .int 0, .int 0, .ref q1, .ref q2, .null, .null, .null, .null, .null, .null, .null])), (q1, .inl (cs 0, 6, .inl (fun _ => (0 : Int32)))), (q2, .inl (cs 1, 6, .inl (fun _ => (0 : Int32))))]) := hD
  refine lv_aload_n hx hb dX1_init_20 rfl (lv_at hl 0 rfl) ?_
  refine lv_bipush (v := (6 : Int32)) hx hb dX1_init_21 (by decide) ?_
  refine va_newa (atype := .int) (N' := 6) (a0 := (6, .inl (fun _ => (0 : Int32)))) hx hb (z_w hts 4 rfl) rfl hK hP hD hS hA (fun cA => rfl) (by decide) (by decide) (Nat.le_of_ble_eq_true rfl) (Nat.le_of_ble_eq_true rfl) (Nat.le_of_ble_eq_true rfl) dX1_init_23 (fun q3 cA H hK1 hP hD hS => ?_)
  obtain rfl := z_c0 hK1
  have hP : va_P D vwCl ([(h0, .inr (1, [.int 0, .int 0, .int 0, .int 0, .ref q1, .ref q2, .null, .null, .null, .null, .null, .null, .null])), (q1, .inl (cs 0, 6, .inl (fun _ => (0 : Int32)))), (q2, .inl (cs 1, 6, .inl (fun _ => (0 : Int32)))), (q3, .inl (cs 0, 6, .inl (fun _ => (0 : Int32))))]) H := hP
  have hD : va_D A ([(h0, .inr (1, [.int 0, .int 0, .int 0, .int 0, .ref q1, .ref q2, .null, .null, .null, .null, .null, .null, .null])), (q1, .inl (cs 0, 6, .inl (fun _ => (0 : Int32)))), (q2, .inl (cs 1, 6, .inl (fun _ => (0 : Int32)))), (q3, .inl (cs 0, 6, .inl (fun _ => (0 : Int32))))]) := hD
  refine va_putF (D := D) (ci := 1) (v := .ref q3) (ty := .array .int) (C := RX1) (T := TX1) (N := 13) hx hb hts (h_X1_X1_init) tyX1 tyX1_ok nmX1 hown hK hP hD hS 0 rfl rfl 6 (by decide) (z_w hts 8 rfl) (fun _ h9 => h9) rfl hin rfl (by decide +kernel) rfl rfl (Nat.le_of_ble_eq_true rfl) dX1_init_25 (fun H locs hP hD hS => ?_)
  have hP : va_P D vwCl ([(h0, .inr (1, [.int 0, .int 0, .int 0, .int 0, .ref q1, .ref q2, .ref q3, .null, .null, .null, .null, .null, .null])), (q1, .inl (cs 0, 6, .inl (fun _ => (0 : Int32)))), (q2, .inl (cs 1, 6, .inl (fun _ => (0 : Int32)))), (q3, .inl (cs 0, 6, .inl (fun _ => (0 : Int32))))]) H := hP
  have hD : va_D A ([(h0, .inr (1, [.int 0, .int 0, .int 0, .int 0, .ref q1, .ref q2, .ref q3, .null, .null, .null, .null, .null, .null])), (q1, .inl (cs 0, 6, .inl (fun _ => (0 : Int32)))), (q2, .inl (cs 1, 6, .inl (fun _ => (0 : Int32)))), (q3, .inl (cs 0, 6, .inl (fun _ => (0 : Int32))))]) := hD
  refine lv_aload_n hx hb dX1_init_28 rfl (lv_at hl 0 rfl) ?_
  refine lv_bipush (v := (54 : Int32)) hx hb dX1_init_29 (by decide) ?_
  refine va_newa (atype := .int) (N' := 54) (a0 := (54, .inl (fun _ => (0 : Int32)))) hx hb (z_w hts 4 rfl) rfl hK hP hD hS hA (fun cA => rfl) (by decide) (by decide) (Nat.le_of_ble_eq_true rfl) (Nat.le_of_ble_eq_true rfl) (Nat.le_of_ble_eq_true rfl) dX1_init_31 (fun q4 cA H hK1 hP hD hS => ?_)
  obtain rfl := z_c0 hK1
  have hP : va_P D vwCl ([(h0, .inr (1, [.int 0, .int 0, .int 0, .int 0, .ref q1, .ref q2, .ref q3, .null, .null, .null, .null, .null, .null])), (q1, .inl (cs 0, 6, .inl (fun _ => (0 : Int32)))), (q2, .inl (cs 1, 6, .inl (fun _ => (0 : Int32)))), (q3, .inl (cs 0, 6, .inl (fun _ => (0 : Int32)))), (q4, .inl (cs 0, 54, .inl (fun _ => (0 : Int32))))]) H := hP
  have hD : va_D A ([(h0, .inr (1, [.int 0, .int 0, .int 0, .int 0, .ref q1, .ref q2, .ref q3, .null, .null, .null, .null, .null, .null])), (q1, .inl (cs 0, 6, .inl (fun _ => (0 : Int32)))), (q2, .inl (cs 1, 6, .inl (fun _ => (0 : Int32)))), (q3, .inl (cs 0, 6, .inl (fun _ => (0 : Int32)))), (q4, .inl (cs 0, 54, .inl (fun _ => (0 : Int32))))]) := hD
  refine va_putF (D := D) (ci := 1) (v := .ref q4) (ty := .array .int) (C := RX1) (T := TX1) (N := 13) hx hb hts (h_X1_X1_init) tyX1 tyX1_ok nmX1 hown hK hP hD hS 0 rfl rfl 7 (by decide) (z_w hts 9 rfl) (fun _ h9 => h9) rfl hin rfl (by decide +kernel) rfl rfl (Nat.le_of_ble_eq_true rfl) dX1_init_33 (fun H locs hP hD hS => ?_)
  have hP : va_P D vwCl ([(h0, .inr (1, [.int 0, .int 0, .int 0, .int 0, .ref q1, .ref q2, .ref q3, .ref q4, .null, .null, .null, .null, .null])), (q1, .inl (cs 0, 6, .inl (fun _ => (0 : Int32)))), (q2, .inl (cs 1, 6, .inl (fun _ => (0 : Int32)))), (q3, .inl (cs 0, 6, .inl (fun _ => (0 : Int32)))), (q4, .inl (cs 0, 54, .inl (fun _ => (0 : Int32))))]) H := hP
  have hD : va_D A ([(h0, .inr (1, [.int 0, .int 0, .int 0, .int 0, .ref q1, .ref q2, .ref q3, .ref q4, .null, .null, .null, .null, .null])), (q1, .inl (cs 0, 6, .inl (fun _ => (0 : Int32)))), (q2, .inl (cs 1, 6, .inl (fun _ => (0 : Int32)))), (q3, .inl (cs 0, 6, .inl (fun _ => (0 : Int32)))), (q4, .inl (cs 0, 54, .inl (fun _ => (0 : Int32))))]) := hD
  refine lv_aload_n hx hb dX1_init_36 rfl (lv_at hl 0 rfl) ?_
  refine lv_bipush (v := (54 : Int32)) hx hb dX1_init_37 (by decide) ?_
  refine va_newa (atype := .int) (N' := 54) (a0 := (54, .inl (fun _ => (0 : Int32)))) hx hb (z_w hts 4 rfl) rfl hK hP hD hS hA (fun cA => rfl) (by decide) (by decide) (Nat.le_of_ble_eq_true rfl) (Nat.le_of_ble_eq_true rfl) (Nat.le_of_ble_eq_true rfl) dX1_init_39 (fun q5 cA H hK1 hP hD hS => ?_)
  obtain rfl := z_c0 hK1
  have hP : va_P D vwCl ([(h0, .inr (1, [.int 0, .int 0, .int 0, .int 0, .ref q1, .ref q2, .ref q3, .ref q4, .null, .null, .null, .null, .null])), (q1, .inl (cs 0, 6, .inl (fun _ => (0 : Int32)))), (q2, .inl (cs 1, 6, .inl (fun _ => (0 : Int32)))), (q3, .inl (cs 0, 6, .inl (fun _ => (0 : Int32)))), (q4, .inl (cs 0, 54, .inl (fun _ => (0 : Int32)))), (q5, .inl (cs 0, 54, .inl (fun _ => (0 : Int32))))]) H := hP
  have hD : va_D A ([(h0, .inr (1, [.int 0, .int 0, .int 0, .int 0, .ref q1, .ref q2, .ref q3, .ref q4, .null, .null, .null, .null, .null])), (q1, .inl (cs 0, 6, .inl (fun _ => (0 : Int32)))), (q2, .inl (cs 1, 6, .inl (fun _ => (0 : Int32)))), (q3, .inl (cs 0, 6, .inl (fun _ => (0 : Int32)))), (q4, .inl (cs 0, 54, .inl (fun _ => (0 : Int32)))), (q5, .inl (cs 0, 54, .inl (fun _ => (0 : Int32))))]) := hD
  refine va_putF (D := D) (ci := 1) (v := .ref q5) (ty := .array .int) (C := RX1) (T := TX1) (N := 13) hx hb hts (h_X1_X1_init) tyX1 tyX1_ok nmX1 hown hK hP hD hS 0 rfl rfl 8 (by decide) (z_w hts 10 rfl) (fun _ h9 => h9) rfl hin rfl (by decide +kernel) rfl rfl (Nat.le_of_ble_eq_true rfl) dX1_init_41 (fun H locs hP hD hS => ?_)
  have hP : va_P D vwCl ([(h0, .inr (1, [.int 0, .int 0, .int 0, .int 0, .ref q1, .ref q2, .ref q3, .ref q4, .ref q5, .null, .null, .null, .null])), (q1, .inl (cs 0, 6, .inl (fun _ => (0 : Int32)))), (q2, .inl (cs 1, 6, .inl (fun _ => (0 : Int32)))), (q3, .inl (cs 0, 6, .inl (fun _ => (0 : Int32)))), (q4, .inl (cs 0, 54, .inl (fun _ => (0 : Int32)))), (q5, .inl (cs 0, 54, .inl (fun _ => (0 : Int32))))]) H := hP
  have hD : va_D A ([(h0, .inr (1, [.int 0, .int 0, .int 0, .int 0, .ref q1, .ref q2, .ref q3, .ref q4, .ref q5, .null, .null, .null, .null])), (q1, .inl (cs 0, 6, .inl (fun _ => (0 : Int32)))), (q2, .inl (cs 1, 6, .inl (fun _ => (0 : Int32)))), (q3, .inl (cs 0, 6, .inl (fun _ => (0 : Int32)))), (q4, .inl (cs 0, 54, .inl (fun _ => (0 : Int32)))), (q5, .inl (cs 0, 54, .inl (fun _ => (0 : Int32))))]) := hD
  refine lv_aload_n hx hb dX1_init_44 rfl (lv_at hl 0 rfl) ?_
  refine lv_bipush (v := (49 : Int32)) hx hb dX1_init_45 (by decide) ?_
  refine va_newa (atype := .int) (N' := 49) (a0 := (49, .inl (fun _ => (0 : Int32)))) hx hb (z_w hts 4 rfl) rfl hK hP hD hS hA (fun cA => rfl) (by decide) (by decide) (Nat.le_of_ble_eq_true rfl) (Nat.le_of_ble_eq_true rfl) (Nat.le_of_ble_eq_true rfl) dX1_init_47 (fun q6 cA H hK1 hP hD hS => ?_)
  obtain rfl := z_c0 hK1
  have hP : va_P D vwCl ([(h0, .inr (1, [.int 0, .int 0, .int 0, .int 0, .ref q1, .ref q2, .ref q3, .ref q4, .ref q5, .null, .null, .null, .null])), (q1, .inl (cs 0, 6, .inl (fun _ => (0 : Int32)))), (q2, .inl (cs 1, 6, .inl (fun _ => (0 : Int32)))), (q3, .inl (cs 0, 6, .inl (fun _ => (0 : Int32)))), (q4, .inl (cs 0, 54, .inl (fun _ => (0 : Int32)))), (q5, .inl (cs 0, 54, .inl (fun _ => (0 : Int32)))), (q6, .inl (cs 0, 49, .inl (fun _ => (0 : Int32))))]) H := hP
  have hD : va_D A ([(h0, .inr (1, [.int 0, .int 0, .int 0, .int 0, .ref q1, .ref q2, .ref q3, .ref q4, .ref q5, .null, .null, .null, .null])), (q1, .inl (cs 0, 6, .inl (fun _ => (0 : Int32)))), (q2, .inl (cs 1, 6, .inl (fun _ => (0 : Int32)))), (q3, .inl (cs 0, 6, .inl (fun _ => (0 : Int32)))), (q4, .inl (cs 0, 54, .inl (fun _ => (0 : Int32)))), (q5, .inl (cs 0, 54, .inl (fun _ => (0 : Int32)))), (q6, .inl (cs 0, 49, .inl (fun _ => (0 : Int32))))]) := hD
  refine va_putF (D := D) (ci := 1) (v := .ref q6) (ty := .array .int) (C := RX1) (T := TX1) (N := 13) hx hb hts (h_X1_X1_init) tyX1 tyX1_ok nmX1 hown hK hP hD hS 0 rfl rfl 9 (by decide) (z_w hts 11 rfl) (fun _ h9 => h9) rfl hin rfl (by decide +kernel) rfl rfl (Nat.le_of_ble_eq_true rfl) dX1_init_49 (fun H locs hP hD hS => ?_)
  have hP : va_P D vwCl ([(h0, .inr (1, [.int 0, .int 0, .int 0, .int 0, .ref q1, .ref q2, .ref q3, .ref q4, .ref q5, .ref q6, .null, .null, .null])), (q1, .inl (cs 0, 6, .inl (fun _ => (0 : Int32)))), (q2, .inl (cs 1, 6, .inl (fun _ => (0 : Int32)))), (q3, .inl (cs 0, 6, .inl (fun _ => (0 : Int32)))), (q4, .inl (cs 0, 54, .inl (fun _ => (0 : Int32)))), (q5, .inl (cs 0, 54, .inl (fun _ => (0 : Int32)))), (q6, .inl (cs 0, 49, .inl (fun _ => (0 : Int32))))]) H := hP
  have hD : va_D A ([(h0, .inr (1, [.int 0, .int 0, .int 0, .int 0, .ref q1, .ref q2, .ref q3, .ref q4, .ref q5, .ref q6, .null, .null, .null])), (q1, .inl (cs 0, 6, .inl (fun _ => (0 : Int32)))), (q2, .inl (cs 1, 6, .inl (fun _ => (0 : Int32)))), (q3, .inl (cs 0, 6, .inl (fun _ => (0 : Int32)))), (q4, .inl (cs 0, 54, .inl (fun _ => (0 : Int32)))), (q5, .inl (cs 0, 54, .inl (fun _ => (0 : Int32)))), (q6, .inl (cs 0, 49, .inl (fun _ => (0 : Int32))))]) := hD
  refine lv_aload_n hx hb dX1_init_52 rfl (lv_at hl 0 rfl) ?_
  refine lv_bipush (v := (49 : Int32)) hx hb dX1_init_53 (by decide) ?_
  refine va_newa (atype := .int) (N' := 49) (a0 := (49, .inl (fun _ => (0 : Int32)))) hx hb (z_w hts 4 rfl) rfl hK hP hD hS hA (fun cA => rfl) (by decide) (by decide) (Nat.le_of_ble_eq_true rfl) (Nat.le_of_ble_eq_true rfl) (Nat.le_of_ble_eq_true rfl) dX1_init_55 (fun q7 cA H hK1 hP hD hS => ?_)
  obtain rfl := z_c0 hK1
  have hP : va_P D vwCl ([(h0, .inr (1, [.int 0, .int 0, .int 0, .int 0, .ref q1, .ref q2, .ref q3, .ref q4, .ref q5, .ref q6, .null, .null, .null])), (q1, .inl (cs 0, 6, .inl (fun _ => (0 : Int32)))), (q2, .inl (cs 1, 6, .inl (fun _ => (0 : Int32)))), (q3, .inl (cs 0, 6, .inl (fun _ => (0 : Int32)))), (q4, .inl (cs 0, 54, .inl (fun _ => (0 : Int32)))), (q5, .inl (cs 0, 54, .inl (fun _ => (0 : Int32)))), (q6, .inl (cs 0, 49, .inl (fun _ => (0 : Int32)))), (q7, .inl (cs 0, 49, .inl (fun _ => (0 : Int32))))]) H := hP
  have hD : va_D A ([(h0, .inr (1, [.int 0, .int 0, .int 0, .int 0, .ref q1, .ref q2, .ref q3, .ref q4, .ref q5, .ref q6, .null, .null, .null])), (q1, .inl (cs 0, 6, .inl (fun _ => (0 : Int32)))), (q2, .inl (cs 1, 6, .inl (fun _ => (0 : Int32)))), (q3, .inl (cs 0, 6, .inl (fun _ => (0 : Int32)))), (q4, .inl (cs 0, 54, .inl (fun _ => (0 : Int32)))), (q5, .inl (cs 0, 54, .inl (fun _ => (0 : Int32)))), (q6, .inl (cs 0, 49, .inl (fun _ => (0 : Int32)))), (q7, .inl (cs 0, 49, .inl (fun _ => (0 : Int32))))]) := hD
  refine va_putF (D := D) (ci := 1) (v := .ref q7) (ty := .array .int) (C := RX1) (T := TX1) (N := 13) hx hb hts (h_X1_X1_init) tyX1 tyX1_ok nmX1 hown hK hP hD hS 0 rfl rfl 10 (by decide) (z_w hts 12 rfl) (fun _ h9 => h9) rfl hin rfl (by decide +kernel) rfl rfl (Nat.le_of_ble_eq_true rfl) dX1_init_57 (fun H locs hP hD hS => ?_)
  have hP : va_P D vwCl ([(h0, .inr (1, [.int 0, .int 0, .int 0, .int 0, .ref q1, .ref q2, .ref q3, .ref q4, .ref q5, .ref q6, .ref q7, .null, .null])), (q1, .inl (cs 0, 6, .inl (fun _ => (0 : Int32)))), (q2, .inl (cs 1, 6, .inl (fun _ => (0 : Int32)))), (q3, .inl (cs 0, 6, .inl (fun _ => (0 : Int32)))), (q4, .inl (cs 0, 54, .inl (fun _ => (0 : Int32)))), (q5, .inl (cs 0, 54, .inl (fun _ => (0 : Int32)))), (q6, .inl (cs 0, 49, .inl (fun _ => (0 : Int32)))), (q7, .inl (cs 0, 49, .inl (fun _ => (0 : Int32))))]) H := hP
  have hD : va_D A ([(h0, .inr (1, [.int 0, .int 0, .int 0, .int 0, .ref q1, .ref q2, .ref q3, .ref q4, .ref q5, .ref q6, .ref q7, .null, .null])), (q1, .inl (cs 0, 6, .inl (fun _ => (0 : Int32)))), (q2, .inl (cs 1, 6, .inl (fun _ => (0 : Int32)))), (q3, .inl (cs 0, 6, .inl (fun _ => (0 : Int32)))), (q4, .inl (cs 0, 54, .inl (fun _ => (0 : Int32)))), (q5, .inl (cs 0, 54, .inl (fun _ => (0 : Int32)))), (q6, .inl (cs 0, 49, .inl (fun _ => (0 : Int32)))), (q7, .inl (cs 0, 49, .inl (fun _ => (0 : Int32))))]) := hD
  refine lv_aload_n hx hb dX1_init_60 rfl (lv_at hl 0 rfl) ?_
  refine lv_bipush (v := (49 : Int32)) hx hb dX1_init_61 (by decide) ?_
  refine va_newa (atype := .int) (N' := 49) (a0 := (49, .inl (fun _ => (0 : Int32)))) hx hb (z_w hts 4 rfl) rfl hK hP hD hS hA (fun cA => rfl) (by decide) (by decide) (Nat.le_of_ble_eq_true rfl) (Nat.le_of_ble_eq_true rfl) (Nat.le_of_ble_eq_true rfl) dX1_init_63 (fun q8 cA H hK1 hP hD hS => ?_)
  obtain rfl := z_c0 hK1
  have hP : va_P D vwCl ([(h0, .inr (1, [.int 0, .int 0, .int 0, .int 0, .ref q1, .ref q2, .ref q3, .ref q4, .ref q5, .ref q6, .ref q7, .null, .null])), (q1, .inl (cs 0, 6, .inl (fun _ => (0 : Int32)))), (q2, .inl (cs 1, 6, .inl (fun _ => (0 : Int32)))), (q3, .inl (cs 0, 6, .inl (fun _ => (0 : Int32)))), (q4, .inl (cs 0, 54, .inl (fun _ => (0 : Int32)))), (q5, .inl (cs 0, 54, .inl (fun _ => (0 : Int32)))), (q6, .inl (cs 0, 49, .inl (fun _ => (0 : Int32)))), (q7, .inl (cs 0, 49, .inl (fun _ => (0 : Int32)))), (q8, .inl (cs 0, 49, .inl (fun _ => (0 : Int32))))]) H := hP
  have hD : va_D A ([(h0, .inr (1, [.int 0, .int 0, .int 0, .int 0, .ref q1, .ref q2, .ref q3, .ref q4, .ref q5, .ref q6, .ref q7, .null, .null])), (q1, .inl (cs 0, 6, .inl (fun _ => (0 : Int32)))), (q2, .inl (cs 1, 6, .inl (fun _ => (0 : Int32)))), (q3, .inl (cs 0, 6, .inl (fun _ => (0 : Int32)))), (q4, .inl (cs 0, 54, .inl (fun _ => (0 : Int32)))), (q5, .inl (cs 0, 54, .inl (fun _ => (0 : Int32)))), (q6, .inl (cs 0, 49, .inl (fun _ => (0 : Int32)))), (q7, .inl (cs 0, 49, .inl (fun _ => (0 : Int32)))), (q8, .inl (cs 0, 49, .inl (fun _ => (0 : Int32))))]) := hD
  refine va_putF (D := D) (ci := 1) (v := .ref q8) (ty := .array .int) (C := RX1) (T := TX1) (N := 13) hx hb hts (h_X1_X1_init) tyX1 tyX1_ok nmX1 hown hK hP hD hS 0 rfl rfl 11 (by decide) (z_w hts 13 rfl) (fun _ h9 => h9) rfl hin rfl (by decide +kernel) rfl rfl (Nat.le_of_ble_eq_true rfl) dX1_init_65 (fun H locs hP hD hS => ?_)
  have hP : va_P D vwCl ([(h0, .inr (1, [.int 0, .int 0, .int 0, .int 0, .ref q1, .ref q2, .ref q3, .ref q4, .ref q5, .ref q6, .ref q7, .ref q8, .null])), (q1, .inl (cs 0, 6, .inl (fun _ => (0 : Int32)))), (q2, .inl (cs 1, 6, .inl (fun _ => (0 : Int32)))), (q3, .inl (cs 0, 6, .inl (fun _ => (0 : Int32)))), (q4, .inl (cs 0, 54, .inl (fun _ => (0 : Int32)))), (q5, .inl (cs 0, 54, .inl (fun _ => (0 : Int32)))), (q6, .inl (cs 0, 49, .inl (fun _ => (0 : Int32)))), (q7, .inl (cs 0, 49, .inl (fun _ => (0 : Int32)))), (q8, .inl (cs 0, 49, .inl (fun _ => (0 : Int32))))]) H := hP
  have hD : va_D A ([(h0, .inr (1, [.int 0, .int 0, .int 0, .int 0, .ref q1, .ref q2, .ref q3, .ref q4, .ref q5, .ref q6, .ref q7, .ref q8, .null])), (q1, .inl (cs 0, 6, .inl (fun _ => (0 : Int32)))), (q2, .inl (cs 1, 6, .inl (fun _ => (0 : Int32)))), (q3, .inl (cs 0, 6, .inl (fun _ => (0 : Int32)))), (q4, .inl (cs 0, 54, .inl (fun _ => (0 : Int32)))), (q5, .inl (cs 0, 54, .inl (fun _ => (0 : Int32)))), (q6, .inl (cs 0, 49, .inl (fun _ => (0 : Int32)))), (q7, .inl (cs 0, 49, .inl (fun _ => (0 : Int32)))), (q8, .inl (cs 0, 49, .inl (fun _ => (0 : Int32))))]) := hD
  refine lv_aload_n hx hb dX1_init_68 rfl (lv_at hl 0 rfl) ?_
  refine lv_bipush (v := (49 : Int32)) hx hb dX1_init_69 (by decide) ?_
  refine va_newa (atype := .long) (N' := 49) (a0 := (49, .inr (.inl (fun _ => (0 : Int64))))) hx hb (z_w hts 14 rfl) rfl hK hP hD hS hA (fun cA => rfl) (by decide) (by decide) (Nat.le_of_ble_eq_true rfl) (Nat.le_of_ble_eq_true rfl) (Nat.le_of_ble_eq_true rfl) dX1_init_71 (fun q9 cA H hK1 hP hD hS => ?_)
  obtain rfl := z_c3 hK1
  have hP : va_P D vwCl ([(h0, .inr (1, [.int 0, .int 0, .int 0, .int 0, .ref q1, .ref q2, .ref q3, .ref q4, .ref q5, .ref q6, .ref q7, .ref q8, .null])), (q1, .inl (cs 0, 6, .inl (fun _ => (0 : Int32)))), (q2, .inl (cs 1, 6, .inl (fun _ => (0 : Int32)))), (q3, .inl (cs 0, 6, .inl (fun _ => (0 : Int32)))), (q4, .inl (cs 0, 54, .inl (fun _ => (0 : Int32)))), (q5, .inl (cs 0, 54, .inl (fun _ => (0 : Int32)))), (q6, .inl (cs 0, 49, .inl (fun _ => (0 : Int32)))), (q7, .inl (cs 0, 49, .inl (fun _ => (0 : Int32)))), (q8, .inl (cs 0, 49, .inl (fun _ => (0 : Int32)))), (q9, .inl (cs 3, 49, .inr (.inl (fun _ => (0 : Int64)))))]) H := hP
  have hD : va_D A ([(h0, .inr (1, [.int 0, .int 0, .int 0, .int 0, .ref q1, .ref q2, .ref q3, .ref q4, .ref q5, .ref q6, .ref q7, .ref q8, .null])), (q1, .inl (cs 0, 6, .inl (fun _ => (0 : Int32)))), (q2, .inl (cs 1, 6, .inl (fun _ => (0 : Int32)))), (q3, .inl (cs 0, 6, .inl (fun _ => (0 : Int32)))), (q4, .inl (cs 0, 54, .inl (fun _ => (0 : Int32)))), (q5, .inl (cs 0, 54, .inl (fun _ => (0 : Int32)))), (q6, .inl (cs 0, 49, .inl (fun _ => (0 : Int32)))), (q7, .inl (cs 0, 49, .inl (fun _ => (0 : Int32)))), (q8, .inl (cs 0, 49, .inl (fun _ => (0 : Int32)))), (q9, .inl (cs 3, 49, .inr (.inl (fun _ => (0 : Int64)))))]) := hD
  refine va_putF (D := D) (ci := 1) (v := .ref q9) (ty := .array .long) (C := RX1) (T := TX1) (N := 13) hx hb hts (h_X1_X1_init) tyX1 tyX1_ok nmX1 hown hK hP hD hS 0 rfl rfl 12 (by decide) (z_w hts 15 rfl) (fun _ h9 => h9) rfl hin rfl (by decide +kernel) rfl rfl (Nat.le_of_ble_eq_true rfl) dX1_init_73 (fun H locs hP hD hS => ?_)
  have hP : va_P D vwCl ([(h0, .inr (1, [.int 0, .int 0, .int 0, .int 0, .ref q1, .ref q2, .ref q3, .ref q4, .ref q5, .ref q6, .ref q7, .ref q8, .ref q9])), (q1, .inl (cs 0, 6, .inl (fun _ => (0 : Int32)))), (q2, .inl (cs 1, 6, .inl (fun _ => (0 : Int32)))), (q3, .inl (cs 0, 6, .inl (fun _ => (0 : Int32)))), (q4, .inl (cs 0, 54, .inl (fun _ => (0 : Int32)))), (q5, .inl (cs 0, 54, .inl (fun _ => (0 : Int32)))), (q6, .inl (cs 0, 49, .inl (fun _ => (0 : Int32)))), (q7, .inl (cs 0, 49, .inl (fun _ => (0 : Int32)))), (q8, .inl (cs 0, 49, .inl (fun _ => (0 : Int32)))), (q9, .inl (cs 3, 49, .inr (.inl (fun _ => (0 : Int64)))))]) H := hP
  have hD : va_D A ([(h0, .inr (1, [.int 0, .int 0, .int 0, .int 0, .ref q1, .ref q2, .ref q3, .ref q4, .ref q5, .ref q6, .ref q7, .ref q8, .ref q9])), (q1, .inl (cs 0, 6, .inl (fun _ => (0 : Int32)))), (q2, .inl (cs 1, 6, .inl (fun _ => (0 : Int32)))), (q3, .inl (cs 0, 6, .inl (fun _ => (0 : Int32)))), (q4, .inl (cs 0, 54, .inl (fun _ => (0 : Int32)))), (q5, .inl (cs 0, 54, .inl (fun _ => (0 : Int32)))), (q6, .inl (cs 0, 49, .inl (fun _ => (0 : Int32)))), (q7, .inl (cs 0, 49, .inl (fun _ => (0 : Int32)))), (q8, .inl (cs 0, 49, .inl (fun _ => (0 : Int32)))), (q9, .inl (cs 3, 49, .inr (.inl (fun _ => (0 : Int64)))))]) := hD
  have hP : va_P D vwCl (w_Line cs (z_q10 h0 q1 q2 q3 q4 q5 q6 q7 q8 q9) zL0) H := hP
  have hD : va_D A (w_Line cs (z_q10 h0 q1 q2 q3 q4 q5 q6 q7 q8 q9) zL0) := hD
  exact t_X1_init hC (z_q10 h0 q1 q2 q3 q4 q5 q6 q7 q8 q9) rfl zL0 Q hA hw H _ hP hD hS ls hl
theorem h_X4_X4_init : ∀ w ∈ u_ws RX4 TX4 11, w ∈ wsX4_init := fun _ h => List.mem_cons_of_mem _ (List.mem_append_right _ h)
set_option maxHeartbeats 4000000 in
set_option maxRecDepth 100000 in
theorem t_X4_init_87 {p : Program} {l : Launch} {e : Env} {s : State} {m : MethodId} {args : Array Value} {below : List Frame} {meth : Method} {c : Code} {D : va_G} {cs : Nat → ClassId} {A : Nat → Prop} (hC : MAt p s m args meth c RX4 cX4_init 2 none wsX4_init D cs) (q : Nat → Nat) {h0 : Nat} (hq0 : q 0 = h0) (Q : MS → Prop) (hA : ∀ q : Nat, s.heap.size ≤ q → A q) : ∀ (n : Nat) (M : MS) (x1 : Int32), wl_X4_init_87 Q n M x1 → ∀ (H : Heap) (locs : List Loc), va_P D vwCl (w_Mod cs q M) H → va_D A (w_Mod cs q M) → va_S A s.heap H locs → ∀ ls : Array Slot, lv_has ls 2 [(0, .ref (q 0)), (1, .int x1)] → W p l e ({ frames := 1, cells := 8, slots := 6258, locals := 21 } : Room) s m args below meth c H locs 8 6258 (MQ below (va_Qv (fun (u : (Nat → Nat) × MS) => Q u.2) (fun (u : (Nat → Nat) × MS) t => va_P D vwCl (w_Mod cs u.1 u.2) t.heap ∧ va_D A (w_Mod cs u.1 u.2) ∧ u.1 0 = h0) A) args s 8 6258 A) (F0 m 87 ls []) := by
  obtain ⟨hx, hb, hr, hml, hown, hts, hlocks, hKK⟩ := id hC
  have hK := hKK.1
  intro n
  induction n with
  | zero =>
    intro M x1 hw
    exact False.elim hw
  | succ n ih =>
    intro M x1 hw H locs hP hD hS ls hl
    refine lv_iload_n hx hb dX4_init_87 rfl (lv_at hl 1 rfl) ?_
    refine lv_iconst (v := (3 : Int32)) hx hb dX4_init_88 (by decide) ?_
    refine lv_icmp_ge (tgt := 110) hx hb dX4_init_89 (by decide) (fun c3 => ?_) (fun c3 => ?_)
    · have hw := hw.1 c3
      exact W.vret hx hb hr (fun t ht hW => ⟨⟨(q, M), rfl, hw, by rw [ht]; exact hP, hD, hq0⟩, hS.F ht⟩) hS.2.2 dX4_init_110 hlocks
    · have hw := hw.2 c3
      refine lv_aload_n hx hb dX4_init_92 rfl (lv_at hl 0 rfl) ?_
      refine va_get (D := D) (ci := 4) (v := .ref (q 2)) (C := RX4) (T := TX4) (N := 11) hx hb hts (h_X4_X4_init) hown hK hP 0 rfl rfl 3 (by decide) (z_w hts 6 rfl) (fun _ h9 => h9) rfl dX4_init_93 ?_
      refine lv_iload_n hx hb dX4_init_96 rfl (lv_at hl 1 rfl) ?_
      have hPc := hP.sub (ws' := ([] : va_W)) [] rfl
      have hDc := hD.sub (ws' := ([] : va_W)) [] (by decide) rfl
      refine z_calli (va_runS (As := [.int x1]) (rest := [.ref (q 2)]) ⟨hx, hb, hml, hown, hts⟩ (c_X4_at l D cs  H.size x1 _ hw) (va_cwS 1 hts gX4_init_X4_at rfl rfl rfl (by decide +kernel) ⟨Nat.le_of_ble_eq_true rfl, Nat.le_of_ble_eq_true rfl⟩) (PC_S hPc hDc hKK) rfl rfl hl.1 rfl (lv_room (Nat.le_of_ble_eq_true rfl)) dX4_init_97 ⟨Nat.le_of_ble_eq_true rfl, Nat.le_of_ble_eq_true rfl⟩) (fun r4 hw => ?_)
      refine lv_iconst (v := (0 : Int32)) hx hb dX4_init_100 (by decide) ?_
      refine lv_iadd hx hb dX4_init_101 ?_
      refine lv_iconst (v := (4 : Int32)) hx hb dX4_init_102 (by decide) ?_
      obtain ⟨h5, hw⟩ := hw
      refine va_iast hx hb hK hP hD hS 2 0 rfl rfl h5 dX4_init_103 (fun H locs hP hD hS => ?_)
      have hP : va_P D vwCl (w_Mod cs q (zr2 M 2 (upd (M 2) (r4 + (0 : Int32)).toNatClampNeg (4 : Int32)))) H := hP
      have hD : va_D A (w_Mod cs q (zr2 M 2 (upd (M 2) (r4 + (0 : Int32)).toNatClampNeg (4 : Int32)))) := hD
      refine lv_iinc (v := x1 + 1) (lv' := [(1, .int (x1 + 1)), (0, .ref (q 0))]) hx hb dX4_init_104 hl (k := 1) rfl rfl (by decide) rfl (fun ls hl => ?_)
      refine lv_goto (tgt := 87) hx hb dX4_init_107 (by decide) ?_
      exact ih _ _ hw _ _ hP hD hS ls (lv_sub hl [1, 0] rfl)
set_option maxHeartbeats 4000000 in
set_option maxRecDepth 100000 in
theorem t_X4_init {p : Program} {l : Launch} {e : Env} {s : State} {m : MethodId} {args : Array Value} {below : List Frame} {meth : Method} {c : Code} {D : va_G} {cs : Nat → ClassId} {A : Nat → Prop} (hC : MAt p s m args meth c RX4 cX4_init 2 none wsX4_init D cs) (q : Nat → Nat) {h0 : Nat} (hq0 : q 0 = h0) (M : MS) (Q : MS → Prop) (hA : ∀ z : Nat, s.heap.size ≤ z → A z) (hw : wp_X4_init M Q) (H : Heap) (locs : List Loc) (hP : va_P D vwCl (w_Mod cs q M) H) (hD : va_D A (w_Mod cs q M)) (hS : va_S A s.heap H locs) (ls : Array Slot) (hl : lv_has ls 2 [(0, .ref (q 0))]) : W p l e ({ frames := 1, cells := 8, slots := 6258, locals := 21 } : Room) s m args below meth c H locs 8 6258 (MQ below (va_Qv (fun (u : (Nat → Nat) × MS) => Q u.2) (fun (u : (Nat → Nat) × MS) t => va_P D vwCl (w_Mod cs u.1 u.2) t.heap ∧ va_D A (w_Mod cs u.1 u.2) ∧ u.1 0 = h0) A) args s 8 6258 A) (F0 m 71 ls []) := by
  obtain ⟨hx, hb, hr, hml, hown, hts, hlocks, hKK⟩ := id hC
  have hK := hKK.1
  refine lv_aload_n hx hb dX4_init_71 rfl (lv_at hl 0 rfl) ?_
  refine va_get (D := D) (ci := 4) (v := .ref (q 2)) (C := RX4) (T := TX4) (N := 11) hx hb hts (h_X4_X4_init) hown hK hP 0 rfl rfl 3 (by decide) (z_w hts 6 rfl) (fun _ h9 => h9) rfl dX4_init_72 ?_
  have hPc := hP.sub (ws' := w_Row cs (q 2) 336 (M 2)) [2] rfl
  have hDc := hD.sub (ws' := w_Row cs (q 2) 336 (M 2)) [2] (by decide) rfl
  have hFc := va_free (wc := w_Row cs (q 2) 336 (M 2)) hD hS hA [2] rfl
  refine va_callv (va_runS (As := [.ref (q 2)]) (rest := []) ⟨hx, hb, hml, hown, hts⟩ (c_X4_begin l D cs (q 2) H.size (M 2) _ hw) (va_cwS 1 hts gX4_init_X4_begin rfl rfl rfl (by decide +kernel) ⟨Nat.le_of_ble_eq_true rfl, Nat.le_of_ble_eq_true rfl⟩) (PC_S hPc hDc hKK) rfl rfl hl.1 rfl (lv_room (Nat.le_of_ble_eq_true rfl)) dX4_init_75 ⟨Nat.le_of_ble_eq_true rfl, Nat.le_of_ble_eq_true rfl⟩) hS (fun q _ h => hFc q h) hFc (fun u1 t H locs ht hvm hw hB hz1 hk1 hS => ?_)
  obtain ⟨hP1, hD1⟩ := hB
  rw [ht] at hP1
  obtain ⟨hP, hD⟩ := va_join (wr := ([0, 1, 3, 4, 5, 6, 7, 8].filterMap (fun i => (w_Mod cs q M)[i]?))) (w1 := w_Row cs (q 2) 336 u1) hP hD [2] [0, 1, 3, 4, 5, 6, 7, 8] rfl rfl (by decide) (by decide) hk1 hFc hP1 hD1
  have hP : va_P D vwCl (w_Mod cs q (zr2 M 2 u1)) H := hP.sub (ws' := w_Mod cs q (zr2 M 2 u1)) [0, 1, 8, 2, 3, 4, 5, 6, 7] rfl
  have hD : va_D A (w_Mod cs q (zr2 M 2 u1)) := hD.sub (ws' := w_Mod cs q (zr2 M 2 u1)) [0, 1, 8, 2, 3, 4, 5, 6, 7] (by decide) rfl
  refine lv_aload_n hx hb dX4_init_78 rfl (lv_at hl 0 rfl) ?_
  refine va_get (D := D) (ci := 4) (v := .ref (q 2)) (C := RX4) (T := TX4) (N := 11) hx hb hts (h_X4_X4_init) hown hK hP 0 rfl rfl 3 (by decide) (z_w hts 6 rfl) (fun _ h9 => h9) rfl dX4_init_79 ?_
  refine lv_iconst (v := (0 : Int32)) hx hb dX4_init_82 (by decide) ?_
  refine lv_iconst (v := (3 : Int32)) hx hb dX4_init_83 (by decide) ?_
  obtain ⟨M2, eM2⟩ : ∃ z : MS, z = (zr2 M 2 u1) := ⟨_, rfl⟩
  have hw := hw M2 eM2
  rw [← eM2] at hP hD
  refine va_iast hx hb hK hP hD hS 2 0 rfl rfl (show vp_in (0 : Int32) 336 by unfold vp_in; decide) dX4_init_84 (fun H locs hP hD hS => ?_)
  have hP : va_P D vwCl (w_Mod cs q (zr2 M2 2 (upd (M2 2) (0 : Int32).toNatClampNeg (3 : Int32)))) H := hP
  have hD : va_D A (w_Mod cs q (zr2 M2 2 (upd (M2 2) (0 : Int32).toNatClampNeg (3 : Int32)))) := hD
  refine lv_iconst (v := (0 : Int32)) hx hb dX4_init_85 (by decide) ?_
  refine lv_istore_n (lv' := [(1, .int (0 : Int32)), (0, .ref (q 0))]) hx hb dX4_init_86 rfl hl (by decide) rfl (fun ls hl => ?_)
  obtain ⟨n6, hw⟩ := hw
  exact t_X4_init_87 hC q hq0 _ hA n6 _ _ hw H locs hP hD hS ls (lv_sub hl [1, 0] rfl)
set_option maxHeartbeats 4000000 in
set_option maxRecDepth 100000 in
theorem c_X4_init (l : Launch) (D : va_G) (cs : Nat → ClassId) (h0 : Nat) (sz : Nat) (Q : MS → Prop) (hw : wp_X4_init zM0 Q) : Met l yX4_init wsX4_init ({ frames := 1, cells := 8, slots := 6258, locals := 21 } : Room) (va_Pc [.ref h0] (PC D cs ([(h0, .inr (4, [.int 0, .null, .int 0, .null, .null, .null, .int 0, .null, .null, .null, .null]))]) sz)) (va_Qv (fun (u : (Nat → Nat) × MS) => Q u.2) (fun (u : (Nat → Nat) × MS) t => va_P D vwCl (w_Mod cs u.1 u.2) t.heap ∧ va_D (va_A ([(h0, .inr (4, [.int 0, .null, .int 0, .null, .null, .null, .int 0, .null, .null, .null, .null]))]) sz) (w_Mod cs u.1 u.2) ∧ u.1 0 = h0) (va_A ([(h0, .inr (4, [.int 0, .null, .int 0, .null, .null, .null, .int 0, .null, .null, .null, .null]))]) sz)) 8 6258 (va_A ([(h0, .inr (4, [.int 0, .null, .int 0, .null, .null, .null, .int 0, .null, .null, .null, .null]))]) sz) := by
  refine Met.ofW (cc := cX4_init) (maxL := 2) (ret := none) (by decide) rfl ?_
  intro p e s m args below meth c s₁ B hml hv
  obtain ⟨rfl, hsz, hP, hKK, hD0⟩ := hv
  have hC : MAt p s m _ meth c RX4 cX4_init 2 none wsX4_init D cs := ⟨B.exec, B.bytes, B.returns, hml, findClass_of_methodNamed B.named, atoms_spec (ws := wsX4_init) B.pre, B.notSynchronized, hKK⟩
  have hin : meth.name = "<init>" := (name_of_methodNamed B.named B.method).1
  obtain ⟨hx, hb, hr, hml, hown, hts, hlocks, -⟩ := id hC
  have hK := hKK.1
  have hl := lv_entry ([.ref h0]) (n := 2) (Nat.le_of_ble_eq_true rfl)
  rw [lg_entry_eq]
  generalize (lg_sl ([.ref h0]) ++ List.replicate (2 - (lg_sl ([.ref h0])).length) Slot.unset).toArray = ls at hl ⊢
  have hl : lv_has ls 2 [(0, .ref h0)] := hl
  subst hsz
  have hD := hD0.self (sz := s.heap.size)
  generalize hAe : va_A ([(h0, .inr (4, [.int 0, .null, .int 0, .null, .null, .null, .int 0, .null, .null, .null, .null]))]) s.heap.size = A at hD ⊢
  have hA : ∀ z : Nat, s.heap.size ≤ z → A z := fun z h => by rw [← hAe]; exact Or.inr h
  have hS : va_S A s.heap s.heap [] := va_S.rf
  have hP : va_P D vwCl ([(h0, .inr (4, [.int 0, .null, .int 0, .null, .null, .null, .int 0, .null, .null, .null, .null]))]) s.heap := hP
  refine lv_aload_n hx hb dX4_init_0 rfl (lv_at hl 0 rfl) ?_
  refine W.objInit hx hb hown (z_w hts 1 rfl) (z_w hts 2 rfl) (z_w hts 3 rfl) rfl (by rw [hml]; exact hl.1) rfl dX4_init_1 (Nat.le_of_ble_eq_true rfl) (Nat.le_of_ble_eq_true rfl) ?_
  refine W.eq (g2 := F0 m 4 ls []) rfl ?_
  refine lv_aload_n hx hb dX4_init_4 rfl (lv_at hl 0 rfl) ?_
  refine lv_bipush (v := (100 : Int32)) hx hb dX4_init_5 (by decide) ?_
  refine va_newa (atype := .int) (N' := 100) (a0 := (100, .inl (fun _ => (0 : Int32)))) hx hb (z_w hts 4 rfl) rfl hK hP hD hS hA (fun cA => rfl) (by decide) (by decide) (Nat.le_of_ble_eq_true rfl) (Nat.le_of_ble_eq_true rfl) (Nat.le_of_ble_eq_true rfl) dX4_init_7 (fun q1 cA H hK1 hP hD hS => ?_)
  obtain rfl := z_c0 hK1
  have hP : va_P D vwCl ([(h0, .inr (4, [.int 0, .null, .int 0, .null, .null, .null, .int 0, .null, .null, .null, .null])), (q1, .inl (cs 0, 100, .inl (fun _ => (0 : Int32))))]) H := hP
  have hD : va_D A ([(h0, .inr (4, [.int 0, .null, .int 0, .null, .null, .null, .int 0, .null, .null, .null, .null])), (q1, .inl (cs 0, 100, .inl (fun _ => (0 : Int32))))]) := hD
  refine va_putF (D := D) (ci := 4) (v := .ref q1) (ty := .array .int) (C := RX4) (T := TX4) (N := 11) hx hb hts (h_X4_X4_init) tyX4 tyX4_ok nmX4 hown hK hP hD hS 0 rfl rfl 1 (by decide) (z_w hts 5 rfl) (fun _ h9 => h9) rfl hin rfl (by decide +kernel) rfl rfl (Nat.le_of_ble_eq_true rfl) dX4_init_9 (fun H locs hP hD hS => ?_)
  have hP : va_P D vwCl ([(h0, .inr (4, [.int 0, .ref q1, .int 0, .null, .null, .null, .int 0, .null, .null, .null, .null])), (q1, .inl (cs 0, 100, .inl (fun _ => (0 : Int32))))]) H := hP
  have hD : va_D A ([(h0, .inr (4, [.int 0, .ref q1, .int 0, .null, .null, .null, .int 0, .null, .null, .null, .null])), (q1, .inl (cs 0, 100, .inl (fun _ => (0 : Int32))))]) := hD
  refine lv_aload_n hx hb dX4_init_12 rfl (lv_at hl 0 rfl) ?_
  refine lv_sipush (v := (336 : Int32)) hx hb dX4_init_13 (by decide) ?_
  refine va_newa (atype := .int) (N' := 336) (a0 := (336, .inl (fun _ => (0 : Int32)))) hx hb (z_w hts 4 rfl) rfl hK hP hD hS hA (fun cA => rfl) (by decide) (by decide) (Nat.le_of_ble_eq_true rfl) (Nat.le_of_ble_eq_true rfl) (Nat.le_of_ble_eq_true rfl) dX4_init_16 (fun q2 cA H hK1 hP hD hS => ?_)
  obtain rfl := z_c0 hK1
  have hP : va_P D vwCl ([(h0, .inr (4, [.int 0, .ref q1, .int 0, .null, .null, .null, .int 0, .null, .null, .null, .null])), (q1, .inl (cs 0, 100, .inl (fun _ => (0 : Int32)))), (q2, .inl (cs 0, 336, .inl (fun _ => (0 : Int32))))]) H := hP
  have hD : va_D A ([(h0, .inr (4, [.int 0, .ref q1, .int 0, .null, .null, .null, .int 0, .null, .null, .null, .null])), (q1, .inl (cs 0, 100, .inl (fun _ => (0 : Int32)))), (q2, .inl (cs 0, 336, .inl (fun _ => (0 : Int32))))]) := hD
  refine va_putF (D := D) (ci := 4) (v := .ref q2) (ty := .array .int) (C := RX4) (T := TX4) (N := 11) hx hb hts (h_X4_X4_init) tyX4 tyX4_ok nmX4 hown hK hP hD hS 0 rfl rfl 3 (by decide) (z_w hts 6 rfl) (fun _ h9 => h9) rfl hin rfl (by decide +kernel) rfl rfl (Nat.le_of_ble_eq_true rfl) dX4_init_18 (fun H locs hP hD hS => ?_)
  have hP : va_P D vwCl ([(h0, .inr (4, [.int 0, .ref q1, .int 0, .ref q2, .null, .null, .int 0, .null, .null, .null, .null])), (q1, .inl (cs 0, 100, .inl (fun _ => (0 : Int32)))), (q2, .inl (cs 0, 336, .inl (fun _ => (0 : Int32))))]) H := hP
  have hD : va_D A ([(h0, .inr (4, [.int 0, .ref q1, .int 0, .ref q2, .null, .null, .int 0, .null, .null, .null, .null])), (q1, .inl (cs 0, 100, .inl (fun _ => (0 : Int32)))), (q2, .inl (cs 0, 336, .inl (fun _ => (0 : Int32))))]) := hD
  refine lv_aload_n hx hb dX4_init_21 rfl (lv_at hl 0 rfl) ?_
  refine lv_sipush (v := (336 : Int32)) hx hb dX4_init_22 (by decide) ?_
  refine va_newa (atype := .int) (N' := 336) (a0 := (336, .inl (fun _ => (0 : Int32)))) hx hb (z_w hts 4 rfl) rfl hK hP hD hS hA (fun cA => rfl) (by decide) (by decide) (Nat.le_of_ble_eq_true rfl) (Nat.le_of_ble_eq_true rfl) (Nat.le_of_ble_eq_true rfl) dX4_init_25 (fun q3 cA H hK1 hP hD hS => ?_)
  obtain rfl := z_c0 hK1
  have hP : va_P D vwCl ([(h0, .inr (4, [.int 0, .ref q1, .int 0, .ref q2, .null, .null, .int 0, .null, .null, .null, .null])), (q1, .inl (cs 0, 100, .inl (fun _ => (0 : Int32)))), (q2, .inl (cs 0, 336, .inl (fun _ => (0 : Int32)))), (q3, .inl (cs 0, 336, .inl (fun _ => (0 : Int32))))]) H := hP
  have hD : va_D A ([(h0, .inr (4, [.int 0, .ref q1, .int 0, .ref q2, .null, .null, .int 0, .null, .null, .null, .null])), (q1, .inl (cs 0, 100, .inl (fun _ => (0 : Int32)))), (q2, .inl (cs 0, 336, .inl (fun _ => (0 : Int32)))), (q3, .inl (cs 0, 336, .inl (fun _ => (0 : Int32))))]) := hD
  refine va_putF (D := D) (ci := 4) (v := .ref q3) (ty := .array .int) (C := RX4) (T := TX4) (N := 11) hx hb hts (h_X4_X4_init) tyX4 tyX4_ok nmX4 hown hK hP hD hS 0 rfl rfl 4 (by decide) (z_w hts 7 rfl) (fun _ h9 => h9) rfl hin rfl (by decide +kernel) rfl rfl (Nat.le_of_ble_eq_true rfl) dX4_init_27 (fun H locs hP hD hS => ?_)
  have hP : va_P D vwCl ([(h0, .inr (4, [.int 0, .ref q1, .int 0, .ref q2, .ref q3, .null, .int 0, .null, .null, .null, .null])), (q1, .inl (cs 0, 100, .inl (fun _ => (0 : Int32)))), (q2, .inl (cs 0, 336, .inl (fun _ => (0 : Int32)))), (q3, .inl (cs 0, 336, .inl (fun _ => (0 : Int32))))]) H := hP
  have hD : va_D A ([(h0, .inr (4, [.int 0, .ref q1, .int 0, .ref q2, .ref q3, .null, .int 0, .null, .null, .null, .null])), (q1, .inl (cs 0, 100, .inl (fun _ => (0 : Int32)))), (q2, .inl (cs 0, 336, .inl (fun _ => (0 : Int32)))), (q3, .inl (cs 0, 336, .inl (fun _ => (0 : Int32))))]) := hD
  refine lv_aload_n hx hb dX4_init_30 rfl (lv_at hl 0 rfl) ?_
  refine lv_sipush (v := (4704 : Int32)) hx hb dX4_init_31 (by decide) ?_
  refine va_newa (atype := .int) (N' := 4704) (a0 := (4704, .inl (fun _ => (0 : Int32)))) hx hb (z_w hts 4 rfl) rfl hK hP hD hS hA (fun cA => rfl) (by decide) (by decide) (Nat.le_of_ble_eq_true rfl) (Nat.le_of_ble_eq_true rfl) (Nat.le_of_ble_eq_true rfl) dX4_init_34 (fun q4 cA H hK1 hP hD hS => ?_)
  obtain rfl := z_c0 hK1
  have hP : va_P D vwCl ([(h0, .inr (4, [.int 0, .ref q1, .int 0, .ref q2, .ref q3, .null, .int 0, .null, .null, .null, .null])), (q1, .inl (cs 0, 100, .inl (fun _ => (0 : Int32)))), (q2, .inl (cs 0, 336, .inl (fun _ => (0 : Int32)))), (q3, .inl (cs 0, 336, .inl (fun _ => (0 : Int32)))), (q4, .inl (cs 0, 4704, .inl (fun _ => (0 : Int32))))]) H := hP
  have hD : va_D A ([(h0, .inr (4, [.int 0, .ref q1, .int 0, .ref q2, .ref q3, .null, .int 0, .null, .null, .null, .null])), (q1, .inl (cs 0, 100, .inl (fun _ => (0 : Int32)))), (q2, .inl (cs 0, 336, .inl (fun _ => (0 : Int32)))), (q3, .inl (cs 0, 336, .inl (fun _ => (0 : Int32)))), (q4, .inl (cs 0, 4704, .inl (fun _ => (0 : Int32))))]) := hD
  refine va_putF (D := D) (ci := 4) (v := .ref q4) (ty := .array .int) (C := RX4) (T := TX4) (N := 11) hx hb hts (h_X4_X4_init) tyX4 tyX4_ok nmX4 hown hK hP hD hS 0 rfl rfl 5 (by decide) (z_w hts 8 rfl) (fun _ h9 => h9) rfl hin rfl (by decide +kernel) rfl rfl (Nat.le_of_ble_eq_true rfl) dX4_init_36 (fun H locs hP hD hS => ?_)
  have hP : va_P D vwCl ([(h0, .inr (4, [.int 0, .ref q1, .int 0, .ref q2, .ref q3, .ref q4, .int 0, .null, .null, .null, .null])), (q1, .inl (cs 0, 100, .inl (fun _ => (0 : Int32)))), (q2, .inl (cs 0, 336, .inl (fun _ => (0 : Int32)))), (q3, .inl (cs 0, 336, .inl (fun _ => (0 : Int32)))), (q4, .inl (cs 0, 4704, .inl (fun _ => (0 : Int32))))]) H := hP
  have hD : va_D A ([(h0, .inr (4, [.int 0, .ref q1, .int 0, .ref q2, .ref q3, .ref q4, .int 0, .null, .null, .null, .null])), (q1, .inl (cs 0, 100, .inl (fun _ => (0 : Int32)))), (q2, .inl (cs 0, 336, .inl (fun _ => (0 : Int32)))), (q3, .inl (cs 0, 336, .inl (fun _ => (0 : Int32)))), (q4, .inl (cs 0, 4704, .inl (fun _ => (0 : Int32))))]) := hD
  refine lv_aload_n hx hb dX4_init_39 rfl (lv_at hl 0 rfl) ?_
  refine lv_sipush (v := (672 : Int32)) hx hb dX4_init_40 (by decide) ?_
  refine va_newa (atype := .int) (N' := 672) (a0 := (672, .inl (fun _ => (0 : Int32)))) hx hb (z_w hts 4 rfl) rfl hK hP hD hS hA (fun cA => rfl) (by decide) (by decide) (Nat.le_of_ble_eq_true rfl) (Nat.le_of_ble_eq_true rfl) (Nat.le_of_ble_eq_true rfl) dX4_init_43 (fun q5 cA H hK1 hP hD hS => ?_)
  obtain rfl := z_c0 hK1
  have hP : va_P D vwCl ([(h0, .inr (4, [.int 0, .ref q1, .int 0, .ref q2, .ref q3, .ref q4, .int 0, .null, .null, .null, .null])), (q1, .inl (cs 0, 100, .inl (fun _ => (0 : Int32)))), (q2, .inl (cs 0, 336, .inl (fun _ => (0 : Int32)))), (q3, .inl (cs 0, 336, .inl (fun _ => (0 : Int32)))), (q4, .inl (cs 0, 4704, .inl (fun _ => (0 : Int32)))), (q5, .inl (cs 0, 672, .inl (fun _ => (0 : Int32))))]) H := hP
  have hD : va_D A ([(h0, .inr (4, [.int 0, .ref q1, .int 0, .ref q2, .ref q3, .ref q4, .int 0, .null, .null, .null, .null])), (q1, .inl (cs 0, 100, .inl (fun _ => (0 : Int32)))), (q2, .inl (cs 0, 336, .inl (fun _ => (0 : Int32)))), (q3, .inl (cs 0, 336, .inl (fun _ => (0 : Int32)))), (q4, .inl (cs 0, 4704, .inl (fun _ => (0 : Int32)))), (q5, .inl (cs 0, 672, .inl (fun _ => (0 : Int32))))]) := hD
  refine va_putF (D := D) (ci := 4) (v := .ref q5) (ty := .array .int) (C := RX4) (T := TX4) (N := 11) hx hb hts (h_X4_X4_init) tyX4 tyX4_ok nmX4 hown hK hP hD hS 0 rfl rfl 7 (by decide) (z_w hts 9 rfl) (fun _ h9 => h9) rfl hin rfl (by decide +kernel) rfl rfl (Nat.le_of_ble_eq_true rfl) dX4_init_45 (fun H locs hP hD hS => ?_)
  have hP : va_P D vwCl ([(h0, .inr (4, [.int 0, .ref q1, .int 0, .ref q2, .ref q3, .ref q4, .int 0, .ref q5, .null, .null, .null])), (q1, .inl (cs 0, 100, .inl (fun _ => (0 : Int32)))), (q2, .inl (cs 0, 336, .inl (fun _ => (0 : Int32)))), (q3, .inl (cs 0, 336, .inl (fun _ => (0 : Int32)))), (q4, .inl (cs 0, 4704, .inl (fun _ => (0 : Int32)))), (q5, .inl (cs 0, 672, .inl (fun _ => (0 : Int32))))]) H := hP
  have hD : va_D A ([(h0, .inr (4, [.int 0, .ref q1, .int 0, .ref q2, .ref q3, .ref q4, .int 0, .ref q5, .null, .null, .null])), (q1, .inl (cs 0, 100, .inl (fun _ => (0 : Int32)))), (q2, .inl (cs 0, 336, .inl (fun _ => (0 : Int32)))), (q3, .inl (cs 0, 336, .inl (fun _ => (0 : Int32)))), (q4, .inl (cs 0, 4704, .inl (fun _ => (0 : Int32)))), (q5, .inl (cs 0, 672, .inl (fun _ => (0 : Int32))))]) := hD
  refine lv_aload_n hx hb dX4_init_48 rfl (lv_at hl 0 rfl) ?_
  refine lv_iconst (v := (2 : Int32)) hx hb dX4_init_49 (by decide) ?_
  refine va_newa (atype := .boolean) (N' := 2) (a0 := (2, .inl (fun _ => (0 : Int32)))) hx hb (z_w hts 10 rfl) rfl hK hP hD hS hA (fun cA => rfl) (by decide) (by decide) (Nat.le_of_ble_eq_true rfl) (Nat.le_of_ble_eq_true rfl) (Nat.le_of_ble_eq_true rfl) dX4_init_50 (fun q6 cA H hK1 hP hD hS => ?_)
  obtain rfl := z_c1 hK1
  have hP : va_P D vwCl ([(h0, .inr (4, [.int 0, .ref q1, .int 0, .ref q2, .ref q3, .ref q4, .int 0, .ref q5, .null, .null, .null])), (q1, .inl (cs 0, 100, .inl (fun _ => (0 : Int32)))), (q2, .inl (cs 0, 336, .inl (fun _ => (0 : Int32)))), (q3, .inl (cs 0, 336, .inl (fun _ => (0 : Int32)))), (q4, .inl (cs 0, 4704, .inl (fun _ => (0 : Int32)))), (q5, .inl (cs 0, 672, .inl (fun _ => (0 : Int32)))), (q6, .inl (cs 1, 2, .inl (fun _ => (0 : Int32))))]) H := hP
  have hD : va_D A ([(h0, .inr (4, [.int 0, .ref q1, .int 0, .ref q2, .ref q3, .ref q4, .int 0, .ref q5, .null, .null, .null])), (q1, .inl (cs 0, 100, .inl (fun _ => (0 : Int32)))), (q2, .inl (cs 0, 336, .inl (fun _ => (0 : Int32)))), (q3, .inl (cs 0, 336, .inl (fun _ => (0 : Int32)))), (q4, .inl (cs 0, 4704, .inl (fun _ => (0 : Int32)))), (q5, .inl (cs 0, 672, .inl (fun _ => (0 : Int32)))), (q6, .inl (cs 1, 2, .inl (fun _ => (0 : Int32))))]) := hD
  refine va_putF (D := D) (ci := 4) (v := .ref q6) (ty := .array .boolean) (C := RX4) (T := TX4) (N := 11) hx hb hts (h_X4_X4_init) tyX4 tyX4_ok nmX4 hown hK hP hD hS 0 rfl rfl 8 (by decide) (z_w hts 11 rfl) (fun _ h9 => h9) rfl hin rfl (by decide +kernel) rfl rfl (Nat.le_of_ble_eq_true rfl) dX4_init_52 (fun H locs hP hD hS => ?_)
  have hP : va_P D vwCl ([(h0, .inr (4, [.int 0, .ref q1, .int 0, .ref q2, .ref q3, .ref q4, .int 0, .ref q5, .ref q6, .null, .null])), (q1, .inl (cs 0, 100, .inl (fun _ => (0 : Int32)))), (q2, .inl (cs 0, 336, .inl (fun _ => (0 : Int32)))), (q3, .inl (cs 0, 336, .inl (fun _ => (0 : Int32)))), (q4, .inl (cs 0, 4704, .inl (fun _ => (0 : Int32)))), (q5, .inl (cs 0, 672, .inl (fun _ => (0 : Int32)))), (q6, .inl (cs 1, 2, .inl (fun _ => (0 : Int32))))]) H := hP
  have hD : va_D A ([(h0, .inr (4, [.int 0, .ref q1, .int 0, .ref q2, .ref q3, .ref q4, .int 0, .ref q5, .ref q6, .null, .null])), (q1, .inl (cs 0, 100, .inl (fun _ => (0 : Int32)))), (q2, .inl (cs 0, 336, .inl (fun _ => (0 : Int32)))), (q3, .inl (cs 0, 336, .inl (fun _ => (0 : Int32)))), (q4, .inl (cs 0, 4704, .inl (fun _ => (0 : Int32)))), (q5, .inl (cs 0, 672, .inl (fun _ => (0 : Int32)))), (q6, .inl (cs 1, 2, .inl (fun _ => (0 : Int32))))]) := hD
  refine lv_aload_n hx hb dX4_init_55 rfl (lv_at hl 0 rfl) ?_
  refine lv_bipush (v := (54 : Int32)) hx hb dX4_init_56 (by decide) ?_
  refine va_newa (atype := .int) (N' := 54) (a0 := (54, .inl (fun _ => (0 : Int32)))) hx hb (z_w hts 4 rfl) rfl hK hP hD hS hA (fun cA => rfl) (by decide) (by decide) (Nat.le_of_ble_eq_true rfl) (Nat.le_of_ble_eq_true rfl) (Nat.le_of_ble_eq_true rfl) dX4_init_58 (fun q7 cA H hK1 hP hD hS => ?_)
  obtain rfl := z_c0 hK1
  have hP : va_P D vwCl ([(h0, .inr (4, [.int 0, .ref q1, .int 0, .ref q2, .ref q3, .ref q4, .int 0, .ref q5, .ref q6, .null, .null])), (q1, .inl (cs 0, 100, .inl (fun _ => (0 : Int32)))), (q2, .inl (cs 0, 336, .inl (fun _ => (0 : Int32)))), (q3, .inl (cs 0, 336, .inl (fun _ => (0 : Int32)))), (q4, .inl (cs 0, 4704, .inl (fun _ => (0 : Int32)))), (q5, .inl (cs 0, 672, .inl (fun _ => (0 : Int32)))), (q6, .inl (cs 1, 2, .inl (fun _ => (0 : Int32)))), (q7, .inl (cs 0, 54, .inl (fun _ => (0 : Int32))))]) H := hP
  have hD : va_D A ([(h0, .inr (4, [.int 0, .ref q1, .int 0, .ref q2, .ref q3, .ref q4, .int 0, .ref q5, .ref q6, .null, .null])), (q1, .inl (cs 0, 100, .inl (fun _ => (0 : Int32)))), (q2, .inl (cs 0, 336, .inl (fun _ => (0 : Int32)))), (q3, .inl (cs 0, 336, .inl (fun _ => (0 : Int32)))), (q4, .inl (cs 0, 4704, .inl (fun _ => (0 : Int32)))), (q5, .inl (cs 0, 672, .inl (fun _ => (0 : Int32)))), (q6, .inl (cs 1, 2, .inl (fun _ => (0 : Int32)))), (q7, .inl (cs 0, 54, .inl (fun _ => (0 : Int32))))]) := hD
  refine va_putF (D := D) (ci := 4) (v := .ref q7) (ty := .array .int) (C := RX4) (T := TX4) (N := 11) hx hb hts (h_X4_X4_init) tyX4 tyX4_ok nmX4 hown hK hP hD hS 0 rfl rfl 9 (by decide) (z_w hts 12 rfl) (fun _ h9 => h9) rfl hin rfl (by decide +kernel) rfl rfl (Nat.le_of_ble_eq_true rfl) dX4_init_60 (fun H locs hP hD hS => ?_)
  have hP : va_P D vwCl ([(h0, .inr (4, [.int 0, .ref q1, .int 0, .ref q2, .ref q3, .ref q4, .int 0, .ref q5, .ref q6, .ref q7, .null])), (q1, .inl (cs 0, 100, .inl (fun _ => (0 : Int32)))), (q2, .inl (cs 0, 336, .inl (fun _ => (0 : Int32)))), (q3, .inl (cs 0, 336, .inl (fun _ => (0 : Int32)))), (q4, .inl (cs 0, 4704, .inl (fun _ => (0 : Int32)))), (q5, .inl (cs 0, 672, .inl (fun _ => (0 : Int32)))), (q6, .inl (cs 1, 2, .inl (fun _ => (0 : Int32)))), (q7, .inl (cs 0, 54, .inl (fun _ => (0 : Int32))))]) H := hP
  have hD : va_D A ([(h0, .inr (4, [.int 0, .ref q1, .int 0, .ref q2, .ref q3, .ref q4, .int 0, .ref q5, .ref q6, .ref q7, .null])), (q1, .inl (cs 0, 100, .inl (fun _ => (0 : Int32)))), (q2, .inl (cs 0, 336, .inl (fun _ => (0 : Int32)))), (q3, .inl (cs 0, 336, .inl (fun _ => (0 : Int32)))), (q4, .inl (cs 0, 4704, .inl (fun _ => (0 : Int32)))), (q5, .inl (cs 0, 672, .inl (fun _ => (0 : Int32)))), (q6, .inl (cs 1, 2, .inl (fun _ => (0 : Int32)))), (q7, .inl (cs 0, 54, .inl (fun _ => (0 : Int32))))]) := hD
  refine lv_aload_n hx hb dX4_init_63 rfl (lv_at hl 0 rfl) ?_
  refine lv_bipush (v := (54 : Int32)) hx hb dX4_init_64 (by decide) ?_
  refine va_newa (atype := .int) (N' := 54) (a0 := (54, .inl (fun _ => (0 : Int32)))) hx hb (z_w hts 4 rfl) rfl hK hP hD hS hA (fun cA => rfl) (by decide) (by decide) (Nat.le_of_ble_eq_true rfl) (Nat.le_of_ble_eq_true rfl) (Nat.le_of_ble_eq_true rfl) dX4_init_66 (fun q8 cA H hK1 hP hD hS => ?_)
  obtain rfl := z_c0 hK1
  have hP : va_P D vwCl ([(h0, .inr (4, [.int 0, .ref q1, .int 0, .ref q2, .ref q3, .ref q4, .int 0, .ref q5, .ref q6, .ref q7, .null])), (q1, .inl (cs 0, 100, .inl (fun _ => (0 : Int32)))), (q2, .inl (cs 0, 336, .inl (fun _ => (0 : Int32)))), (q3, .inl (cs 0, 336, .inl (fun _ => (0 : Int32)))), (q4, .inl (cs 0, 4704, .inl (fun _ => (0 : Int32)))), (q5, .inl (cs 0, 672, .inl (fun _ => (0 : Int32)))), (q6, .inl (cs 1, 2, .inl (fun _ => (0 : Int32)))), (q7, .inl (cs 0, 54, .inl (fun _ => (0 : Int32)))), (q8, .inl (cs 0, 54, .inl (fun _ => (0 : Int32))))]) H := hP
  have hD : va_D A ([(h0, .inr (4, [.int 0, .ref q1, .int 0, .ref q2, .ref q3, .ref q4, .int 0, .ref q5, .ref q6, .ref q7, .null])), (q1, .inl (cs 0, 100, .inl (fun _ => (0 : Int32)))), (q2, .inl (cs 0, 336, .inl (fun _ => (0 : Int32)))), (q3, .inl (cs 0, 336, .inl (fun _ => (0 : Int32)))), (q4, .inl (cs 0, 4704, .inl (fun _ => (0 : Int32)))), (q5, .inl (cs 0, 672, .inl (fun _ => (0 : Int32)))), (q6, .inl (cs 1, 2, .inl (fun _ => (0 : Int32)))), (q7, .inl (cs 0, 54, .inl (fun _ => (0 : Int32)))), (q8, .inl (cs 0, 54, .inl (fun _ => (0 : Int32))))]) := hD
  refine va_putF (D := D) (ci := 4) (v := .ref q8) (ty := .array .int) (C := RX4) (T := TX4) (N := 11) hx hb hts (h_X4_X4_init) tyX4 tyX4_ok nmX4 hown hK hP hD hS 0 rfl rfl 10 (by decide) (z_w hts 13 rfl) (fun _ h9 => h9) rfl hin rfl (by decide +kernel) rfl rfl (Nat.le_of_ble_eq_true rfl) dX4_init_68 (fun H locs hP hD hS => ?_)
  have hP : va_P D vwCl ([(h0, .inr (4, [.int 0, .ref q1, .int 0, .ref q2, .ref q3, .ref q4, .int 0, .ref q5, .ref q6, .ref q7, .ref q8])), (q1, .inl (cs 0, 100, .inl (fun _ => (0 : Int32)))), (q2, .inl (cs 0, 336, .inl (fun _ => (0 : Int32)))), (q3, .inl (cs 0, 336, .inl (fun _ => (0 : Int32)))), (q4, .inl (cs 0, 4704, .inl (fun _ => (0 : Int32)))), (q5, .inl (cs 0, 672, .inl (fun _ => (0 : Int32)))), (q6, .inl (cs 1, 2, .inl (fun _ => (0 : Int32)))), (q7, .inl (cs 0, 54, .inl (fun _ => (0 : Int32)))), (q8, .inl (cs 0, 54, .inl (fun _ => (0 : Int32))))]) H := hP
  have hD : va_D A ([(h0, .inr (4, [.int 0, .ref q1, .int 0, .ref q2, .ref q3, .ref q4, .int 0, .ref q5, .ref q6, .ref q7, .ref q8])), (q1, .inl (cs 0, 100, .inl (fun _ => (0 : Int32)))), (q2, .inl (cs 0, 336, .inl (fun _ => (0 : Int32)))), (q3, .inl (cs 0, 336, .inl (fun _ => (0 : Int32)))), (q4, .inl (cs 0, 4704, .inl (fun _ => (0 : Int32)))), (q5, .inl (cs 0, 672, .inl (fun _ => (0 : Int32)))), (q6, .inl (cs 1, 2, .inl (fun _ => (0 : Int32)))), (q7, .inl (cs 0, 54, .inl (fun _ => (0 : Int32)))), (q8, .inl (cs 0, 54, .inl (fun _ => (0 : Int32))))]) := hD
  have hP : va_P D vwCl (w_Mod cs (z_q9 h0 q1 q2 q3 q4 q5 q6 q7 q8) zM0) H := hP
  have hD : va_D A (w_Mod cs (z_q9 h0 q1 q2 q3 q4 q5 q6 q7 q8) zM0) := hD
  exact t_X4_init hC (z_q9 h0 q1 q2 q3 q4 q5 q6 q7 q8) rfl zM0 Q hA hw H _ hP hD hS ls hl

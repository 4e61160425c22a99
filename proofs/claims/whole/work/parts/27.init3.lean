theorem h_X0_X3_init : ∀ w ∈ u_ws RX0 TX0 3, w ∈ wsX3_init := fun _ h => List.mem_cons_of_mem _ (List.mem_append_right _ h)
theorem h_X1_X3_init : ∀ w ∈ u_ws RX1 TX1 13, w ∈ wsX3_init := fun _ h => List.mem_cons_of_mem _ (List.mem_append_left _ (List.mem_append_right _ h))
theorem h_X2_X3_init : ∀ w ∈ u_ws RX2 TX2 2, w ∈ wsX3_init := fun _ h => List.mem_cons_of_mem _ (List.mem_append_left _ (List.mem_append_left _ (List.mem_append_left _ (List.mem_append_right _ h))))
theorem h_X3_X3_init : ∀ w ∈ u_ws RX3 TX3 7, w ∈ wsX3_init := fun _ h => List.mem_cons_of_mem _ (List.mem_append_left _ (List.mem_append_left _ (List.mem_append_right _ h)))
def zA (n r : Nat → Nat) (b ah : Nat → Nat → Nat) : Nat → Nat → Nat := fun k => if k < 4 then (if k < 2 then (if k = 0 then n else r) else b (k - 2)) else ah (k - 4)
theorem zA_4 {n r : Nat → Nat} {b ah : Nat → Nat → Nat} (k : Nat) : zA n r b ah (4 + k) = ah k := by
  unfold zA
  rw [if_neg (by omega), show 4 + k - 4 = k by omega]
theorem linesW_split {cs : Nat → ClassId} {a : Nat → Nat → Nat} {m n : Nat} {L : LnS} : linesW cs a (m + n) (fun _ => L) = linesW cs a m (fun _ => L) ++ linesW cs (fun k => a (m + k)) n (fun _ => L) := by
  induction n with
  | zero => simp [linesW]
  | succ n ih => rw [← Nat.add_assoc, linesW_succ, linesW_succ, ih, List.append_assoc]
theorem z_front {α : Type} {A B C : List α} : (A ++ (B ++ C)).Perm (B ++ (A ++ C)) := by
  rw [← List.append_assoc, ← List.append_assoc]
  exact List.Perm.append_right C List.perm_append_comm
theorem z_idx {α : Type} (f : Nat → List α) {i j : List Nat} (h : i.Perm j) : (i.map f).flatten.Perm (j.map f).flatten := (h.map f).flatten
set_option maxHeartbeats 4000000 in
set_option maxRecDepth 100000 in
theorem t_X3_init_72 {p : Program} {l : Launch} {e : Env} {s : State} {m : MethodId} {args : Array Value} {below : List Frame} {meth : Method} {c : Code} {D : va_G} {cs : Nat → ClassId} {A : Nat → Prop} (hC : MAt p s m args meth c RX3 cX3_init 2 none wsX3_init D cs) (h0 qs qu qk : Nat) (t g n r : Nat → Nat) (ah : Nat → Nat → Nat) (RR : va_W) (hRR : RR = (([(qu, .inl (cs 1, 2, .inl (fun _ => (0 : Int32)))), (qk, .inl (cs 0, 3, .inl (fun _ => (0 : Int32))))] ++ w_Text cs t zT0) ++ ((w_HistI cs g ah (0, 0) ++ linesW cs ah 14 (fun _ => zL1)) ++ (w_Line cs n zL1 ++ w_Line cs r zL1)))) (hA : ∀ z : Nat, s.heap.size ≤ z → A z) : ∀ (fu i : Nat) (x1 : Int32) (b : Nat → Nat → Nat), i + fu = 2 → x1 = nI i → ∀ (H : Heap) (locs : List Loc), va_P D vwCl ([(h0, .inr (3, [.ref (t 0), .ref (n 0), .ref (g 0), .ref qs, .ref qu, .ref (r 0), .ref qk])), (qs, .inl (cs 4, 2, .inr (.inr (.inr (.inr (fun k => if k < i then some (b k 0) else none))))))] ++ (RR ++ linesW cs b i (fun _ => zL1))) H → va_D A ([(h0, .inr (3, [.ref (t 0), .ref (n 0), .ref (g 0), .ref qs, .ref qu, .ref (r 0), .ref qk])), (qs, .inl (cs 4, 2, .inr (.inr (.inr (.inr (fun k => if k < i then some (b k 0) else none))))))] ++ (RR ++ linesW cs b i (fun _ => zL1))) → va_S A s.heap H locs → ∀ ls : Array Slot, lv_has ls 2 [(0, .ref h0), (1, .int x1)] → W p l e ({ frames := 3, cells := 187, slots := 6188, locals := 55 } : Room) s m args below meth c H locs (167 + 10 * i) (5500 + 335 * i) (MQ below (va_Qv (fun (u : (Nat → Nat) × (Nat → Nat) × (Nat → Nat) × (Nat → Nat → Nat)) => True) (fun (u : (Nat → Nat) × (Nat → Nat) × (Nat → Nat) × (Nat → Nat → Nat)) t => va_P D vwCl (w_Xo cs u.1 u.2.1 u.2.2.1 u.2.2.2 zX0 ++ w_Text cs u.2.1 zT0 ++ w_Hist cs u.2.2.1 u.2.2.2 (0, 0) ++ linesW cs u.2.2.2 18 (fun _ => zL1)) t.heap ∧ va_D A (w_Xo cs u.1 u.2.1 u.2.2.1 u.2.2.2 zX0 ++ w_Text cs u.2.1 zT0 ++ w_Hist cs u.2.2.1 u.2.2.2 (0, 0) ++ linesW cs u.2.2.2 18 (fun _ => zL1)) ∧ u.1 0 = h0) A) args s 187 6188 A) (F0 m 72 ls []) := by
  obtain ⟨hx, hb, hr, hml, hown, hts, hlocks, hKK⟩ := id hC
  have hK := hKK.1
  intro fu
  induction fu with
  | zero =>
    intro i x1 b hin ex1 H locs hP hD hS ls hl
    obtain rfl : i = 2 := by omega
    subst ex1
    refine lv_iload_n hx hb dX3_init_72 rfl (lv_at hl 1 rfl) ?_
    refine lv_iconst (v := (2 : Int32)) hx hb dX3_init_73 (by decide) ?_
    refine lv_icmp_ge (tgt := 96) hx hb dX3_init_74 (by decide) (fun _ => ?_) (fun c1 => absurd (by decide) c1)
    obtain ⟨a, ea⟩ : ∃ z : Nat → Nat → Nat, z = zA n r b ah := ⟨_, rfl⟩
    obtain ⟨x, exx⟩ : ∃ z : Nat → Nat, z = (fun k => match k with | 0 => h0 | 1 => qs | 2 => qu | _ => qk) := ⟨_, rfl⟩
    have e9 : va_at D vwCl (qs, .inl (cs 4, 2, .inr (.inr (.inr (.inr (fun k => some (a (2 + k) 0))))))) H := by
      have h9 : H[qs]? = some (vp_cell (cs 4) (2, .inr (.inr (.inr (.inr (fun k => if k < 2 then some (b k 0) else none)))))) := hP 1 _ rfl
      have h8 : vp_cell (cs 4) (2, .inr (.inr (.inr (.inr (fun k => if k < 2 then some (b k 0) else none))))) = vp_cell (cs 4) (2, .inr (.inr (.inr (.inr (fun k => some (a (2 + k) 0)))))) := by
        rw [vp_cell_q, vp_cell_q]
        unfold arrV
        congr 2
        funext j
        have hj : j.val < 2 := j.isLt
        show va_rf (if j.val < 2 then some (b j.val 0) else none) = va_rf (some (a (2 + j.val) 0))
        rw [if_pos hj, ea]
        unfold zA
        rw [if_pos (by omega), if_neg (by omega), show 2 + j.val - 2 = j.val by omega]
      exact h9.trans (congrArg some h8)
    have hP := hP.set hD (p := 1) rfl e9 (fun _ _ => rfl)
    have hD := hD.set (p := 1) (e := .inl (cs 4, 2, .inr (.inr (.inr (.inr (fun k => some (a (2 + k) 0))))))) rfl
    have hH : (fun k : Nat => some (a (4 + k) 0)) = (fun k => some (ah k 0)) := by
      funext k
      rw [ea, zA_4]
    have hL : linesW cs a 18 (fun _ => zL1) = (w_Line cs n zL1 ++ w_Line cs r zL1) ++ (linesW cs b 2 (fun _ => zL1) ++ linesW cs ah 14 (fun _ => zL1)) := by
      rw [show (18 : Nat) = 4 + 14 from rfl, linesW_split, show (4 : Nat) = 2 + 2 from rfl, linesW_split]
      rw [linesW_congr (a := fun k => a (2 + 2 + k)) (a' := ah) (Ls' := fun _ => zL1) (fun k _ => ⟨by rw [ea]; exact zA_4 k, rfl⟩)]
      rw [linesW_congr (a := fun k => a (2 + k)) (a' := b) (n := 2) (Ls' := fun _ => zL1) (fun k hk => ⟨by rw [ea]; unfold zA; rw [if_pos (by omega), if_neg (by omega), show 2 + k - 2 = k by omega], rfl⟩)]
      rw [List.append_assoc, ea]
      rfl
    have hperm : (([(h0, .inr (3, [.ref (t 0), .ref (n 0), .ref (g 0), .ref qs, .ref qu, .ref (r 0), .ref qk])), (qs, .inl (cs 4, 2, .inr (.inr (.inr (.inr (fun k => some (a (2 + k) 0)))))))] ++ (RR ++ linesW cs b 2 (fun _ => zL1))) : va_W).Perm (w_Xo cs x t g a zX0 ++ w_Text cs t zT0 ++ w_Hist cs g a (0, 0) ++ linesW cs a 18 (fun _ => zL1)) := by
      have h1 : w_Hist cs g a (0, 0) = w_HistI cs g ah (0, 0) := by
        show [_, _] = [_, _]
        rw [hH]
      have h2 : w_Xo cs x t g a zX0 = [(h0, .inr (3, [.ref (t 0), .ref (n 0), .ref (g 0), .ref qs, .ref qu, .ref (r 0), .ref qk])), (qs, .inl (cs 4, 2, .inr (.inr (.inr (.inr (fun k => some (a (2 + k) 0)))))))] ++ [(qu, .inl (cs 1, 2, .inl (fun _ => (0 : Int32)))), (qk, .inl (cs 0, 3, .inl (fun _ => (0 : Int32))))] := by
        rw [exx, ea]
        rfl
      rw [h1, h2, hL, hRR]
      have hz := z_idx (fun k => match k with | 0 => ([(h0, .inr (3, [.ref (t 0), .ref (n 0), .ref (g 0), .ref qs, .ref qu, .ref (r 0), .ref qk])), (qs, .inl (cs 4, 2, .inr (.inr (.inr (.inr (fun k => some (a (2 + k) 0)))))))] : va_W) | 1 => [(qu, .inl (cs 1, 2, .inl (fun _ => (0 : Int32)))), (qk, .inl (cs 0, 3, .inl (fun _ => (0 : Int32))))] | 2 => w_Text cs t zT0 | 3 => w_HistI cs g ah (0, 0) | 4 => linesW cs ah 14 (fun _ => zL1) | 5 => w_Line cs n zL1 | 6 => w_Line cs r zL1 | _ => linesW cs b 2 (fun _ => zL1)) (show [0, 1, 2, 3, 4, 5, 6, 7].Perm [0, 1, 2, 3, 5, 6, 7, 4] by decide)
      simp only [List.map_cons, List.map_nil, List.flatten_cons, List.flatten_nil, List.append_nil] at hz
      simpa only [List.append_assoc] using hz
    have hP := z_perm_P hperm hP
    have hD := z_perm_D hperm hD
    refine W.widen (k := 187) (n := 6188) (by decide) (by decide) ?_
    exact W.vret hx hb hr (fun t9 ht hW => ⟨⟨(x, t, g, a), rfl, trivial, by rw [ht]; exact hP, hD, by subst exx; rfl⟩, hS.F ht⟩) hS.2.2 dX3_init_96 hlocks
  | succ fu ih =>
    intro i x1 b hin ex1 H locs hP hD hS ls hl
    have hi : i < 2 := by omega
    refine lv_iload_n hx hb dX3_init_72 rfl (lv_at hl 1 rfl) ?_
    refine lv_iconst (v := (2 : Int32)) hx hb dX3_init_73 (by decide) ?_
    refine lv_icmp_ge (tgt := 96) hx hb dX3_init_74 (by decide) (fun c1 => absurd (show nI 2 ≤ nI i by rw [← ex1]; exact c1) (nI_ge hi (by decide))) (fun _ => ?_)
    refine lv_aload_n hx hb dX3_init_77 rfl (lv_at hl 0 rfl) ?_
    refine va_get (D := D) (ci := 3) (v := .ref qs) (C := RX3) (T := TX3) (N := 7) hx hb hts h_X3_X3_init hown hK hP 0 rfl rfl 3 (by decide) (z_w hts 16 rfl) (fun _ h9 => h9) rfl dX3_init_78 ?_
    refine lv_iload_n hx hb dX3_init_81 rfl (lv_at hl 1 rfl) ?_
    refine va_new (ci := 1) (fs := [.int 0, .int 0, .int 0, .int 0, .null, .null, .null, .null, .null, .null, .null, .null, .null]) (C := RX1) (T := TX1) (N := 13) hx hb hts h_X1_X3_init tyX1 tyX1_ok hown (z_w hts 8 rfl) (z_w hts 9 rfl) (z_w hts 10 rfl) hK hP hD hS hA rfl (fun j hj => by match j, hj with | 0, _ => rfl | 1, _ => rfl | 2, _ => rfl | 3, _ => rfl | 4, _ => rfl | 5, _ => rfl | 6, _ => rfl | 7, _ => rfl | 8, _ => rfl | 9, _ => rfl | 10, _ => rfl | 11, _ => rfl | 12, _ => rfl) (by show _ ≤ 187; omega) (by show _ ≤ 6188; omega) dX3_init_82 (fun qv H hP hD hS => ?_)
    refine lv_dup hx hb dX3_init_85 rfl ?_
    have hPx := z_perm_P List.perm_append_comm hP
    have hDx := z_perm_D List.perm_append_comm hD
    have hPc := (z_app_P hPx).1
    have hDc := (z_app_D hDx).1
    have hFc := z_free hDx hS hA
    refine va_callv (va_runI (As := []) (rest := [.ref qv, .int x1, .ref qs]) ⟨hx, hb, hml, hown, hts⟩ (c_X1_init l D cs qv H.size (fun L => L = zL1) zL1_ok) (cwI 0 hts gX3_init_X1_init rfl rfl rfl (z_w hts 10 rfl) (z_w hts 27 rfl) (z_w hts 28 rfl) rfl (by decide +kernel) ⟨Nat.le_of_ble_eq_true rfl, Nat.le_of_ble_eq_true rfl⟩) (PC_S hPc hDc hKK) rfl rfl hl.1 rfl (lv_room (Nat.le_of_ble_eq_true rfl)) dX3_init_86 ⟨by show _ ≤ 187; omega, by show _ ≤ 6188; omega⟩) hS (fun q _ h => hFc q h) hFc (fun u t9 H locs ht hvm hw hB hz1 hk1 hS => ?_)
    obtain ⟨q, L⟩ := u
    obtain rfl : L = zL1 := hw
    obtain ⟨hP1, hD1, hq0⟩ := hB
    rw [ht] at hP1
    have hq0 : q 0 = qv := hq0
    subst hq0
    obtain ⟨hP, hD⟩ := z_join hPx hDx hk1 hFc hP1 hD1
    refine va_astq hx hb hK hP hD hS 11 4 0 1 rfl rfl rfl rfl (vp_in_i2 hi ex1) dX3_init_89 (fun H locs hP hD hS => ?_)
    obtain ⟨x2, ex2⟩ : ∃ y : Int32, y = x1 + 1 := ⟨_, rfl⟩
    refine lv_iinc (v := x2) (lv' := [(1, .int x2), (0, .ref h0)]) hx hb dX3_init_90 hl (k := 1) rfl (by rw [ex2]; rfl) (by decide) rfl (fun ls hl => ?_)
    refine lv_goto (tgt := 72) hx hb dX3_init_93 (by decide) ?_
    have ei : x1.toNatClampNeg = i := by rw [ex1]; exact nI_clamp (by omega)
    rw [ei] at hP hD
    obtain ⟨b', eb'⟩ : ∃ z : Nat → Nat → Nat, z = va_up b i q := ⟨_, rfl⟩
    have ef : va_up (fun k => if k < i then some (b k 0) else none) i (some (q 0)) = (fun k => if k < i + 1 then some (b' k 0) else none) := by
      funext k
      rw [eb']
      unfold va_up
      by_cases hk : k = i
      · subst hk
        simp
      · simp only [if_neg hk]
        by_cases hk2 : k < i
        · rw [if_pos hk2, if_pos (by omega)]
        · rw [if_neg hk2, if_neg (by omega)]
    have hlast : linesW cs b' (i + 1) (fun _ => zL1) = linesW cs b i (fun _ => zL1) ++ w_Line cs q zL1 := by
      rw [linesW_succ, linesW_congr (a' := b) (Ls' := fun _ => zL1) (fun k hk => ⟨by rw [eb']; exact if_neg (by omega), rfl⟩)]
      rw [show b' i = q by rw [eb']; exact if_pos rfl]
    have hperm : ((w_Line cs q zL1 ++ ([(h0, .inr (3, [.ref (t 0), .ref (n 0), .ref (g 0), .ref qs, .ref qu, .ref (r 0), .ref qk])), (qs, .inl (cs 4, 2, .inr (.inr (.inr (.inr (va_up (fun k => if k < i then some (b k 0) else none) i (some (q 0))))))))] ++ (RR ++ linesW cs b i (fun _ => zL1)))) : va_W).Perm ([(h0, .inr (3, [.ref (t 0), .ref (n 0), .ref (g 0), .ref qs, .ref qu, .ref (r 0), .ref qk])), (qs, .inl (cs 4, 2, .inr (.inr (.inr (.inr (fun k => if k < (i + 1) then some (b' k 0) else none))))))] ++ (RR ++ linesW cs b' (i + 1) (fun _ => zL1))) := by
      rw [hlast, ef]
      refine List.perm_append_comm.trans (List.Perm.of_eq ?_)
      rw [List.append_assoc, List.append_assoc]
    have hP := z_perm_P hperm hP
    have hD := z_perm_D hperm hD
    refine W.widen (k := 167 + 10 * (i + 1)) (n := 5500 + 335 * (i + 1)) (by omega) (by omega) ?_
    exact ih (i + 1) x2 b' (by omega) (by rw [ex2, ex1]; exact nI_1 i) _ _ hP hD hS ls (lv_sub hl [1, 0] rfl)
set_option maxHeartbeats 8000000 in
set_option maxRecDepth 100000 in
theorem c_X3_init (l : Launch) (D : va_G) (cs : Nat → ClassId) (h0 : Nat) (sz : Nat) : Met l yX3_init wsX3_init ({ frames := 3, cells := 187, slots := 6188, locals := 55 } : Room) (va_Pc [.ref h0] (PC D cs ([(h0, .inr (3, [.null, .null, .null, .null, .null, .null, .null]))]) sz)) (va_Qv (fun (u : (Nat → Nat) × (Nat → Nat) × (Nat → Nat) × (Nat → Nat → Nat)) => True) (fun (u : (Nat → Nat) × (Nat → Nat) × (Nat → Nat) × (Nat → Nat → Nat)) t => va_P D vwCl (w_Xo cs u.1 u.2.1 u.2.2.1 u.2.2.2 zX0 ++ w_Text cs u.2.1 zT0 ++ w_Hist cs u.2.2.1 u.2.2.2 (0, 0) ++ linesW cs u.2.2.2 18 (fun _ => zL1)) t.heap ∧ va_D (va_A ([(h0, .inr (3, [.null, .null, .null, .null, .null, .null, .null]))]) sz) (w_Xo cs u.1 u.2.1 u.2.2.1 u.2.2.2 zX0 ++ w_Text cs u.2.1 zT0 ++ w_Hist cs u.2.2.1 u.2.2.2 (0, 0) ++ linesW cs u.2.2.2 18 (fun _ => zL1)) ∧ u.1 0 = h0) (va_A ([(h0, .inr (3, [.null, .null, .null, .null, .null, .null, .null]))]) sz)) 187 6188 (va_A ([(h0, .inr (3, [.null, .null, .null, .null, .null, .null, .null]))]) sz) := by
  refine Met.ofW (cc := cX3_init) (maxL := 2) (ret := none) (by decide) rfl ?_
  intro p e s m args below meth c s₁ B hml hv
  obtain ⟨rfl, hsz, hP, hKK, hD0⟩ := hv
  have hC : MAt p s m _ meth c RX3 cX3_init 2 none wsX3_init D cs := ⟨B.exec, B.bytes, B.returns, hml, findClass_of_methodNamed B.named, atoms_spec (ws := wsX3_init) B.pre, B.notSynchronized, hKK⟩
  have hin : meth.name = "<init>" := (name_of_methodNamed B.named B.method).1
  obtain ⟨hx, hb, hr, hml, hown, hts, hlocks, -⟩ := id hC
  have hK := hKK.1
  have hl := lv_entry ([.ref h0]) (n := 2) (Nat.le_of_ble_eq_true rfl)
  rw [lg_entry_eq]
  generalize (lg_sl ([.ref h0]) ++ List.replicate (2 - (lg_sl ([.ref h0])).length) Slot.unset).toArray = ls at hl ⊢
  have hl : lv_has ls 2 [(0, .ref h0)] := hl
  subst hsz
  have hD := hD0.self (sz := s.heap.size)
  generalize hAe : va_A ([(h0, .inr (3, [.null, .null, .null, .null, .null, .null, .null]))]) s.heap.size = A at hD ⊢
  have hA : ∀ z : Nat, s.heap.size ≤ z → A z := fun z h => by rw [← hAe]; exact Or.inr h
  have hS : va_S A s.heap s.heap [] := va_S.rf
  have hP : va_P D vwCl ([(h0, .inr (3, [.null, .null, .null, .null, .null, .null, .null]))]) s.heap := hP
  refine lv_aload_n hx hb dX3_init_0 rfl (lv_at hl 0 rfl) ?_
  refine W.objInit hx hb hown (z_w hts 1 rfl) (z_w hts 2 rfl) (z_w hts 3 rfl) rfl (by rw [hml]; exact hl.1) rfl dX3_init_1 (Nat.le_of_ble_eq_true rfl) (Nat.le_of_ble_eq_true rfl) ?_
  refine W.eq (g2 := F0 m 4 ls []) rfl ?_
  refine lv_aload_n hx hb dX3_init_4 rfl (lv_at hl 0 rfl) ?_
  refine va_new (ci := 2) (fs := [.null, .int 0]) (C := RX2) (T := TX2) (N := 2) hx hb hts h_X2_X3_init tyX2 tyX2_ok hown (z_w hts 4 rfl) (z_w hts 5 rfl) (z_w hts 6 rfl) hK hP hD hS hA rfl (fun j hj => by match j, hj with | 0, _ => rfl | 1, _ => rfl) (Nat.le_of_ble_eq_true rfl) (Nat.le_of_ble_eq_true rfl) dX3_init_5 (fun qv H hP hD hS => ?_)
  refine lv_dup hx hb dX3_init_8 rfl ?_
  have hPx := z_perm_P List.perm_append_comm hP
  have hDx := z_perm_D List.perm_append_comm hD
  have hPc := (z_app_P hPx).1
  have hDc := (z_app_D hDx).1
  have hFc := z_free hDx hS hA
  refine va_callv (va_runIN (As := []) (rest := [.ref qv, .ref h0]) ⟨hx, hb, hml, hown, hts⟩ (c_X2_init l D cs qv H.size (fun T => T = zT0) rfl) ⟨va_cnB 0 hts gX3_init_X2_init_n11 rfl rfl rfl hKK.2.1 (z_w hts 6 rfl) (by decide +kernel) ⟨Nat.le_of_ble_eq_true rfl, Nat.le_of_ble_eq_true rfl⟩, rfl, z_w hts 22 rfl⟩ (PC_S hPc hDc hKK) rfl rfl hl.1 rfl (lv_room (Nat.le_of_ble_eq_true rfl)) dX3_init_9 ⟨Nat.le_of_ble_eq_true rfl, Nat.le_of_ble_eq_true rfl⟩) hS (fun q _ h => hFc q h) hFc (fun u t9 H locs ht hvm hw hB hz1 hk1 hS => ?_)
  obtain ⟨t, T0⟩ := u
  obtain rfl : T0 = zT0 := hw
  obtain ⟨hP1, hD1, hq0⟩ := hB
  rw [ht] at hP1
  have hq0 : t 0 = qv := hq0
  subst hq0
  obtain ⟨hP, hD⟩ := z_join hPx hDx hk1 hFc hP1 hD1
  have hP := z_perm_P List.perm_append_comm hP
  have hD := z_perm_D List.perm_append_comm hD
  have hP : va_P D vwCl ([(h0, .inr (3, [.null, .null, .null, .null, .null, .null, .null]))] ++ w_Text cs t zT0) H := hP
  have hD : va_D A ([(h0, .inr (3, [.null, .null, .null, .null, .null, .null, .null]))] ++ w_Text cs t zT0) := hD
  refine va_putF (D := D) (ci := 3) (v := .ref (t 0)) (ty := .object "LateCarries$LineText") (C := RX3) (T := TX3) (N := 7) hx hb hts h_X3_X3_init tyX3 tyX3_ok nmX3 hown hK hP hD hS 0 rfl rfl 0 (by decide) (z_w hts 7 rfl) (fun _ h9 => h9) rfl hin rfl (by decide +kernel) rfl rfl (Nat.le_of_ble_eq_true rfl) dX3_init_12 (fun H locs hP hD hS => ?_)
  have hP : va_P D vwCl ([(h0, .inr (3, [.ref (t 0), .null, .null, .null, .null, .null, .null]))] ++ w_Text cs t zT0) H := hP
  have hD : va_D A ([(h0, .inr (3, [.ref (t 0), .null, .null, .null, .null, .null, .null]))] ++ w_Text cs t zT0) := hD
  refine lv_aload_n hx hb dX3_init_15 rfl (lv_at hl 0 rfl) ?_
  refine va_new (ci := 1) (fs := [.int 0, .int 0, .int 0, .int 0, .null, .null, .null, .null, .null, .null, .null, .null, .null]) (C := RX1) (T := TX1) (N := 13) hx hb hts h_X1_X3_init tyX1 tyX1_ok hown (z_w hts 8 rfl) (z_w hts 9 rfl) (z_w hts 10 rfl) hK hP hD hS hA rfl (fun j hj => by match j, hj with | 0, _ => rfl | 1, _ => rfl | 2, _ => rfl | 3, _ => rfl | 4, _ => rfl | 5, _ => rfl | 6, _ => rfl | 7, _ => rfl | 8, _ => rfl | 9, _ => rfl | 10, _ => rfl | 11, _ => rfl | 12, _ => rfl) (Nat.le_of_ble_eq_true rfl) (Nat.le_of_ble_eq_true rfl) dX3_init_16 (fun qv H hP hD hS => ?_)
  refine lv_dup hx hb dX3_init_19 rfl ?_
  have hPx := z_perm_P List.perm_append_comm hP
  have hDx := z_perm_D List.perm_append_comm hD
  have hPc := (z_app_P hPx).1
  have hDc := (z_app_D hDx).1
  have hFc := z_free hDx hS hA
  refine va_callv (va_runI (As := []) (rest := [.ref qv, .ref h0]) ⟨hx, hb, hml, hown, hts⟩ (c_X1_init l D cs qv H.size (fun L => L = zL1) zL1_ok) (cwI 0 hts gX3_init_X1_init rfl rfl rfl (z_w hts 10 rfl) (z_w hts 27 rfl) (z_w hts 28 rfl) rfl (by decide +kernel) ⟨Nat.le_of_ble_eq_true rfl, Nat.le_of_ble_eq_true rfl⟩) (PC_S hPc hDc hKK) rfl rfl hl.1 rfl (lv_room (Nat.le_of_ble_eq_true rfl)) dX3_init_20 ⟨Nat.le_of_ble_eq_true rfl, Nat.le_of_ble_eq_true rfl⟩) hS (fun q _ h => hFc q h) hFc (fun u t9 H locs ht hvm hw hB hz1 hk1 hS => ?_)
  obtain ⟨n, L1⟩ := u
  obtain rfl : L1 = zL1 := hw
  obtain ⟨hP1, hD1, hq0⟩ := hB
  rw [ht] at hP1
  have hq0 : n 0 = qv := hq0
  subst hq0
  obtain ⟨hP, hD⟩ := z_join hPx hDx hk1 hFc hP1 hD1
  have hP := z_perm_P z_front hP
  have hD := z_perm_D z_front hD
  have hP : va_P D vwCl ([(h0, .inr (3, [.ref (t 0), .null, .null, .null, .null, .null, .null]))] ++ (w_Line cs n zL1 ++ w_Text cs t zT0)) H := hP
  have hD : va_D A ([(h0, .inr (3, [.ref (t 0), .null, .null, .null, .null, .null, .null]))] ++ (w_Line cs n zL1 ++ w_Text cs t zT0)) := hD
  refine va_putF (D := D) (ci := 3) (v := .ref (n 0)) (ty := .object "LateCarries$Line") (C := RX3) (T := TX3) (N := 7) hx hb hts h_X3_X3_init tyX3 tyX3_ok nmX3 hown hK hP hD hS 0 rfl rfl 1 (by decide) (z_w hts 11 rfl) (fun _ h9 => h9) rfl hin rfl (by decide +kernel) rfl rfl (Nat.le_of_ble_eq_true rfl) dX3_init_23 (fun H locs hP hD hS => ?_)
  have hP : va_P D vwCl ([(h0, .inr (3, [.ref (t 0), .ref (n 0), .null, .null, .null, .null, .null]))] ++ (w_Line cs n zL1 ++ w_Text cs t zT0)) H := hP
  have hD : va_D A ([(h0, .inr (3, [.ref (t 0), .ref (n 0), .null, .null, .null, .null, .null]))] ++ (w_Line cs n zL1 ++ w_Text cs t zT0)) := hD
  refine lv_aload_n hx hb dX3_init_26 rfl (lv_at hl 0 rfl) ?_
  refine va_new (ci := 0) (fs := [.null, .int 0, .int 0]) (C := RX0) (T := TX0) (N := 3) hx hb hts h_X0_X3_init tyX0 tyX0_ok hown (z_w hts 12 rfl) (z_w hts 13 rfl) (z_w hts 14 rfl) hK hP hD hS hA rfl (fun j hj => by match j, hj with | 0, _ => rfl | 1, _ => rfl | 2, _ => rfl) (Nat.le_of_ble_eq_true rfl) (Nat.le_of_ble_eq_true rfl) dX3_init_27 (fun qv H hP hD hS => ?_)
  refine lv_dup hx hb dX3_init_30 rfl ?_
  have hPx := z_perm_P List.perm_append_comm hP
  have hDx := z_perm_D List.perm_append_comm hD
  have hPc := (z_app_P hPx).1
  have hDc := (z_app_D hDx).1
  have hFc := z_free hDx hS hA
  refine va_callv (va_runI (As := []) (rest := [.ref qv, .ref h0]) ⟨hx, hb, hml, hown, hts⟩ (c_X0_init l D cs qv H.size) (cwI 0 hts gX3_init_X0_init rfl rfl rfl (z_w hts 14 rfl) (z_w hts 43 rfl) (z_w hts 44 rfl) rfl (by decide +kernel) ⟨Nat.le_of_ble_eq_true rfl, Nat.le_of_ble_eq_true rfl⟩) (PC_S hPc hDc hKK) rfl rfl hl.1 rfl (lv_room (Nat.le_of_ble_eq_true rfl)) dX3_init_31 ⟨Nat.le_of_ble_eq_true rfl, Nat.le_of_ble_eq_true rfl⟩) hS (fun q _ h => hFc q h) hFc (fun u t9 H locs ht hvm hw hB hz1 hk1 hS => ?_)
  obtain ⟨g, ah⟩ := u
  obtain ⟨hP1, hD1, hq0⟩ := hB
  rw [ht] at hP1
  have hq0 : g 0 = qv := hq0
  subst hq0
  obtain ⟨hP, hD⟩ := z_join hPx hDx hk1 hFc hP1 hD1
  have hP := z_perm_P z_front hP
  have hD := z_perm_D z_front hD
  have hP : va_P D vwCl ([(h0, .inr (3, [.ref (t 0), .ref (n 0), .null, .null, .null, .null, .null]))] ++ ((w_HistI cs g ah (0, 0) ++ linesW cs ah 14 (fun _ => zL1)) ++ (w_Line cs n zL1 ++ w_Text cs t zT0))) H := hP
  have hD : va_D A ([(h0, .inr (3, [.ref (t 0), .ref (n 0), .null, .null, .null, .null, .null]))] ++ ((w_HistI cs g ah (0, 0) ++ linesW cs ah 14 (fun _ => zL1)) ++ (w_Line cs n zL1 ++ w_Text cs t zT0))) := hD
  refine va_putF (D := D) (ci := 3) (v := .ref (g 0)) (ty := .object "LateCarries$History") (C := RX3) (T := TX3) (N := 7) hx hb hts h_X3_X3_init tyX3 tyX3_ok nmX3 hown hK hP hD hS 0 rfl rfl 2 (by decide) (z_w hts 15 rfl) (fun _ h9 => h9) rfl hin rfl (by decide +kernel) rfl rfl (Nat.le_of_ble_eq_true rfl) dX3_init_34 (fun H locs hP hD hS => ?_)
  have hP : va_P D vwCl ([(h0, .inr (3, [.ref (t 0), .ref (n 0), .ref (g 0), .null, .null, .null, .null]))] ++ ((w_HistI cs g ah (0, 0) ++ linesW cs ah 14 (fun _ => zL1)) ++ (w_Line cs n zL1 ++ w_Text cs t zT0))) H := hP
  have hD : va_D A ([(h0, .inr (3, [.ref (t 0), .ref (n 0), .ref (g 0), .null, .null, .null, .null]))] ++ ((w_HistI cs g ah (0, 0) ++ linesW cs ah 14 (fun _ => zL1)) ++ (w_Line cs n zL1 ++ w_Text cs t zT0))) := hD
  refine lv_aload_n hx hb dX3_init_37 rfl (lv_at hl 0 rfl) ?_
  refine lv_iconst (v := (2 : Int32)) hx hb dX3_init_38 (by decide) ?_
  refine va_newq (N' := 2) hx hb hown (z_w hts 8 rfl) hKK.2.2.2.2 hK hP hD hS hA (by decide) (by decide) (Nat.le_of_ble_eq_true rfl) (Nat.le_of_ble_eq_true rfl) (Nat.le_of_ble_eq_true rfl) dX3_init_39 (fun qs cA H hK1 hP hD hS => ?_)
  obtain rfl := z_c4 hK1
  have hP := z_perm_P (List.Perm.of_eq (List.append_assoc _ _ _)) hP
  have hD := z_perm_D (List.Perm.of_eq (List.append_assoc _ _ _)) hD
  have hP : va_P D vwCl ([(h0, .inr (3, [.ref (t 0), .ref (n 0), .ref (g 0), .null, .null, .null, .null]))] ++ (((w_HistI cs g ah (0, 0) ++ linesW cs ah 14 (fun _ => zL1)) ++ (w_Line cs n zL1 ++ w_Text cs t zT0)) ++ [(qs, .inl (cs 4, 2, .inr (.inr (.inr (.inr (fun _ => none))))))])) H := hP
  have hD : va_D A ([(h0, .inr (3, [.ref (t 0), .ref (n 0), .ref (g 0), .null, .null, .null, .null]))] ++ (((w_HistI cs g ah (0, 0) ++ linesW cs ah 14 (fun _ => zL1)) ++ (w_Line cs n zL1 ++ w_Text cs t zT0)) ++ [(qs, .inl (cs 4, 2, .inr (.inr (.inr (.inr (fun _ => none))))))])) := hD
  refine va_putF (D := D) (ci := 3) (v := .ref qs) (ty := .array (.object "LateCarries$Line")) (C := RX3) (T := TX3) (N := 7) hx hb hts h_X3_X3_init tyX3 tyX3_ok nmX3 hown hK hP hD hS 0 rfl rfl 3 (by decide) (z_w hts 16 rfl) (fun _ h9 => h9) rfl hin rfl (by decide +kernel) rfl rfl (Nat.le_of_ble_eq_true rfl) dX3_init_42 (fun H locs hP hD hS => ?_)
  have hP : va_P D vwCl ([(h0, .inr (3, [.ref (t 0), .ref (n 0), .ref (g 0), .ref qs, .null, .null, .null]))] ++ (((w_HistI cs g ah (0, 0) ++ linesW cs ah 14 (fun _ => zL1)) ++ (w_Line cs n zL1 ++ w_Text cs t zT0)) ++ [(qs, .inl (cs 4, 2, .inr (.inr (.inr (.inr (fun _ => none))))))])) H := hP
  have hD : va_D A ([(h0, .inr (3, [.ref (t 0), .ref (n 0), .ref (g 0), .ref qs, .null, .null, .null]))] ++ (((w_HistI cs g ah (0, 0) ++ linesW cs ah 14 (fun _ => zL1)) ++ (w_Line cs n zL1 ++ w_Text cs t zT0)) ++ [(qs, .inl (cs 4, 2, .inr (.inr (.inr (.inr (fun _ => none))))))])) := hD
  refine lv_aload_n hx hb dX3_init_45 rfl (lv_at hl 0 rfl) ?_
  refine lv_iconst (v := (2 : Int32)) hx hb dX3_init_46 (by decide) ?_
  refine va_newa (atype := .boolean) (N' := 2) (a0 := (2, .inl (fun _ => (0 : Int32)))) hx hb (z_w hts 17 rfl) rfl hK hP hD hS hA (fun cA => rfl) (by decide) (by decide) (Nat.le_of_ble_eq_true rfl) (Nat.le_of_ble_eq_true rfl) (Nat.le_of_ble_eq_true rfl) dX3_init_47 (fun qu cA H hK1 hP hD hS => ?_)
  obtain rfl := z_c1 hK1
  have hP := z_perm_P (List.Perm.of_eq (List.append_assoc _ _ _)) hP
  have hD := z_perm_D (List.Perm.of_eq (List.append_assoc _ _ _)) hD
  have hP : va_P D vwCl ([(h0, .inr (3, [.ref (t 0), .ref (n 0), .ref (g 0), .ref qs, .null, .null, .null]))] ++ ((((w_HistI cs g ah (0, 0) ++ linesW cs ah 14 (fun _ => zL1)) ++ (w_Line cs n zL1 ++ w_Text cs t zT0)) ++ [(qs, .inl (cs 4, 2, .inr (.inr (.inr (.inr (fun _ => none))))))]) ++ [(qu, .inl (cs 1, 2, .inl (fun _ => (0 : Int32))))])) H := hP
  have hD : va_D A ([(h0, .inr (3, [.ref (t 0), .ref (n 0), .ref (g 0), .ref qs, .null, .null, .null]))] ++ ((((w_HistI cs g ah (0, 0) ++ linesW cs ah 14 (fun _ => zL1)) ++ (w_Line cs n zL1 ++ w_Text cs t zT0)) ++ [(qs, .inl (cs 4, 2, .inr (.inr (.inr (.inr (fun _ => none))))))]) ++ [(qu, .inl (cs 1, 2, .inl (fun _ => (0 : Int32))))])) := hD
  refine va_putF (D := D) (ci := 3) (v := .ref qu) (ty := .array .boolean) (C := RX3) (T := TX3) (N := 7) hx hb hts h_X3_X3_init tyX3 tyX3_ok nmX3 hown hK hP hD hS 0 rfl rfl 4 (by decide) (z_w hts 18 rfl) (fun _ h9 => h9) rfl hin rfl (by decide +kernel) rfl rfl (Nat.le_of_ble_eq_true rfl) dX3_init_49 (fun H locs hP hD hS => ?_)
  have hP : va_P D vwCl ([(h0, .inr (3, [.ref (t 0), .ref (n 0), .ref (g 0), .ref qs, .ref qu, .null, .null]))] ++ ((((w_HistI cs g ah (0, 0) ++ linesW cs ah 14 (fun _ => zL1)) ++ (w_Line cs n zL1 ++ w_Text cs t zT0)) ++ [(qs, .inl (cs 4, 2, .inr (.inr (.inr (.inr (fun _ => none))))))]) ++ [(qu, .inl (cs 1, 2, .inl (fun _ => (0 : Int32))))])) H := hP
  have hD : va_D A ([(h0, .inr (3, [.ref (t 0), .ref (n 0), .ref (g 0), .ref qs, .ref qu, .null, .null]))] ++ ((((w_HistI cs g ah (0, 0) ++ linesW cs ah 14 (fun _ => zL1)) ++ (w_Line cs n zL1 ++ w_Text cs t zT0)) ++ [(qs, .inl (cs 4, 2, .inr (.inr (.inr (.inr (fun _ => none))))))]) ++ [(qu, .inl (cs 1, 2, .inl (fun _ => (0 : Int32))))])) := hD
  refine lv_aload_n hx hb dX3_init_52 rfl (lv_at hl 0 rfl) ?_
  refine va_new (ci := 1) (fs := [.int 0, .int 0, .int 0, .int 0, .null, .null, .null, .null, .null, .null, .null, .null, .null]) (C := RX1) (T := TX1) (N := 13) hx hb hts h_X1_X3_init tyX1 tyX1_ok hown (z_w hts 8 rfl) (z_w hts 9 rfl) (z_w hts 10 rfl) hK hP hD hS hA rfl (fun j hj => by match j, hj with | 0, _ => rfl | 1, _ => rfl | 2, _ => rfl | 3, _ => rfl | 4, _ => rfl | 5, _ => rfl | 6, _ => rfl | 7, _ => rfl | 8, _ => rfl | 9, _ => rfl | 10, _ => rfl | 11, _ => rfl | 12, _ => rfl) (Nat.le_of_ble_eq_true rfl) (Nat.le_of_ble_eq_true rfl) dX3_init_53 (fun qv H hP hD hS => ?_)
  refine lv_dup hx hb dX3_init_56 rfl ?_
  have hPx := z_perm_P List.perm_append_comm hP
  have hDx := z_perm_D List.perm_append_comm hD
  have hPc := (z_app_P hPx).1
  have hDc := (z_app_D hDx).1
  have hFc := z_free hDx hS hA
  refine va_callv (va_runI (As := []) (rest := [.ref qv, .ref h0]) ⟨hx, hb, hml, hown, hts⟩ (c_X1_init l D cs qv H.size (fun L => L = zL1) zL1_ok) (cwI 0 hts gX3_init_X1_init rfl rfl rfl (z_w hts 10 rfl) (z_w hts 27 rfl) (z_w hts 28 rfl) rfl (by decide +kernel) ⟨Nat.le_of_ble_eq_true rfl, Nat.le_of_ble_eq_true rfl⟩) (PC_S hPc hDc hKK) rfl rfl hl.1 rfl (lv_room (Nat.le_of_ble_eq_true rfl)) dX3_init_57 ⟨Nat.le_of_ble_eq_true rfl, Nat.le_of_ble_eq_true rfl⟩) hS (fun q _ h => hFc q h) hFc (fun u t9 H locs ht hvm hw hB hz1 hk1 hS => ?_)
  obtain ⟨r, L1⟩ := u
  obtain rfl : L1 = zL1 := hw
  obtain ⟨hP1, hD1, hq0⟩ := hB
  rw [ht] at hP1
  have hq0 : r 0 = qv := hq0
  subst hq0
  obtain ⟨hP, hD⟩ := z_join hPx hDx hk1 hFc hP1 hD1
  have hP := z_perm_P z_front hP
  have hD := z_perm_D z_front hD
  have hP : va_P D vwCl ([(h0, .inr (3, [.ref (t 0), .ref (n 0), .ref (g 0), .ref qs, .ref qu, .null, .null]))] ++ (w_Line cs r zL1 ++ ((((w_HistI cs g ah (0, 0) ++ linesW cs ah 14 (fun _ => zL1)) ++ (w_Line cs n zL1 ++ w_Text cs t zT0)) ++ [(qs, .inl (cs 4, 2, .inr (.inr (.inr (.inr (fun _ => none))))))]) ++ [(qu, .inl (cs 1, 2, .inl (fun _ => (0 : Int32))))]))) H := hP
  have hD : va_D A ([(h0, .inr (3, [.ref (t 0), .ref (n 0), .ref (g 0), .ref qs, .ref qu, .null, .null]))] ++ (w_Line cs r zL1 ++ ((((w_HistI cs g ah (0, 0) ++ linesW cs ah 14 (fun _ => zL1)) ++ (w_Line cs n zL1 ++ w_Text cs t zT0)) ++ [(qs, .inl (cs 4, 2, .inr (.inr (.inr (.inr (fun _ => none))))))]) ++ [(qu, .inl (cs 1, 2, .inl (fun _ => (0 : Int32))))]))) := hD
  refine va_putF (D := D) (ci := 3) (v := .ref (r 0)) (ty := .object "LateCarries$Line") (C := RX3) (T := TX3) (N := 7) hx hb hts h_X3_X3_init tyX3 tyX3_ok nmX3 hown hK hP hD hS 0 rfl rfl 5 (by decide) (z_w hts 19 rfl) (fun _ h9 => h9) rfl hin rfl (by decide +kernel) rfl rfl (Nat.le_of_ble_eq_true rfl) dX3_init_60 (fun H locs hP hD hS => ?_)
  have hP : va_P D vwCl ([(h0, .inr (3, [.ref (t 0), .ref (n 0), .ref (g 0), .ref qs, .ref qu, .ref (r 0), .null]))] ++ (w_Line cs r zL1 ++ ((((w_HistI cs g ah (0, 0) ++ linesW cs ah 14 (fun _ => zL1)) ++ (w_Line cs n zL1 ++ w_Text cs t zT0)) ++ [(qs, .inl (cs 4, 2, .inr (.inr (.inr (.inr (fun _ => none))))))]) ++ [(qu, .inl (cs 1, 2, .inl (fun _ => (0 : Int32))))]))) H := hP
  have hD : va_D A ([(h0, .inr (3, [.ref (t 0), .ref (n 0), .ref (g 0), .ref qs, .ref qu, .ref (r 0), .null]))] ++ (w_Line cs r zL1 ++ ((((w_HistI cs g ah (0, 0) ++ linesW cs ah 14 (fun _ => zL1)) ++ (w_Line cs n zL1 ++ w_Text cs t zT0)) ++ [(qs, .inl (cs 4, 2, .inr (.inr (.inr (.inr (fun _ => none))))))]) ++ [(qu, .inl (cs 1, 2, .inl (fun _ => (0 : Int32))))]))) := hD
  refine lv_aload_n hx hb dX3_init_63 rfl (lv_at hl 0 rfl) ?_
  refine lv_iconst (v := (3 : Int32)) hx hb dX3_init_64 (by decide) ?_
  refine va_newa (atype := .int) (N' := 3) (a0 := (3, .inl (fun _ => (0 : Int32)))) hx hb (z_w hts 20 rfl) rfl hK hP hD hS hA (fun cA => rfl) (by decide) (by decide) (Nat.le_of_ble_eq_true rfl) (Nat.le_of_ble_eq_true rfl) (Nat.le_of_ble_eq_true rfl) dX3_init_65 (fun qk cA H hK1 hP hD hS => ?_)
  obtain rfl := z_c0 hK1
  have hP := z_perm_P (List.Perm.of_eq (List.append_assoc _ _ _)) hP
  have hD := z_perm_D (List.Perm.of_eq (List.append_assoc _ _ _)) hD
  have hP : va_P D vwCl ([(h0, .inr (3, [.ref (t 0), .ref (n 0), .ref (g 0), .ref qs, .ref qu, .ref (r 0), .null]))] ++ ((w_Line cs r zL1 ++ ((((w_HistI cs g ah (0, 0) ++ linesW cs ah 14 (fun _ => zL1)) ++ (w_Line cs n zL1 ++ w_Text cs t zT0)) ++ [(qs, .inl (cs 4, 2, .inr (.inr (.inr (.inr (fun _ => none))))))]) ++ [(qu, .inl (cs 1, 2, .inl (fun _ => (0 : Int32))))])) ++ [(qk, .inl (cs 0, 3, .inl (fun _ => (0 : Int32))))])) H := hP
  have hD : va_D A ([(h0, .inr (3, [.ref (t 0), .ref (n 0), .ref (g 0), .ref qs, .ref qu, .ref (r 0), .null]))] ++ ((w_Line cs r zL1 ++ ((((w_HistI cs g ah (0, 0) ++ linesW cs ah 14 (fun _ => zL1)) ++ (w_Line cs n zL1 ++ w_Text cs t zT0)) ++ [(qs, .inl (cs 4, 2, .inr (.inr (.inr (.inr (fun _ => none))))))]) ++ [(qu, .inl (cs 1, 2, .inl (fun _ => (0 : Int32))))])) ++ [(qk, .inl (cs 0, 3, .inl (fun _ => (0 : Int32))))])) := hD
  refine va_putF (D := D) (ci := 3) (v := .ref qk) (ty := .array .int) (C := RX3) (T := TX3) (N := 7) hx hb hts h_X3_X3_init tyX3 tyX3_ok nmX3 hown hK hP hD hS 0 rfl rfl 6 (by decide) (z_w hts 21 rfl) (fun _ h9 => h9) rfl hin rfl (by decide +kernel) rfl rfl (Nat.le_of_ble_eq_true rfl) dX3_init_67 (fun H locs hP hD hS => ?_)
  have hP : va_P D vwCl ([(h0, .inr (3, [.ref (t 0), .ref (n 0), .ref (g 0), .ref qs, .ref qu, .ref (r 0), .ref qk]))] ++ ((w_Line cs r zL1 ++ ((((w_HistI cs g ah (0, 0) ++ linesW cs ah 14 (fun _ => zL1)) ++ (w_Line cs n zL1 ++ w_Text cs t zT0)) ++ [(qs, .inl (cs 4, 2, .inr (.inr (.inr (.inr (fun _ => none))))))]) ++ [(qu, .inl (cs 1, 2, .inl (fun _ => (0 : Int32))))])) ++ [(qk, .inl (cs 0, 3, .inl (fun _ => (0 : Int32))))])) H := hP
  have hD : va_D A ([(h0, .inr (3, [.ref (t 0), .ref (n 0), .ref (g 0), .ref qs, .ref qu, .ref (r 0), .ref qk]))] ++ ((w_Line cs r zL1 ++ ((((w_HistI cs g ah (0, 0) ++ linesW cs ah 14 (fun _ => zL1)) ++ (w_Line cs n zL1 ++ w_Text cs t zT0)) ++ [(qs, .inl (cs 4, 2, .inr (.inr (.inr (.inr (fun _ => none))))))]) ++ [(qu, .inl (cs 1, 2, .inl (fun _ => (0 : Int32))))])) ++ [(qk, .inl (cs 0, 3, .inl (fun _ => (0 : Int32))))])) := hD
  refine lv_iconst (v := (0 : Int32)) hx hb dX3_init_70 (by decide) ?_
  refine lv_istore_n (lv' := [(1, .int (0 : Int32)), (0, .ref h0)]) hx hb dX3_init_71 rfl hl (by decide) rfl (fun ls hl => ?_)
  have e0 : (fun k : Nat => if k < 0 then some ((fun _ _ => 0 : Nat → Nat → Nat) k 0) else none) = (fun _ => none) := by funext k; exact if_neg (Nat.not_lt_zero k)
  obtain ⟨RR, hRR⟩ : ∃ z : va_W, z = (([(qu, .inl (cs 1, 2, .inl (fun _ => (0 : Int32)))), (qk, .inl (cs 0, 3, .inl (fun _ => (0 : Int32))))] ++ w_Text cs t zT0) ++ ((w_HistI cs g ah (0, 0) ++ linesW cs ah 14 (fun _ => zL1)) ++ (w_Line cs n zL1 ++ w_Line cs r zL1))) := ⟨_, rfl⟩
  have hperm : ([(h0, .inr (3, [.ref (t 0), .ref (n 0), .ref (g 0), .ref qs, .ref qu, .ref (r 0), .ref qk]))] ++ ((w_Line cs r zL1 ++ ((((w_HistI cs g ah (0, 0) ++ linesW cs ah 14 (fun _ => zL1)) ++ (w_Line cs n zL1 ++ w_Text cs t zT0)) ++ [(qs, .inl (cs 4, 2, .inr (.inr (.inr (.inr (fun _ => none))))))]) ++ [(qu, .inl (cs 1, 2, .inl (fun _ => (0 : Int32))))])) ++ [(qk, .inl (cs 0, 3, .inl (fun _ => (0 : Int32))))]) : va_W).Perm ([(h0, .inr (3, [.ref (t 0), .ref (n 0), .ref (g 0), .ref qs, .ref qu, .ref (r 0), .ref qk])), (qs, .inl (cs 4, 2, .inr (.inr (.inr (.inr (fun _ => none))))))] ++ (RR ++ linesW cs (fun _ _ => 0) 0 (fun _ => zL1))) := by
    rw [hRR]
    have hz := z_idx (fun k => match k with | 0 => ([(h0, .inr (3, [.ref (t 0), .ref (n 0), .ref (g 0), .ref qs, .ref qu, .ref (r 0), .ref qk]))] : va_W) | 1 => w_Line cs r zL1 | 2 => w_HistI cs g ah (0, 0) | 3 => linesW cs ah 14 (fun _ => zL1) | 4 => w_Line cs n zL1 | 5 => w_Text cs t zT0 | 6 => [(qs, .inl (cs 4, 2, .inr (.inr (.inr (.inr (fun _ => none))))))] | 7 => [(qu, .inl (cs 1, 2, .inl (fun _ => (0 : Int32))))] | _ => [(qk, .inl (cs 0, 3, .inl (fun _ => (0 : Int32))))]) (show [0, 1, 2, 3, 4, 5, 6, 7, 8].Perm [0, 6, 7, 8, 5, 2, 3, 4, 1] by decide)
    simp only [List.map_cons, List.map_nil, List.flatten_cons, List.flatten_nil, List.append_nil] at hz
    have e1 : linesW cs (fun _ _ => 0) 0 (fun _ => zL1) = [] := rfl
    rw [e1, List.append_nil]
    simpa only [List.append_assoc, List.cons_append, List.nil_append] using hz
  have hP := z_perm_P hperm hP
  have hD := z_perm_D hperm hD
  rw [← e0] at hP hD
  refine W.widen (k := 167 + 10 * 0) (n := 5500 + 335 * 0) (by decide) (by decide) ?_
  exact t_X3_init_72 hC h0 qs qu qk t g n r ah RR hRR hA 2 0 0 (fun _ _ => 0) rfl rfl H _ hP hD hS ls (lv_sub hl [1, 0] rfl)
